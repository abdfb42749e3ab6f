theorem dk_d04_419 : dkc cX12_readWay [(63, .getfield 65, 3), (66, .iload_n 1, 1), (67, .iconst 2, 1), (68, .iadd, 1), (69, .aload_n 0, 1), (70, .bipush 19, 2), (72, .iconst 0, 1), (73, .bipush 11, 2), (75, .invokevirtual 268, 3), (78, .iastore, 1), (79, .aload_n 0, 1), (80, .getfield 65, 3), (83, .iload_n 1, 1), (84, .iconst 2, 1), (85, .iadd, 1), (86, .iaload, 1), (87, .iconst (-1), 1), (88, .if_icmp .ne 7, 3), (91, .iconst (-1), 1), (92, .goto 9, 3), (95, .aload_n 0, 1), (96, .bipush 59, 2), (98, .invokevirtual 272, 3), (101, .ireturn, 1)] = true := by decide +kernel
theorem dX12_readWay_63 : decode cX12_readWay 63 = .ok (.getfield 65, 3) := dk_get dk_d04_419 0 rfl
theorem dX12_readWay_66 : decode cX12_readWay 66 = .ok (.iload_n 1, 1) := dk_get dk_d04_419 1 rfl
theorem dX12_readWay_67 : decode cX12_readWay 67 = .ok (.iconst 2, 1) := dk_get dk_d04_419 2 rfl
theorem dX12_readWay_68 : decode cX12_readWay 68 = .ok (.iadd, 1) := dk_get dk_d04_419 3 rfl
theorem dX12_readWay_69 : decode cX12_readWay 69 = .ok (.aload_n 0, 1) := dk_get dk_d04_419 4 rfl
theorem dX12_readWay_70 : decode cX12_readWay 70 = .ok (.bipush 19, 2) := dk_get dk_d04_419 5 rfl
theorem dX12_readWay_72 : decode cX12_readWay 72 = .ok (.iconst 0, 1) := dk_get dk_d04_419 6 rfl
theorem dX12_readWay_73 : decode cX12_readWay 73 = .ok (.bipush 11, 2) := dk_get dk_d04_419 7 rfl
theorem dX12_readWay_75 : decode cX12_readWay 75 = .ok (.invokevirtual 268, 3) := dk_get dk_d04_419 8 rfl
theorem dX12_readWay_78 : decode cX12_readWay 78 = .ok (.iastore, 1) := dk_get dk_d04_419 9 rfl
theorem dX12_readWay_79 : decode cX12_readWay 79 = .ok (.aload_n 0, 1) := dk_get dk_d04_419 10 rfl
theorem dX12_readWay_80 : decode cX12_readWay 80 = .ok (.getfield 65, 3) := dk_get dk_d04_419 11 rfl
theorem dX12_readWay_83 : decode cX12_readWay 83 = .ok (.iload_n 1, 1) := dk_get dk_d04_419 12 rfl
theorem dX12_readWay_84 : decode cX12_readWay 84 = .ok (.iconst 2, 1) := dk_get dk_d04_419 13 rfl
theorem dX12_readWay_85 : decode cX12_readWay 85 = .ok (.iadd, 1) := dk_get dk_d04_419 14 rfl
theorem dX12_readWay_86 : decode cX12_readWay 86 = .ok (.iaload, 1) := dk_get dk_d04_419 15 rfl
theorem dX12_readWay_87 : decode cX12_readWay 87 = .ok (.iconst (-1), 1) := dk_get dk_d04_419 16 rfl
theorem dX12_readWay_88 : decode cX12_readWay 88 = .ok (.if_icmp .ne 7, 3) := dk_get dk_d04_419 17 rfl
theorem dX12_readWay_91 : decode cX12_readWay 91 = .ok (.iconst (-1), 1) := dk_get dk_d04_419 18 rfl
theorem dX12_readWay_92 : decode cX12_readWay 92 = .ok (.goto 9, 3) := dk_get dk_d04_419 19 rfl
theorem dX12_readWay_95 : decode cX12_readWay 95 = .ok (.aload_n 0, 1) := dk_get dk_d04_419 20 rfl
theorem dX12_readWay_96 : decode cX12_readWay 96 = .ok (.bipush 59, 2) := dk_get dk_d04_419 21 rfl
theorem dX12_readWay_98 : decode cX12_readWay 98 = .ok (.invokevirtual 272, 3) := dk_get dk_d04_419 22 rfl
theorem dX12_readWay_101 : decode cX12_readWay 101 = .ok (.ireturn, 1) := dk_get dk_d04_419 23 rfl
theorem dk_d04_420 : dkc cX12_readWays [(0, .iconst 0, 1), (1, .istore_n 1, 1), (2, .aload_n 0, 1), (3, .bipush 17, 2), (5, .invokevirtual 243, 3), (8, .ifCond .eq 38, 3), (11, .iload_n 1, 1), (12, .bipush 16, 2), (14, .if_icmp .ne 9, 3), (17, .aload_n 0, 1), (18, .iconst 3, 1), (19, .invokevirtual 214, 3), (22, .ireturn, 1), (23, .aload_n 0, 1), (24, .bipush 48, 2), (26, .iconst 3, 1), (27, .iload_n 1, 1), (28, .imul, 1), (29, .iadd, 1), (30, .invokevirtual 275, 3), (33, .iconst (-1), 1), (34, .if_icmp .ne 5, 3), (37, .iconst (-1), 1), (38, .ireturn, 1), (39, .iload_n 1, 1)] = true := by decide +kernel
theorem dX12_readWays_0 : decode cX12_readWays 0 = .ok (.iconst 0, 1) := dk_get dk_d04_420 0 rfl
theorem dX12_readWays_1 : decode cX12_readWays 1 = .ok (.istore_n 1, 1) := dk_get dk_d04_420 1 rfl
theorem dX12_readWays_2 : decode cX12_readWays 2 = .ok (.aload_n 0, 1) := dk_get dk_d04_420 2 rfl
theorem dX12_readWays_3 : decode cX12_readWays 3 = .ok (.bipush 17, 2) := dk_get dk_d04_420 3 rfl
theorem dX12_readWays_5 : decode cX12_readWays 5 = .ok (.invokevirtual 243, 3) := dk_get dk_d04_420 4 rfl
theorem dX12_readWays_8 : decode cX12_readWays 8 = .ok (.ifCond .eq 38, 3) := dk_get dk_d04_420 5 rfl
theorem dX12_readWays_11 : decode cX12_readWays 11 = .ok (.iload_n 1, 1) := dk_get dk_d04_420 6 rfl
theorem dX12_readWays_12 : decode cX12_readWays 12 = .ok (.bipush 16, 2) := dk_get dk_d04_420 7 rfl
theorem dX12_readWays_14 : decode cX12_readWays 14 = .ok (.if_icmp .ne 9, 3) := dk_get dk_d04_420 8 rfl
theorem dX12_readWays_17 : decode cX12_readWays 17 = .ok (.aload_n 0, 1) := dk_get dk_d04_420 9 rfl
theorem dX12_readWays_18 : decode cX12_readWays 18 = .ok (.iconst 3, 1) := dk_get dk_d04_420 10 rfl
theorem dX12_readWays_19 : decode cX12_readWays 19 = .ok (.invokevirtual 214, 3) := dk_get dk_d04_420 11 rfl
theorem dX12_readWays_22 : decode cX12_readWays 22 = .ok (.ireturn, 1) := dk_get dk_d04_420 12 rfl
theorem dX12_readWays_23 : decode cX12_readWays 23 = .ok (.aload_n 0, 1) := dk_get dk_d04_420 13 rfl
theorem dX12_readWays_24 : decode cX12_readWays 24 = .ok (.bipush 48, 2) := dk_get dk_d04_420 14 rfl
theorem dX12_readWays_26 : decode cX12_readWays 26 = .ok (.iconst 3, 1) := dk_get dk_d04_420 15 rfl
theorem dX12_readWays_27 : decode cX12_readWays 27 = .ok (.iload_n 1, 1) := dk_get dk_d04_420 16 rfl
theorem dX12_readWays_28 : decode cX12_readWays 28 = .ok (.imul, 1) := dk_get dk_d04_420 17 rfl
theorem dX12_readWays_29 : decode cX12_readWays 29 = .ok (.iadd, 1) := dk_get dk_d04_420 18 rfl
theorem dX12_readWays_30 : decode cX12_readWays 30 = .ok (.invokevirtual 275, 3) := dk_get dk_d04_420 19 rfl
theorem dX12_readWays_33 : decode cX12_readWays 33 = .ok (.iconst (-1), 1) := dk_get dk_d04_420 20 rfl
theorem dX12_readWays_34 : decode cX12_readWays 34 = .ok (.if_icmp .ne 5, 3) := dk_get dk_d04_420 21 rfl
theorem dX12_readWays_37 : decode cX12_readWays 37 = .ok (.iconst (-1), 1) := dk_get dk_d04_420 22 rfl
theorem dX12_readWays_38 : decode cX12_readWays 38 = .ok (.ireturn, 1) := dk_get dk_d04_420 23 rfl
theorem dX12_readWays_39 : decode cX12_readWays 39 = .ok (.iload_n 1, 1) := dk_get dk_d04_420 24 rfl
theorem dk_d04_421 : dkc cX12_readWays [(40, .iconst 1, 1), (41, .iadd, 1), (42, .istore_n 1, 1), (43, .goto (-41), 3), (46, .aload_n 0, 1), (47, .getfield 183, 3), (50, .ifCond .ne 7, 3), (53, .iload_n 1, 1), (54, .goto 8, 3), (57, .aload_n 0, 1), (58, .iconst 1, 1), (59, .invokevirtual 214, 3), (62, .ireturn, 1)] = true := by decide +kernel
theorem dX12_readWays_40 : decode cX12_readWays 40 = .ok (.iconst 1, 1) := dk_get dk_d04_421 0 rfl
theorem dX12_readWays_41 : decode cX12_readWays 41 = .ok (.iadd, 1) := dk_get dk_d04_421 1 rfl
theorem dX12_readWays_42 : decode cX12_readWays 42 = .ok (.istore_n 1, 1) := dk_get dk_d04_421 2 rfl
theorem dX12_readWays_43 : decode cX12_readWays 43 = .ok (.goto (-41), 3) := dk_get dk_d04_421 3 rfl
theorem dX12_readWays_46 : decode cX12_readWays 46 = .ok (.aload_n 0, 1) := dk_get dk_d04_421 4 rfl
theorem dX12_readWays_47 : decode cX12_readWays 47 = .ok (.getfield 183, 3) := dk_get dk_d04_421 5 rfl
theorem dX12_readWays_50 : decode cX12_readWays 50 = .ok (.ifCond .ne 7, 3) := dk_get dk_d04_421 6 rfl
theorem dX12_readWays_53 : decode cX12_readWays 53 = .ok (.iload_n 1, 1) := dk_get dk_d04_421 7 rfl
theorem dX12_readWays_54 : decode cX12_readWays 54 = .ok (.goto 8, 3) := dk_get dk_d04_421 8 rfl
theorem dX12_readWays_57 : decode cX12_readWays 57 = .ok (.aload_n 0, 1) := dk_get dk_d04_421 9 rfl
theorem dX12_readWays_58 : decode cX12_readWays 58 = .ok (.iconst 1, 1) := dk_get dk_d04_421 10 rfl
theorem dX12_readWays_59 : decode cX12_readWays 59 = .ok (.invokevirtual 214, 3) := dk_get dk_d04_421 11 rfl
theorem dX12_readWays_62 : decode cX12_readWays 62 = .ok (.ireturn, 1) := dk_get dk_d04_421 12 rfl
theorem dk_d04_422 : dkc cX12_readHeat [(0, .aload_n 0, 1), (1, .getfield 68, 3), (4, .iload_n 1, 1), (5, .iconst 3, 1), (6, .iadd, 1), (7, .aload_n 0, 1), (8, .iconst 0, 1), (9, .bipush 9, 2), (11, .invokevirtual 265, 3), (14, .iastore, 1), (15, .aload_n 0, 1), (16, .getfield 68, 3), (19, .iload_n 1, 1), (20, .iconst 3, 1), (21, .iadd, 1), (22, .iaload, 1), (23, .iconst (-1), 1), (24, .if_icmp .ne 5, 3), (27, .iconst (-1), 1), (28, .ireturn, 1), (29, .aload_n 0, 1), (30, .getfield 68, 3), (33, .iload_n 1, 1), (34, .iconst 1, 1), (35, .iadd, 1)] = true := by decide +kernel
theorem dX12_readHeat_0 : decode cX12_readHeat 0 = .ok (.aload_n 0, 1) := dk_get dk_d04_422 0 rfl
theorem dX12_readHeat_1 : decode cX12_readHeat 1 = .ok (.getfield 68, 3) := dk_get dk_d04_422 1 rfl
theorem dX12_readHeat_4 : decode cX12_readHeat 4 = .ok (.iload_n 1, 1) := dk_get dk_d04_422 2 rfl
theorem dX12_readHeat_5 : decode cX12_readHeat 5 = .ok (.iconst 3, 1) := dk_get dk_d04_422 3 rfl
theorem dX12_readHeat_6 : decode cX12_readHeat 6 = .ok (.iadd, 1) := dk_get dk_d04_422 4 rfl
theorem dX12_readHeat_7 : decode cX12_readHeat 7 = .ok (.aload_n 0, 1) := dk_get dk_d04_422 5 rfl
theorem dX12_readHeat_8 : decode cX12_readHeat 8 = .ok (.iconst 0, 1) := dk_get dk_d04_422 6 rfl
theorem dX12_readHeat_9 : decode cX12_readHeat 9 = .ok (.bipush 9, 2) := dk_get dk_d04_422 7 rfl
theorem dX12_readHeat_11 : decode cX12_readHeat 11 = .ok (.invokevirtual 265, 3) := dk_get dk_d04_422 8 rfl
theorem dX12_readHeat_14 : decode cX12_readHeat 14 = .ok (.iastore, 1) := dk_get dk_d04_422 9 rfl
theorem dX12_readHeat_15 : decode cX12_readHeat 15 = .ok (.aload_n 0, 1) := dk_get dk_d04_422 10 rfl
theorem dX12_readHeat_16 : decode cX12_readHeat 16 = .ok (.getfield 68, 3) := dk_get dk_d04_422 11 rfl
theorem dX12_readHeat_19 : decode cX12_readHeat 19 = .ok (.iload_n 1, 1) := dk_get dk_d04_422 12 rfl
theorem dX12_readHeat_20 : decode cX12_readHeat 20 = .ok (.iconst 3, 1) := dk_get dk_d04_422 13 rfl
theorem dX12_readHeat_21 : decode cX12_readHeat 21 = .ok (.iadd, 1) := dk_get dk_d04_422 14 rfl
theorem dX12_readHeat_22 : decode cX12_readHeat 22 = .ok (.iaload, 1) := dk_get dk_d04_422 15 rfl
theorem dX12_readHeat_23 : decode cX12_readHeat 23 = .ok (.iconst (-1), 1) := dk_get dk_d04_422 16 rfl
theorem dX12_readHeat_24 : decode cX12_readHeat 24 = .ok (.if_icmp .ne 5, 3) := dk_get dk_d04_422 17 rfl
theorem dX12_readHeat_27 : decode cX12_readHeat 27 = .ok (.iconst (-1), 1) := dk_get dk_d04_422 18 rfl
theorem dX12_readHeat_28 : decode cX12_readHeat 28 = .ok (.ireturn, 1) := dk_get dk_d04_422 19 rfl
theorem dX12_readHeat_29 : decode cX12_readHeat 29 = .ok (.aload_n 0, 1) := dk_get dk_d04_422 20 rfl
theorem dX12_readHeat_30 : decode cX12_readHeat 30 = .ok (.getfield 68, 3) := dk_get dk_d04_422 21 rfl
theorem dX12_readHeat_33 : decode cX12_readHeat 33 = .ok (.iload_n 1, 1) := dk_get dk_d04_422 22 rfl
theorem dX12_readHeat_34 : decode cX12_readHeat 34 = .ok (.iconst 1, 1) := dk_get dk_d04_422 23 rfl
theorem dX12_readHeat_35 : decode cX12_readHeat 35 = .ok (.iadd, 1) := dk_get dk_d04_422 24 rfl
theorem dk_d04_423 : dkc cX12_readHeat [(36, .aload_n 0, 1), (37, .bipush 18, 2), (39, .iconst 0, 1), (40, .bipush 11, 2), (42, .invokevirtual 268, 3), (45, .iastore, 1), (46, .aload_n 0, 1), (47, .getfield 68, 3), (50, .iload_n 1, 1), (51, .iconst 1, 1), (52, .iadd, 1), (53, .iaload, 1), (54, .ireturn, 1)] = true := by decide +kernel
theorem dX12_readHeat_36 : decode cX12_readHeat 36 = .ok (.aload_n 0, 1) := dk_get dk_d04_423 0 rfl
theorem dX12_readHeat_37 : decode cX12_readHeat 37 = .ok (.bipush 18, 2) := dk_get dk_d04_423 1 rfl
theorem dX12_readHeat_39 : decode cX12_readHeat 39 = .ok (.iconst 0, 1) := dk_get dk_d04_423 2 rfl
theorem dX12_readHeat_40 : decode cX12_readHeat 40 = .ok (.bipush 11, 2) := dk_get dk_d04_423 3 rfl
theorem dX12_readHeat_42 : decode cX12_readHeat 42 = .ok (.invokevirtual 268, 3) := dk_get dk_d04_423 4 rfl
theorem dX12_readHeat_45 : decode cX12_readHeat 45 = .ok (.iastore, 1) := dk_get dk_d04_423 5 rfl
theorem dX12_readHeat_46 : decode cX12_readHeat 46 = .ok (.aload_n 0, 1) := dk_get dk_d04_423 6 rfl
theorem dX12_readHeat_47 : decode cX12_readHeat 47 = .ok (.getfield 68, 3) := dk_get dk_d04_423 7 rfl
theorem dX12_readHeat_50 : decode cX12_readHeat 50 = .ok (.iload_n 1, 1) := dk_get dk_d04_423 8 rfl
theorem dX12_readHeat_51 : decode cX12_readHeat 51 = .ok (.iconst 1, 1) := dk_get dk_d04_423 9 rfl
theorem dX12_readHeat_52 : decode cX12_readHeat 52 = .ok (.iadd, 1) := dk_get dk_d04_423 10 rfl
theorem dX12_readHeat_53 : decode cX12_readHeat 53 = .ok (.iaload, 1) := dk_get dk_d04_423 11 rfl
theorem dX12_readHeat_54 : decode cX12_readHeat 54 = .ok (.ireturn, 1) := dk_get dk_d04_423 12 rfl
theorem dk_d04_424 : dkc cX12_readPutty [(0, .aload_n 0, 1), (1, .getfield 68, 3), (4, .iload_n 1, 1), (5, .iconst 1, 1), (6, .iadd, 1), (7, .aload_n 0, 1), (8, .bipush 18, 2), (10, .iconst 0, 1), (11, .bipush 11, 2), (13, .invokevirtual 268, 3), (16, .iastore, 1), (17, .aload_n 0, 1), (18, .getfield 68, 3), (21, .iload_n 1, 1), (22, .iconst 1, 1), (23, .iadd, 1), (24, .iaload, 1), (25, .iconst (-1), 1), (26, .if_icmp .ne 5, 3), (29, .iconst (-1), 1), (30, .ireturn, 1), (31, .aload_n 0, 1), (32, .getfield 68, 3), (35, .iload_n 1, 1), (36, .iconst 3, 1)] = true := by decide +kernel
theorem dX12_readPutty_0 : decode cX12_readPutty 0 = .ok (.aload_n 0, 1) := dk_get dk_d04_424 0 rfl
theorem dX12_readPutty_1 : decode cX12_readPutty 1 = .ok (.getfield 68, 3) := dk_get dk_d04_424 1 rfl
theorem dX12_readPutty_4 : decode cX12_readPutty 4 = .ok (.iload_n 1, 1) := dk_get dk_d04_424 2 rfl
theorem dX12_readPutty_5 : decode cX12_readPutty 5 = .ok (.iconst 1, 1) := dk_get dk_d04_424 3 rfl
theorem dX12_readPutty_6 : decode cX12_readPutty 6 = .ok (.iadd, 1) := dk_get dk_d04_424 4 rfl
theorem dX12_readPutty_7 : decode cX12_readPutty 7 = .ok (.aload_n 0, 1) := dk_get dk_d04_424 5 rfl
theorem dX12_readPutty_8 : decode cX12_readPutty 8 = .ok (.bipush 18, 2) := dk_get dk_d04_424 6 rfl
theorem dX12_readPutty_10 : decode cX12_readPutty 10 = .ok (.iconst 0, 1) := dk_get dk_d04_424 7 rfl
theorem dX12_readPutty_11 : decode cX12_readPutty 11 = .ok (.bipush 11, 2) := dk_get dk_d04_424 8 rfl
theorem dX12_readPutty_13 : decode cX12_readPutty 13 = .ok (.invokevirtual 268, 3) := dk_get dk_d04_424 9 rfl
theorem dX12_readPutty_16 : decode cX12_readPutty 16 = .ok (.iastore, 1) := dk_get dk_d04_424 10 rfl
theorem dX12_readPutty_17 : decode cX12_readPutty 17 = .ok (.aload_n 0, 1) := dk_get dk_d04_424 11 rfl
theorem dX12_readPutty_18 : decode cX12_readPutty 18 = .ok (.getfield 68, 3) := dk_get dk_d04_424 12 rfl
theorem dX12_readPutty_21 : decode cX12_readPutty 21 = .ok (.iload_n 1, 1) := dk_get dk_d04_424 13 rfl
theorem dX12_readPutty_22 : decode cX12_readPutty 22 = .ok (.iconst 1, 1) := dk_get dk_d04_424 14 rfl
theorem dX12_readPutty_23 : decode cX12_readPutty 23 = .ok (.iadd, 1) := dk_get dk_d04_424 15 rfl
theorem dX12_readPutty_24 : decode cX12_readPutty 24 = .ok (.iaload, 1) := dk_get dk_d04_424 16 rfl
theorem dX12_readPutty_25 : decode cX12_readPutty 25 = .ok (.iconst (-1), 1) := dk_get dk_d04_424 17 rfl
theorem dX12_readPutty_26 : decode cX12_readPutty 26 = .ok (.if_icmp .ne 5, 3) := dk_get dk_d04_424 18 rfl
theorem dX12_readPutty_29 : decode cX12_readPutty 29 = .ok (.iconst (-1), 1) := dk_get dk_d04_424 19 rfl
theorem dX12_readPutty_30 : decode cX12_readPutty 30 = .ok (.ireturn, 1) := dk_get dk_d04_424 20 rfl
theorem dX12_readPutty_31 : decode cX12_readPutty 31 = .ok (.aload_n 0, 1) := dk_get dk_d04_424 21 rfl
theorem dX12_readPutty_32 : decode cX12_readPutty 32 = .ok (.getfield 68, 3) := dk_get dk_d04_424 22 rfl
theorem dX12_readPutty_35 : decode cX12_readPutty 35 = .ok (.iload_n 1, 1) := dk_get dk_d04_424 23 rfl
theorem dX12_readPutty_36 : decode cX12_readPutty 36 = .ok (.iconst 3, 1) := dk_get dk_d04_424 24 rfl
theorem dk_d04_425 : dkc cX12_readPutty [(37, .iadd, 1), (38, .aload_n 0, 1), (39, .iconst 0, 1), (40, .bipush 11, 2), (42, .invokevirtual 265, 3), (45, .iastore, 1), (46, .aload_n 0, 1), (47, .getfield 68, 3), (50, .iload_n 1, 1), (51, .iconst 3, 1), (52, .iadd, 1), (53, .iaload, 1), (54, .iconst (-1), 1), (55, .if_icmp .ne 5, 3), (58, .iconst (-1), 1), (59, .ireturn, 1), (60, .aload_n 0, 1), (61, .getfield 68, 3), (64, .iload_n 1, 1), (65, .iconst 4, 1), (66, .iadd, 1), (67, .aload_n 0, 1), (68, .iconst 0, 1), (69, .bipush 11, 2), (71, .invokevirtual 265, 3)] = true := by decide +kernel
theorem dX12_readPutty_37 : decode cX12_readPutty 37 = .ok (.iadd, 1) := dk_get dk_d04_425 0 rfl
theorem dX12_readPutty_38 : decode cX12_readPutty 38 = .ok (.aload_n 0, 1) := dk_get dk_d04_425 1 rfl
theorem dX12_readPutty_39 : decode cX12_readPutty 39 = .ok (.iconst 0, 1) := dk_get dk_d04_425 2 rfl
theorem dX12_readPutty_40 : decode cX12_readPutty 40 = .ok (.bipush 11, 2) := dk_get dk_d04_425 3 rfl
theorem dX12_readPutty_42 : decode cX12_readPutty 42 = .ok (.invokevirtual 265, 3) := dk_get dk_d04_425 4 rfl
theorem dX12_readPutty_45 : decode cX12_readPutty 45 = .ok (.iastore, 1) := dk_get dk_d04_425 5 rfl
theorem dX12_readPutty_46 : decode cX12_readPutty 46 = .ok (.aload_n 0, 1) := dk_get dk_d04_425 6 rfl
theorem dX12_readPutty_47 : decode cX12_readPutty 47 = .ok (.getfield 68, 3) := dk_get dk_d04_425 7 rfl
theorem dX12_readPutty_50 : decode cX12_readPutty 50 = .ok (.iload_n 1, 1) := dk_get dk_d04_425 8 rfl
theorem dX12_readPutty_51 : decode cX12_readPutty 51 = .ok (.iconst 3, 1) := dk_get dk_d04_425 9 rfl
theorem dX12_readPutty_52 : decode cX12_readPutty 52 = .ok (.iadd, 1) := dk_get dk_d04_425 10 rfl
theorem dX12_readPutty_53 : decode cX12_readPutty 53 = .ok (.iaload, 1) := dk_get dk_d04_425 11 rfl
theorem dX12_readPutty_54 : decode cX12_readPutty 54 = .ok (.iconst (-1), 1) := dk_get dk_d04_425 12 rfl
theorem dX12_readPutty_55 : decode cX12_readPutty 55 = .ok (.if_icmp .ne 5, 3) := dk_get dk_d04_425 13 rfl
theorem dX12_readPutty_58 : decode cX12_readPutty 58 = .ok (.iconst (-1), 1) := dk_get dk_d04_425 14 rfl
theorem dX12_readPutty_59 : decode cX12_readPutty 59 = .ok (.ireturn, 1) := dk_get dk_d04_425 15 rfl
theorem dX12_readPutty_60 : decode cX12_readPutty 60 = .ok (.aload_n 0, 1) := dk_get dk_d04_425 16 rfl
theorem dX12_readPutty_61 : decode cX12_readPutty 61 = .ok (.getfield 68, 3) := dk_get dk_d04_425 17 rfl
theorem dX12_readPutty_64 : decode cX12_readPutty 64 = .ok (.iload_n 1, 1) := dk_get dk_d04_425 18 rfl
theorem dX12_readPutty_65 : decode cX12_readPutty 65 = .ok (.iconst 4, 1) := dk_get dk_d04_425 19 rfl
theorem dX12_readPutty_66 : decode cX12_readPutty 66 = .ok (.iadd, 1) := dk_get dk_d04_425 20 rfl
theorem dX12_readPutty_67 : decode cX12_readPutty 67 = .ok (.aload_n 0, 1) := dk_get dk_d04_425 21 rfl
theorem dX12_readPutty_68 : decode cX12_readPutty 68 = .ok (.iconst 0, 1) := dk_get dk_d04_425 22 rfl
theorem dX12_readPutty_69 : decode cX12_readPutty 69 = .ok (.bipush 11, 2) := dk_get dk_d04_425 23 rfl
theorem dX12_readPutty_71 : decode cX12_readPutty 71 = .ok (.invokevirtual 265, 3) := dk_get dk_d04_425 24 rfl
theorem dk_d04_426 : dkc cX12_readPutty [(74, .iastore, 1), (75, .aload_n 0, 1), (76, .getfield 68, 3), (79, .iload_n 1, 1), (80, .iconst 4, 1), (81, .iadd, 1), (82, .iaload, 1), (83, .ireturn, 1)] = true := by decide +kernel
theorem dX12_readPutty_74 : decode cX12_readPutty 74 = .ok (.iastore, 1) := dk_get dk_d04_426 0 rfl
theorem dX12_readPutty_75 : decode cX12_readPutty 75 = .ok (.aload_n 0, 1) := dk_get dk_d04_426 1 rfl
theorem dX12_readPutty_76 : decode cX12_readPutty 76 = .ok (.getfield 68, 3) := dk_get dk_d04_426 2 rfl
theorem dX12_readPutty_79 : decode cX12_readPutty 79 = .ok (.iload_n 1, 1) := dk_get dk_d04_426 3 rfl
theorem dX12_readPutty_80 : decode cX12_readPutty 80 = .ok (.iconst 4, 1) := dk_get dk_d04_426 4 rfl
theorem dX12_readPutty_81 : decode cX12_readPutty 81 = .ok (.iadd, 1) := dk_get dk_d04_426 5 rfl
theorem dX12_readPutty_82 : decode cX12_readPutty 82 = .ok (.iaload, 1) := dk_get dk_d04_426 6 rfl
theorem dX12_readPutty_83 : decode cX12_readPutty 83 = .ok (.ireturn, 1) := dk_get dk_d04_426 7 rfl
theorem dk_d04_427 : dkc cX12_readMind [(0, .aload_n 0, 1), (1, .getfield 68, 3), (4, .iload_n 1, 1), (5, .iconst 1, 1), (6, .iadd, 1), (7, .iconst 0, 1), (8, .iastore, 1), (9, .aload_n 0, 1), (10, .getfield 68, 3), (13, .iload_n 1, 1), (14, .iconst 3, 1), (15, .iadd, 1), (16, .aload_n 0, 1), (17, .iconst 0, 1), (18, .aload_n 0, 1), (19, .getfield 152, 3), (22, .iconst 1, 1), (23, .isub, 1), (24, .invokevirtual 265, 3), (27, .iastore, 1), (28, .aload_n 0, 1), (29, .getfield 68, 3), (32, .iload_n 1, 1), (33, .iconst 3, 1), (34, .iadd, 1)] = true := by decide +kernel
theorem dX12_readMind_0 : decode cX12_readMind 0 = .ok (.aload_n 0, 1) := dk_get dk_d04_427 0 rfl
theorem dX12_readMind_1 : decode cX12_readMind 1 = .ok (.getfield 68, 3) := dk_get dk_d04_427 1 rfl
theorem dX12_readMind_4 : decode cX12_readMind 4 = .ok (.iload_n 1, 1) := dk_get dk_d04_427 2 rfl
theorem dX12_readMind_5 : decode cX12_readMind 5 = .ok (.iconst 1, 1) := dk_get dk_d04_427 3 rfl
theorem dX12_readMind_6 : decode cX12_readMind 6 = .ok (.iadd, 1) := dk_get dk_d04_427 4 rfl
theorem dX12_readMind_7 : decode cX12_readMind 7 = .ok (.iconst 0, 1) := dk_get dk_d04_427 5 rfl
theorem dX12_readMind_8 : decode cX12_readMind 8 = .ok (.iastore, 1) := dk_get dk_d04_427 6 rfl
theorem dX12_readMind_9 : decode cX12_readMind 9 = .ok (.aload_n 0, 1) := dk_get dk_d04_427 7 rfl
theorem dX12_readMind_10 : decode cX12_readMind 10 = .ok (.getfield 68, 3) := dk_get dk_d04_427 8 rfl
theorem dX12_readMind_13 : decode cX12_readMind 13 = .ok (.iload_n 1, 1) := dk_get dk_d04_427 9 rfl
theorem dX12_readMind_14 : decode cX12_readMind 14 = .ok (.iconst 3, 1) := dk_get dk_d04_427 10 rfl
theorem dX12_readMind_15 : decode cX12_readMind 15 = .ok (.iadd, 1) := dk_get dk_d04_427 11 rfl
theorem dX12_readMind_16 : decode cX12_readMind 16 = .ok (.aload_n 0, 1) := dk_get dk_d04_427 12 rfl
theorem dX12_readMind_17 : decode cX12_readMind 17 = .ok (.iconst 0, 1) := dk_get dk_d04_427 13 rfl
theorem dX12_readMind_18 : decode cX12_readMind 18 = .ok (.aload_n 0, 1) := dk_get dk_d04_427 14 rfl
theorem dX12_readMind_19 : decode cX12_readMind 19 = .ok (.getfield 152, 3) := dk_get dk_d04_427 15 rfl
theorem dX12_readMind_22 : decode cX12_readMind 22 = .ok (.iconst 1, 1) := dk_get dk_d04_427 16 rfl
theorem dX12_readMind_23 : decode cX12_readMind 23 = .ok (.isub, 1) := dk_get dk_d04_427 17 rfl
theorem dX12_readMind_24 : decode cX12_readMind 24 = .ok (.invokevirtual 265, 3) := dk_get dk_d04_427 18 rfl
theorem dX12_readMind_27 : decode cX12_readMind 27 = .ok (.iastore, 1) := dk_get dk_d04_427 19 rfl
theorem dX12_readMind_28 : decode cX12_readMind 28 = .ok (.aload_n 0, 1) := dk_get dk_d04_427 20 rfl
theorem dX12_readMind_29 : decode cX12_readMind 29 = .ok (.getfield 68, 3) := dk_get dk_d04_427 21 rfl
theorem dX12_readMind_32 : decode cX12_readMind 32 = .ok (.iload_n 1, 1) := dk_get dk_d04_427 22 rfl
theorem dX12_readMind_33 : decode cX12_readMind 33 = .ok (.iconst 3, 1) := dk_get dk_d04_427 23 rfl
theorem dX12_readMind_34 : decode cX12_readMind 34 = .ok (.iadd, 1) := dk_get dk_d04_427 24 rfl
theorem dk_d04_428 : dkc cX12_readMind [(35, .iaload, 1), (36, .iconst (-1), 1), (37, .if_icmp .ne 5, 3), (40, .iconst (-1), 1), (41, .ireturn, 1), (42, .aload_n 0, 1), (43, .getfield 183, 3), (46, .iconst 2, 1), (47, .if_icmp .ne 18, 3), (50, .aload_n 0, 1), (51, .aload_n 0, 1), (52, .getfield 186, 3), (55, .bipush 22, 2), (57, .bipush 24, 2), (59, .invokevirtual 155, 3), (62, .ifCond .ne 9, 3), (65, .aload_n 0, 1), (66, .iconst 1, 1), (67, .invokevirtual 214, 3), (70, .ireturn, 1), (71, .aload_n 0, 1), (72, .getfield 68, 3), (75, .iload_n 1, 1), (76, .iconst 4, 1), (77, .iadd, 1)] = true := by decide +kernel
theorem dX12_readMind_35 : decode cX12_readMind 35 = .ok (.iaload, 1) := dk_get dk_d04_428 0 rfl
theorem dX12_readMind_36 : decode cX12_readMind 36 = .ok (.iconst (-1), 1) := dk_get dk_d04_428 1 rfl
theorem dX12_readMind_37 : decode cX12_readMind 37 = .ok (.if_icmp .ne 5, 3) := dk_get dk_d04_428 2 rfl
theorem dX12_readMind_40 : decode cX12_readMind 40 = .ok (.iconst (-1), 1) := dk_get dk_d04_428 3 rfl
theorem dX12_readMind_41 : decode cX12_readMind 41 = .ok (.ireturn, 1) := dk_get dk_d04_428 4 rfl
theorem dX12_readMind_42 : decode cX12_readMind 42 = .ok (.aload_n 0, 1) := dk_get dk_d04_428 5 rfl
theorem dX12_readMind_43 : decode cX12_readMind 43 = .ok (.getfield 183, 3) := dk_get dk_d04_428 6 rfl
theorem dX12_readMind_46 : decode cX12_readMind 46 = .ok (.iconst 2, 1) := dk_get dk_d04_428 7 rfl
theorem dX12_readMind_47 : decode cX12_readMind 47 = .ok (.if_icmp .ne 18, 3) := dk_get dk_d04_428 8 rfl
theorem dX12_readMind_50 : decode cX12_readMind 50 = .ok (.aload_n 0, 1) := dk_get dk_d04_428 9 rfl
theorem dX12_readMind_51 : decode cX12_readMind 51 = .ok (.aload_n 0, 1) := dk_get dk_d04_428 10 rfl
theorem dX12_readMind_52 : decode cX12_readMind 52 = .ok (.getfield 186, 3) := dk_get dk_d04_428 11 rfl
theorem dX12_readMind_55 : decode cX12_readMind 55 = .ok (.bipush 22, 2) := dk_get dk_d04_428 12 rfl
theorem dX12_readMind_57 : decode cX12_readMind 57 = .ok (.bipush 24, 2) := dk_get dk_d04_428 13 rfl
theorem dX12_readMind_59 : decode cX12_readMind 59 = .ok (.invokevirtual 155, 3) := dk_get dk_d04_428 14 rfl
theorem dX12_readMind_62 : decode cX12_readMind 62 = .ok (.ifCond .ne 9, 3) := dk_get dk_d04_428 15 rfl
theorem dX12_readMind_65 : decode cX12_readMind 65 = .ok (.aload_n 0, 1) := dk_get dk_d04_428 16 rfl
theorem dX12_readMind_66 : decode cX12_readMind 66 = .ok (.iconst 1, 1) := dk_get dk_d04_428 17 rfl
theorem dX12_readMind_67 : decode cX12_readMind 67 = .ok (.invokevirtual 214, 3) := dk_get dk_d04_428 18 rfl
theorem dX12_readMind_70 : decode cX12_readMind 70 = .ok (.ireturn, 1) := dk_get dk_d04_428 19 rfl
theorem dX12_readMind_71 : decode cX12_readMind 71 = .ok (.aload_n 0, 1) := dk_get dk_d04_428 20 rfl
theorem dX12_readMind_72 : decode cX12_readMind 72 = .ok (.getfield 68, 3) := dk_get dk_d04_428 21 rfl
theorem dX12_readMind_75 : decode cX12_readMind 75 = .ok (.iload_n 1, 1) := dk_get dk_d04_428 22 rfl
theorem dX12_readMind_76 : decode cX12_readMind 76 = .ok (.iconst 4, 1) := dk_get dk_d04_428 23 rfl
theorem dX12_readMind_77 : decode cX12_readMind 77 = .ok (.iadd, 1) := dk_get dk_d04_428 24 rfl
theorem dk_d04_429 : dkc cX12_readMind [(78, .aload_n 0, 1), (79, .getfield 186, 3), (82, .bipush 22, 2), (84, .if_icmp .ne 7, 3), (87, .iconst 1, 1), (88, .goto 17, 3), (91, .aload_n 0, 1), (92, .getfield 186, 3), (95, .bipush 23, 2), (97, .if_icmp .ne 7, 3), (100, .iconst (-1), 1), (101, .goto 4, 3), (104, .iconst 0, 1), (105, .iastore, 1), (106, .aload_n 0, 1), (107, .invokevirtual 221, 3), (110, .iconst 0, 1), (111, .ireturn, 1)] = true := by decide +kernel
theorem dX12_readMind_78 : decode cX12_readMind 78 = .ok (.aload_n 0, 1) := dk_get dk_d04_429 0 rfl
theorem dX12_readMind_79 : decode cX12_readMind 79 = .ok (.getfield 186, 3) := dk_get dk_d04_429 1 rfl
theorem dX12_readMind_82 : decode cX12_readMind 82 = .ok (.bipush 22, 2) := dk_get dk_d04_429 2 rfl
theorem dX12_readMind_84 : decode cX12_readMind 84 = .ok (.if_icmp .ne 7, 3) := dk_get dk_d04_429 3 rfl
theorem dX12_readMind_87 : decode cX12_readMind 87 = .ok (.iconst 1, 1) := dk_get dk_d04_429 4 rfl
theorem dX12_readMind_88 : decode cX12_readMind 88 = .ok (.goto 17, 3) := dk_get dk_d04_429 5 rfl
theorem dX12_readMind_91 : decode cX12_readMind 91 = .ok (.aload_n 0, 1) := dk_get dk_d04_429 6 rfl
theorem dX12_readMind_92 : decode cX12_readMind 92 = .ok (.getfield 186, 3) := dk_get dk_d04_429 7 rfl
theorem dX12_readMind_95 : decode cX12_readMind 95 = .ok (.bipush 23, 2) := dk_get dk_d04_429 8 rfl
theorem dX12_readMind_97 : decode cX12_readMind 97 = .ok (.if_icmp .ne 7, 3) := dk_get dk_d04_429 9 rfl
theorem dX12_readMind_100 : decode cX12_readMind 100 = .ok (.iconst (-1), 1) := dk_get dk_d04_429 10 rfl
theorem dX12_readMind_101 : decode cX12_readMind 101 = .ok (.goto 4, 3) := dk_get dk_d04_429 11 rfl
theorem dX12_readMind_104 : decode cX12_readMind 104 = .ok (.iconst 0, 1) := dk_get dk_d04_429 12 rfl
theorem dX12_readMind_105 : decode cX12_readMind 105 = .ok (.iastore, 1) := dk_get dk_d04_429 13 rfl
theorem dX12_readMind_106 : decode cX12_readMind 106 = .ok (.aload_n 0, 1) := dk_get dk_d04_429 14 rfl
theorem dX12_readMind_107 : decode cX12_readMind 107 = .ok (.invokevirtual 221, 3) := dk_get dk_d04_429 15 rfl
theorem dX12_readMind_110 : decode cX12_readMind 110 = .ok (.iconst 0, 1) := dk_get dk_d04_429 16 rfl
theorem dX12_readMind_111 : decode cX12_readMind 111 = .ok (.ireturn, 1) := dk_get dk_d04_429 17 rfl
theorem dk_d04_430 : dkc cX12_readDeed [(0, .aload_n 0, 1), (1, .getfield 68, 3), (4, .iload_n 1, 1), (5, .aload_n 0, 1), (6, .bipush 20, 2), (8, .iconst 0, 1), (9, .sipush 999, 3), (12, .invokevirtual 268, 3), (15, .iastore, 1), (16, .aload_n 0, 1), (17, .getfield 68, 3), (20, .iload_n 1, 1), (21, .iaload, 1), (22, .iconst (-1), 1), (23, .if_icmp .ne 5, 3), (26, .iconst (-1), 1), (27, .ireturn, 1), (28, .aload_n 0, 1), (29, .bipush 11, 2), (31, .invokevirtual 243, 3), (34, .ifCond .eq 7, 3), (37, .iconst 0, 1), (38, .goto 30, 3), (41, .aload_n 0, 1), (42, .bipush 21, 2)] = true := by decide +kernel
theorem dX12_readDeed_0 : decode cX12_readDeed 0 = .ok (.aload_n 0, 1) := dk_get dk_d04_430 0 rfl
theorem dX12_readDeed_1 : decode cX12_readDeed 1 = .ok (.getfield 68, 3) := dk_get dk_d04_430 1 rfl
theorem dX12_readDeed_4 : decode cX12_readDeed 4 = .ok (.iload_n 1, 1) := dk_get dk_d04_430 2 rfl
theorem dX12_readDeed_5 : decode cX12_readDeed 5 = .ok (.aload_n 0, 1) := dk_get dk_d04_430 3 rfl
theorem dX12_readDeed_6 : decode cX12_readDeed 6 = .ok (.bipush 20, 2) := dk_get dk_d04_430 4 rfl
theorem dX12_readDeed_8 : decode cX12_readDeed 8 = .ok (.iconst 0, 1) := dk_get dk_d04_430 5 rfl
theorem dX12_readDeed_9 : decode cX12_readDeed 9 = .ok (.sipush 999, 3) := dk_get dk_d04_430 6 rfl
theorem dX12_readDeed_12 : decode cX12_readDeed 12 = .ok (.invokevirtual 268, 3) := dk_get dk_d04_430 7 rfl
theorem dX12_readDeed_15 : decode cX12_readDeed 15 = .ok (.iastore, 1) := dk_get dk_d04_430 8 rfl
theorem dX12_readDeed_16 : decode cX12_readDeed 16 = .ok (.aload_n 0, 1) := dk_get dk_d04_430 9 rfl
theorem dX12_readDeed_17 : decode cX12_readDeed 17 = .ok (.getfield 68, 3) := dk_get dk_d04_430 10 rfl
theorem dX12_readDeed_20 : decode cX12_readDeed 20 = .ok (.iload_n 1, 1) := dk_get dk_d04_430 11 rfl
theorem dX12_readDeed_21 : decode cX12_readDeed 21 = .ok (.iaload, 1) := dk_get dk_d04_430 12 rfl
theorem dX12_readDeed_22 : decode cX12_readDeed 22 = .ok (.iconst (-1), 1) := dk_get dk_d04_430 13 rfl
theorem dX12_readDeed_23 : decode cX12_readDeed 23 = .ok (.if_icmp .ne 5, 3) := dk_get dk_d04_430 14 rfl
theorem dX12_readDeed_26 : decode cX12_readDeed 26 = .ok (.iconst (-1), 1) := dk_get dk_d04_430 15 rfl
theorem dX12_readDeed_27 : decode cX12_readDeed 27 = .ok (.ireturn, 1) := dk_get dk_d04_430 16 rfl
theorem dX12_readDeed_28 : decode cX12_readDeed 28 = .ok (.aload_n 0, 1) := dk_get dk_d04_430 17 rfl
theorem dX12_readDeed_29 : decode cX12_readDeed 29 = .ok (.bipush 11, 2) := dk_get dk_d04_430 18 rfl
theorem dX12_readDeed_31 : decode cX12_readDeed 31 = .ok (.invokevirtual 243, 3) := dk_get dk_d04_430 19 rfl
theorem dX12_readDeed_34 : decode cX12_readDeed 34 = .ok (.ifCond .eq 7, 3) := dk_get dk_d04_430 20 rfl
theorem dX12_readDeed_37 : decode cX12_readDeed 37 = .ok (.iconst 0, 1) := dk_get dk_d04_430 21 rfl
theorem dX12_readDeed_38 : decode cX12_readDeed 38 = .ok (.goto 30, 3) := dk_get dk_d04_430 22 rfl
theorem dX12_readDeed_41 : decode cX12_readDeed 41 = .ok (.aload_n 0, 1) := dk_get dk_d04_430 23 rfl
theorem dX12_readDeed_42 : decode cX12_readDeed 42 = .ok (.bipush 21, 2) := dk_get dk_d04_430 24 rfl
theorem dk_d04_431 : dkc cX12_readDeed [(44, .invokevirtual 243, 3), (47, .ifCond .eq 7, 3), (50, .iconst 1, 1), (51, .goto 17, 3), (54, .aload_n 0, 1), (55, .bipush 7, 2), (57, .invokevirtual 243, 3), (60, .ifCond .eq 7, 3), (63, .iconst 2, 1), (64, .goto 4, 3), (67, .iconst (-1), 1), (68, .istore_n 2, 1), (69, .iload_n 2, 1), (70, .iconst (-1), 1), (71, .if_icmp .ne 9, 3), (74, .aload_n 0, 1), (75, .iconst 1, 1), (76, .invokevirtual 214, 3), (79, .ireturn, 1), (80, .aload_n 0, 1), (81, .invokevirtual 221, 3), (84, .aload_n 0, 1), (85, .getfield 68, 3), (88, .iload_n 1, 1), (89, .iconst 2, 1)] = true := by decide +kernel
theorem dX12_readDeed_44 : decode cX12_readDeed 44 = .ok (.invokevirtual 243, 3) := dk_get dk_d04_431 0 rfl
theorem dX12_readDeed_47 : decode cX12_readDeed 47 = .ok (.ifCond .eq 7, 3) := dk_get dk_d04_431 1 rfl
theorem dX12_readDeed_50 : decode cX12_readDeed 50 = .ok (.iconst 1, 1) := dk_get dk_d04_431 2 rfl
theorem dX12_readDeed_51 : decode cX12_readDeed 51 = .ok (.goto 17, 3) := dk_get dk_d04_431 3 rfl
theorem dX12_readDeed_54 : decode cX12_readDeed 54 = .ok (.aload_n 0, 1) := dk_get dk_d04_431 4 rfl
theorem dX12_readDeed_55 : decode cX12_readDeed 55 = .ok (.bipush 7, 2) := dk_get dk_d04_431 5 rfl
theorem dX12_readDeed_57 : decode cX12_readDeed 57 = .ok (.invokevirtual 243, 3) := dk_get dk_d04_431 6 rfl
theorem dX12_readDeed_60 : decode cX12_readDeed 60 = .ok (.ifCond .eq 7, 3) := dk_get dk_d04_431 7 rfl
theorem dX12_readDeed_63 : decode cX12_readDeed 63 = .ok (.iconst 2, 1) := dk_get dk_d04_431 8 rfl
theorem dX12_readDeed_64 : decode cX12_readDeed 64 = .ok (.goto 4, 3) := dk_get dk_d04_431 9 rfl
theorem dX12_readDeed_67 : decode cX12_readDeed 67 = .ok (.iconst (-1), 1) := dk_get dk_d04_431 10 rfl
theorem dX12_readDeed_68 : decode cX12_readDeed 68 = .ok (.istore_n 2, 1) := dk_get dk_d04_431 11 rfl
theorem dX12_readDeed_69 : decode cX12_readDeed 69 = .ok (.iload_n 2, 1) := dk_get dk_d04_431 12 rfl
theorem dX12_readDeed_70 : decode cX12_readDeed 70 = .ok (.iconst (-1), 1) := dk_get dk_d04_431 13 rfl
theorem dX12_readDeed_71 : decode cX12_readDeed 71 = .ok (.if_icmp .ne 9, 3) := dk_get dk_d04_431 14 rfl
theorem dX12_readDeed_74 : decode cX12_readDeed 74 = .ok (.aload_n 0, 1) := dk_get dk_d04_431 15 rfl
theorem dX12_readDeed_75 : decode cX12_readDeed 75 = .ok (.iconst 1, 1) := dk_get dk_d04_431 16 rfl
theorem dX12_readDeed_76 : decode cX12_readDeed 76 = .ok (.invokevirtual 214, 3) := dk_get dk_d04_431 17 rfl
theorem dX12_readDeed_79 : decode cX12_readDeed 79 = .ok (.ireturn, 1) := dk_get dk_d04_431 18 rfl
theorem dX12_readDeed_80 : decode cX12_readDeed 80 = .ok (.aload_n 0, 1) := dk_get dk_d04_431 19 rfl
theorem dX12_readDeed_81 : decode cX12_readDeed 81 = .ok (.invokevirtual 221, 3) := dk_get dk_d04_431 20 rfl
theorem dX12_readDeed_84 : decode cX12_readDeed 84 = .ok (.aload_n 0, 1) := dk_get dk_d04_431 21 rfl
theorem dX12_readDeed_85 : decode cX12_readDeed 85 = .ok (.getfield 68, 3) := dk_get dk_d04_431 22 rfl
theorem dX12_readDeed_88 : decode cX12_readDeed 88 = .ok (.iload_n 1, 1) := dk_get dk_d04_431 23 rfl
theorem dX12_readDeed_89 : decode cX12_readDeed 89 = .ok (.iconst 2, 1) := dk_get dk_d04_431 24 rfl
theorem dk_d04_432 : dkc cX12_readDeed [(90, .iadd, 1), (91, .iload_n 2, 1), (92, .iastore, 1), (93, .iload_n 2, 1), (94, .ifCond .ne 11, 3), (97, .aload_n 0, 1), (98, .iload_n 1, 1), (99, .invokevirtual 278, 3), (102, .goto 21, 3), (105, .iload_n 2, 1), (106, .iconst 1, 1), (107, .if_icmp .ne 11, 3), (110, .aload_n 0, 1), (111, .iload_n 1, 1), (112, .invokevirtual 281, 3), (115, .goto 8, 3), (118, .aload_n 0, 1), (119, .iload_n 1, 1), (120, .invokevirtual 284, 3), (123, .istore_n 3, 1), (124, .iload_n 3, 1), (125, .iconst (-1), 1), (126, .if_icmp .ne 7, 3), (129, .iconst (-1), 1), (130, .goto 9, 3)] = true := by decide +kernel
theorem dX12_readDeed_90 : decode cX12_readDeed 90 = .ok (.iadd, 1) := dk_get dk_d04_432 0 rfl
theorem dX12_readDeed_91 : decode cX12_readDeed 91 = .ok (.iload_n 2, 1) := dk_get dk_d04_432 1 rfl
theorem dX12_readDeed_92 : decode cX12_readDeed 92 = .ok (.iastore, 1) := dk_get dk_d04_432 2 rfl
theorem dX12_readDeed_93 : decode cX12_readDeed 93 = .ok (.iload_n 2, 1) := dk_get dk_d04_432 3 rfl
theorem dX12_readDeed_94 : decode cX12_readDeed 94 = .ok (.ifCond .ne 11, 3) := dk_get dk_d04_432 4 rfl
theorem dX12_readDeed_97 : decode cX12_readDeed 97 = .ok (.aload_n 0, 1) := dk_get dk_d04_432 5 rfl
theorem dX12_readDeed_98 : decode cX12_readDeed 98 = .ok (.iload_n 1, 1) := dk_get dk_d04_432 6 rfl
theorem dX12_readDeed_99 : decode cX12_readDeed 99 = .ok (.invokevirtual 278, 3) := dk_get dk_d04_432 7 rfl
theorem dX12_readDeed_102 : decode cX12_readDeed 102 = .ok (.goto 21, 3) := dk_get dk_d04_432 8 rfl
theorem dX12_readDeed_105 : decode cX12_readDeed 105 = .ok (.iload_n 2, 1) := dk_get dk_d04_432 9 rfl
theorem dX12_readDeed_106 : decode cX12_readDeed 106 = .ok (.iconst 1, 1) := dk_get dk_d04_432 10 rfl
theorem dX12_readDeed_107 : decode cX12_readDeed 107 = .ok (.if_icmp .ne 11, 3) := dk_get dk_d04_432 11 rfl
theorem dX12_readDeed_110 : decode cX12_readDeed 110 = .ok (.aload_n 0, 1) := dk_get dk_d04_432 12 rfl
theorem dX12_readDeed_111 : decode cX12_readDeed 111 = .ok (.iload_n 1, 1) := dk_get dk_d04_432 13 rfl
theorem dX12_readDeed_112 : decode cX12_readDeed 112 = .ok (.invokevirtual 281, 3) := dk_get dk_d04_432 14 rfl
theorem dX12_readDeed_115 : decode cX12_readDeed 115 = .ok (.goto 8, 3) := dk_get dk_d04_432 15 rfl
theorem dX12_readDeed_118 : decode cX12_readDeed 118 = .ok (.aload_n 0, 1) := dk_get dk_d04_432 16 rfl
theorem dX12_readDeed_119 : decode cX12_readDeed 119 = .ok (.iload_n 1, 1) := dk_get dk_d04_432 17 rfl
theorem dX12_readDeed_120 : decode cX12_readDeed 120 = .ok (.invokevirtual 284, 3) := dk_get dk_d04_432 18 rfl
theorem dX12_readDeed_123 : decode cX12_readDeed 123 = .ok (.istore_n 3, 1) := dk_get dk_d04_432 19 rfl
theorem dX12_readDeed_124 : decode cX12_readDeed 124 = .ok (.iload_n 3, 1) := dk_get dk_d04_432 20 rfl
theorem dX12_readDeed_125 : decode cX12_readDeed 125 = .ok (.iconst (-1), 1) := dk_get dk_d04_432 21 rfl
theorem dX12_readDeed_126 : decode cX12_readDeed 126 = .ok (.if_icmp .ne 7, 3) := dk_get dk_d04_432 22 rfl
theorem dX12_readDeed_129 : decode cX12_readDeed 129 = .ok (.iconst (-1), 1) := dk_get dk_d04_432 23 rfl
theorem dX12_readDeed_130 : decode cX12_readDeed 130 = .ok (.goto 9, 3) := dk_get dk_d04_432 24 rfl
theorem dk_d04_433 : dkc cX12_readDeed [(133, .aload_n 0, 1), (134, .bipush 59, 2), (136, .invokevirtual 272, 3), (139, .ireturn, 1)] = true := by decide +kernel
theorem dX12_readDeed_133 : decode cX12_readDeed 133 = .ok (.aload_n 0, 1) := dk_get dk_d04_433 0 rfl
theorem dX12_readDeed_134 : decode cX12_readDeed 134 = .ok (.bipush 59, 2) := dk_get dk_d04_433 1 rfl
theorem dX12_readDeed_136 : decode cX12_readDeed 136 = .ok (.invokevirtual 272, 3) := dk_get dk_d04_433 2 rfl
theorem dX12_readDeed_139 : decode cX12_readDeed 139 = .ok (.ireturn, 1) := dk_get dk_d04_433 3 rfl
theorem dk_d04_434 : dkc cX12_readSky [(0, .iconst 0, 1), (1, .istore_n 1, 1), (2, .aload_n 0, 1), (3, .bipush 20, 2), (5, .invokevirtual 243, 3), (8, .ifCond .eq 38, 3), (11, .iload_n 1, 1), (12, .bipush 16, 2), (14, .if_icmp .ne 9, 3), (17, .aload_n 0, 1), (18, .iconst 3, 1), (19, .invokevirtual 214, 3), (22, .ireturn, 1), (23, .aload_n 0, 1), (24, .bipush 80, 2), (26, .iconst 5, 1), (27, .iload_n 1, 1), (28, .imul, 1), (29, .iadd, 1), (30, .invokevirtual 287, 3), (33, .iconst (-1), 1), (34, .if_icmp .ne 5, 3), (37, .iconst (-1), 1), (38, .ireturn, 1), (39, .iload_n 1, 1)] = true := by decide +kernel
theorem dX12_readSky_0 : decode cX12_readSky 0 = .ok (.iconst 0, 1) := dk_get dk_d04_434 0 rfl
theorem dX12_readSky_1 : decode cX12_readSky 1 = .ok (.istore_n 1, 1) := dk_get dk_d04_434 1 rfl
theorem dX12_readSky_2 : decode cX12_readSky 2 = .ok (.aload_n 0, 1) := dk_get dk_d04_434 2 rfl
theorem dX12_readSky_3 : decode cX12_readSky 3 = .ok (.bipush 20, 2) := dk_get dk_d04_434 3 rfl
theorem dX12_readSky_5 : decode cX12_readSky 5 = .ok (.invokevirtual 243, 3) := dk_get dk_d04_434 4 rfl
theorem dX12_readSky_8 : decode cX12_readSky 8 = .ok (.ifCond .eq 38, 3) := dk_get dk_d04_434 5 rfl
theorem dX12_readSky_11 : decode cX12_readSky 11 = .ok (.iload_n 1, 1) := dk_get dk_d04_434 6 rfl
theorem dX12_readSky_12 : decode cX12_readSky 12 = .ok (.bipush 16, 2) := dk_get dk_d04_434 7 rfl
theorem dX12_readSky_14 : decode cX12_readSky 14 = .ok (.if_icmp .ne 9, 3) := dk_get dk_d04_434 8 rfl
theorem dX12_readSky_17 : decode cX12_readSky 17 = .ok (.aload_n 0, 1) := dk_get dk_d04_434 9 rfl
theorem dX12_readSky_18 : decode cX12_readSky 18 = .ok (.iconst 3, 1) := dk_get dk_d04_434 10 rfl
theorem dX12_readSky_19 : decode cX12_readSky 19 = .ok (.invokevirtual 214, 3) := dk_get dk_d04_434 11 rfl
theorem dX12_readSky_22 : decode cX12_readSky 22 = .ok (.ireturn, 1) := dk_get dk_d04_434 12 rfl
theorem dX12_readSky_23 : decode cX12_readSky 23 = .ok (.aload_n 0, 1) := dk_get dk_d04_434 13 rfl
theorem dX12_readSky_24 : decode cX12_readSky 24 = .ok (.bipush 80, 2) := dk_get dk_d04_434 14 rfl
theorem dX12_readSky_26 : decode cX12_readSky 26 = .ok (.iconst 5, 1) := dk_get dk_d04_434 15 rfl
theorem dX12_readSky_27 : decode cX12_readSky 27 = .ok (.iload_n 1, 1) := dk_get dk_d04_434 16 rfl
theorem dX12_readSky_28 : decode cX12_readSky 28 = .ok (.imul, 1) := dk_get dk_d04_434 17 rfl
theorem dX12_readSky_29 : decode cX12_readSky 29 = .ok (.iadd, 1) := dk_get dk_d04_434 18 rfl
theorem dX12_readSky_30 : decode cX12_readSky 30 = .ok (.invokevirtual 287, 3) := dk_get dk_d04_434 19 rfl
theorem dX12_readSky_33 : decode cX12_readSky 33 = .ok (.iconst (-1), 1) := dk_get dk_d04_434 20 rfl
theorem dX12_readSky_34 : decode cX12_readSky 34 = .ok (.if_icmp .ne 5, 3) := dk_get dk_d04_434 21 rfl
theorem dX12_readSky_37 : decode cX12_readSky 37 = .ok (.iconst (-1), 1) := dk_get dk_d04_434 22 rfl
theorem dX12_readSky_38 : decode cX12_readSky 38 = .ok (.ireturn, 1) := dk_get dk_d04_434 23 rfl
theorem dX12_readSky_39 : decode cX12_readSky 39 = .ok (.iload_n 1, 1) := dk_get dk_d04_434 24 rfl
theorem dk_d04_435 : dkc cX12_readSky [(40, .iconst 1, 1), (41, .iadd, 1), (42, .istore_n 1, 1), (43, .goto (-41), 3), (46, .aload_n 0, 1), (47, .getfield 183, 3), (50, .ifCond .ne 7, 3), (53, .iload_n 1, 1), (54, .goto 8, 3), (57, .aload_n 0, 1), (58, .iconst 1, 1), (59, .invokevirtual 214, 3), (62, .ireturn, 1)] = true := by decide +kernel
theorem dX12_readSky_40 : decode cX12_readSky 40 = .ok (.iconst 1, 1) := dk_get dk_d04_435 0 rfl
theorem dX12_readSky_41 : decode cX12_readSky 41 = .ok (.iadd, 1) := dk_get dk_d04_435 1 rfl
theorem dX12_readSky_42 : decode cX12_readSky 42 = .ok (.istore_n 1, 1) := dk_get dk_d04_435 2 rfl
theorem dX12_readSky_43 : decode cX12_readSky 43 = .ok (.goto (-41), 3) := dk_get dk_d04_435 3 rfl
theorem dX12_readSky_46 : decode cX12_readSky 46 = .ok (.aload_n 0, 1) := dk_get dk_d04_435 4 rfl
theorem dX12_readSky_47 : decode cX12_readSky 47 = .ok (.getfield 183, 3) := dk_get dk_d04_435 5 rfl
theorem dX12_readSky_50 : decode cX12_readSky 50 = .ok (.ifCond .ne 7, 3) := dk_get dk_d04_435 6 rfl
theorem dX12_readSky_53 : decode cX12_readSky 53 = .ok (.iload_n 1, 1) := dk_get dk_d04_435 7 rfl
theorem dX12_readSky_54 : decode cX12_readSky 54 = .ok (.goto 8, 3) := dk_get dk_d04_435 8 rfl
theorem dX12_readSky_57 : decode cX12_readSky 57 = .ok (.aload_n 0, 1) := dk_get dk_d04_435 9 rfl
theorem dX12_readSky_58 : decode cX12_readSky 58 = .ok (.iconst 1, 1) := dk_get dk_d04_435 10 rfl
theorem dX12_readSky_59 : decode cX12_readSky 59 = .ok (.invokevirtual 214, 3) := dk_get dk_d04_435 11 rfl
theorem dX12_readSky_62 : decode cX12_readSky 62 = .ok (.ireturn, 1) := dk_get dk_d04_435 12 rfl
theorem dk_d04_436 : dkc cX12_readTwin [(0, .aload_n 0, 1), (1, .bipush 17, 2), (3, .iconst 0, 1), (4, .aload_n 0, 1), (5, .getfield 152, 3), (8, .iconst 1, 1), (9, .isub, 1), (10, .invokevirtual 268, 3), (13, .istore_n 1, 1), (14, .iload_n 1, 1), (15, .iconst (-1), 1), (16, .if_icmp .ne 5, 3), (19, .iconst (-1), 1), (20, .ireturn, 1), (21, .aload_n 0, 1), (22, .bipush 25, 2), (24, .invokevirtual 243, 3), (27, .ifCond .ne 9, 3), (30, .aload_n 0, 1), (31, .iconst 1, 1), (32, .invokevirtual 214, 3), (35, .ireturn, 1), (36, .aload_n 0, 1), (37, .invokevirtual 221, 3), (40, .aload_n 0, 1)] = true := by decide +kernel
theorem dX12_readTwin_0 : decode cX12_readTwin 0 = .ok (.aload_n 0, 1) := dk_get dk_d04_436 0 rfl
theorem dX12_readTwin_1 : decode cX12_readTwin 1 = .ok (.bipush 17, 2) := dk_get dk_d04_436 1 rfl
theorem dX12_readTwin_3 : decode cX12_readTwin 3 = .ok (.iconst 0, 1) := dk_get dk_d04_436 2 rfl
theorem dX12_readTwin_4 : decode cX12_readTwin 4 = .ok (.aload_n 0, 1) := dk_get dk_d04_436 3 rfl
theorem dX12_readTwin_5 : decode cX12_readTwin 5 = .ok (.getfield 152, 3) := dk_get dk_d04_436 4 rfl
theorem dX12_readTwin_8 : decode cX12_readTwin 8 = .ok (.iconst 1, 1) := dk_get dk_d04_436 5 rfl
theorem dX12_readTwin_9 : decode cX12_readTwin 9 = .ok (.isub, 1) := dk_get dk_d04_436 6 rfl
theorem dX12_readTwin_10 : decode cX12_readTwin 10 = .ok (.invokevirtual 268, 3) := dk_get dk_d04_436 7 rfl
theorem dX12_readTwin_13 : decode cX12_readTwin 13 = .ok (.istore_n 1, 1) := dk_get dk_d04_436 8 rfl
theorem dX12_readTwin_14 : decode cX12_readTwin 14 = .ok (.iload_n 1, 1) := dk_get dk_d04_436 9 rfl
theorem dX12_readTwin_15 : decode cX12_readTwin 15 = .ok (.iconst (-1), 1) := dk_get dk_d04_436 10 rfl
theorem dX12_readTwin_16 : decode cX12_readTwin 16 = .ok (.if_icmp .ne 5, 3) := dk_get dk_d04_436 11 rfl
theorem dX12_readTwin_19 : decode cX12_readTwin 19 = .ok (.iconst (-1), 1) := dk_get dk_d04_436 12 rfl
theorem dX12_readTwin_20 : decode cX12_readTwin 20 = .ok (.ireturn, 1) := dk_get dk_d04_436 13 rfl
theorem dX12_readTwin_21 : decode cX12_readTwin 21 = .ok (.aload_n 0, 1) := dk_get dk_d04_436 14 rfl
theorem dX12_readTwin_22 : decode cX12_readTwin 22 = .ok (.bipush 25, 2) := dk_get dk_d04_436 15 rfl
theorem dX12_readTwin_24 : decode cX12_readTwin 24 = .ok (.invokevirtual 243, 3) := dk_get dk_d04_436 16 rfl
theorem dX12_readTwin_27 : decode cX12_readTwin 27 = .ok (.ifCond .ne 9, 3) := dk_get dk_d04_436 17 rfl
theorem dX12_readTwin_30 : decode cX12_readTwin 30 = .ok (.aload_n 0, 1) := dk_get dk_d04_436 18 rfl
theorem dX12_readTwin_31 : decode cX12_readTwin 31 = .ok (.iconst 1, 1) := dk_get dk_d04_436 19 rfl
theorem dX12_readTwin_32 : decode cX12_readTwin 32 = .ok (.invokevirtual 214, 3) := dk_get dk_d04_436 20 rfl
theorem dX12_readTwin_35 : decode cX12_readTwin 35 = .ok (.ireturn, 1) := dk_get dk_d04_436 21 rfl
theorem dX12_readTwin_36 : decode cX12_readTwin 36 = .ok (.aload_n 0, 1) := dk_get dk_d04_436 22 rfl
theorem dX12_readTwin_37 : decode cX12_readTwin 37 = .ok (.invokevirtual 221, 3) := dk_get dk_d04_436 23 rfl
theorem dX12_readTwin_40 : decode cX12_readTwin 40 = .ok (.aload_n 0, 1) := dk_get dk_d04_436 24 rfl
theorem dk_d04_437 : dkc cX12_readTwin [(41, .getfield 183, 3), (44, .iconst 3, 1), (45, .if_icmp .ne 17, 3), (48, .aload_n 0, 1), (49, .getfield 186, 3), (52, .iload_n 1, 1), (53, .if_icmp .ne 9, 3), (56, .aload_n 0, 1), (57, .iconst 2, 1), (58, .invokevirtual 214, 3), (61, .ireturn, 1), (62, .aload_n 0, 1), (63, .iconst 0, 1), (64, .aload_n 0, 1), (65, .getfield 152, 3), (68, .iconst 1, 1), (69, .isub, 1), (70, .invokevirtual 265, 3), (73, .istore_n 2, 1), (74, .iload_n 2, 1), (75, .iconst (-1), 1), (76, .if_icmp .ne 5, 3), (79, .iconst (-1), 1), (80, .ireturn, 1), (81, .aload_n 0, 1)] = true := by decide +kernel
theorem dX12_readTwin_41 : decode cX12_readTwin 41 = .ok (.getfield 183, 3) := dk_get dk_d04_437 0 rfl
theorem dX12_readTwin_44 : decode cX12_readTwin 44 = .ok (.iconst 3, 1) := dk_get dk_d04_437 1 rfl
theorem dX12_readTwin_45 : decode cX12_readTwin 45 = .ok (.if_icmp .ne 17, 3) := dk_get dk_d04_437 2 rfl
theorem dX12_readTwin_48 : decode cX12_readTwin 48 = .ok (.aload_n 0, 1) := dk_get dk_d04_437 3 rfl
theorem dX12_readTwin_49 : decode cX12_readTwin 49 = .ok (.getfield 186, 3) := dk_get dk_d04_437 4 rfl
theorem dX12_readTwin_52 : decode cX12_readTwin 52 = .ok (.iload_n 1, 1) := dk_get dk_d04_437 5 rfl
theorem dX12_readTwin_53 : decode cX12_readTwin 53 = .ok (.if_icmp .ne 9, 3) := dk_get dk_d04_437 6 rfl
theorem dX12_readTwin_56 : decode cX12_readTwin 56 = .ok (.aload_n 0, 1) := dk_get dk_d04_437 7 rfl
theorem dX12_readTwin_57 : decode cX12_readTwin 57 = .ok (.iconst 2, 1) := dk_get dk_d04_437 8 rfl
theorem dX12_readTwin_58 : decode cX12_readTwin 58 = .ok (.invokevirtual 214, 3) := dk_get dk_d04_437 9 rfl
theorem dX12_readTwin_61 : decode cX12_readTwin 61 = .ok (.ireturn, 1) := dk_get dk_d04_437 10 rfl
theorem dX12_readTwin_62 : decode cX12_readTwin 62 = .ok (.aload_n 0, 1) := dk_get dk_d04_437 11 rfl
theorem dX12_readTwin_63 : decode cX12_readTwin 63 = .ok (.iconst 0, 1) := dk_get dk_d04_437 12 rfl
theorem dX12_readTwin_64 : decode cX12_readTwin 64 = .ok (.aload_n 0, 1) := dk_get dk_d04_437 13 rfl
theorem dX12_readTwin_65 : decode cX12_readTwin 65 = .ok (.getfield 152, 3) := dk_get dk_d04_437 14 rfl
theorem dX12_readTwin_68 : decode cX12_readTwin 68 = .ok (.iconst 1, 1) := dk_get dk_d04_437 15 rfl
theorem dX12_readTwin_69 : decode cX12_readTwin 69 = .ok (.isub, 1) := dk_get dk_d04_437 16 rfl
theorem dX12_readTwin_70 : decode cX12_readTwin 70 = .ok (.invokevirtual 265, 3) := dk_get dk_d04_437 17 rfl
theorem dX12_readTwin_73 : decode cX12_readTwin 73 = .ok (.istore_n 2, 1) := dk_get dk_d04_437 18 rfl
theorem dX12_readTwin_74 : decode cX12_readTwin 74 = .ok (.iload_n 2, 1) := dk_get dk_d04_437 19 rfl
theorem dX12_readTwin_75 : decode cX12_readTwin 75 = .ok (.iconst (-1), 1) := dk_get dk_d04_437 20 rfl
theorem dX12_readTwin_76 : decode cX12_readTwin 76 = .ok (.if_icmp .ne 5, 3) := dk_get dk_d04_437 21 rfl
theorem dX12_readTwin_79 : decode cX12_readTwin 79 = .ok (.iconst (-1), 1) := dk_get dk_d04_437 22 rfl
theorem dX12_readTwin_80 : decode cX12_readTwin 80 = .ok (.ireturn, 1) := dk_get dk_d04_437 23 rfl
theorem dX12_readTwin_81 : decode cX12_readTwin 81 = .ok (.aload_n 0, 1) := dk_get dk_d04_437 24 rfl
theorem dk_d04_438 : dkc cX12_readTwin [(82, .getfield 71, 3), (85, .bipush 20, 2), (87, .iload_n 1, 1), (88, .iadd, 1), (89, .aload_n 0, 1), (90, .getfield 71, 3), (93, .bipush 20, 2), (95, .iload_n 1, 1), (96, .iadd, 1), (97, .iaload, 1), (98, .iconst 1, 1), (99, .iload_n 2, 1), (100, .ishl, 1), (101, .ior, 1), (102, .iastore, 1), (103, .aload_n 0, 1), (104, .getfield 71, 3), (107, .bipush 20, 2), (109, .iload_n 2, 1), (110, .iadd, 1), (111, .aload_n 0, 1), (112, .getfield 71, 3), (115, .bipush 20, 2), (117, .iload_n 2, 1), (118, .iadd, 1)] = true := by decide +kernel
theorem dX12_readTwin_82 : decode cX12_readTwin 82 = .ok (.getfield 71, 3) := dk_get dk_d04_438 0 rfl
theorem dX12_readTwin_85 : decode cX12_readTwin 85 = .ok (.bipush 20, 2) := dk_get dk_d04_438 1 rfl
theorem dX12_readTwin_87 : decode cX12_readTwin 87 = .ok (.iload_n 1, 1) := dk_get dk_d04_438 2 rfl
theorem dX12_readTwin_88 : decode cX12_readTwin 88 = .ok (.iadd, 1) := dk_get dk_d04_438 3 rfl
theorem dX12_readTwin_89 : decode cX12_readTwin 89 = .ok (.aload_n 0, 1) := dk_get dk_d04_438 4 rfl
theorem dX12_readTwin_90 : decode cX12_readTwin 90 = .ok (.getfield 71, 3) := dk_get dk_d04_438 5 rfl
theorem dX12_readTwin_93 : decode cX12_readTwin 93 = .ok (.bipush 20, 2) := dk_get dk_d04_438 6 rfl
theorem dX12_readTwin_95 : decode cX12_readTwin 95 = .ok (.iload_n 1, 1) := dk_get dk_d04_438 7 rfl
theorem dX12_readTwin_96 : decode cX12_readTwin 96 = .ok (.iadd, 1) := dk_get dk_d04_438 8 rfl
theorem dX12_readTwin_97 : decode cX12_readTwin 97 = .ok (.iaload, 1) := dk_get dk_d04_438 9 rfl
theorem dX12_readTwin_98 : decode cX12_readTwin 98 = .ok (.iconst 1, 1) := dk_get dk_d04_438 10 rfl
theorem dX12_readTwin_99 : decode cX12_readTwin 99 = .ok (.iload_n 2, 1) := dk_get dk_d04_438 11 rfl
theorem dX12_readTwin_100 : decode cX12_readTwin 100 = .ok (.ishl, 1) := dk_get dk_d04_438 12 rfl
theorem dX12_readTwin_101 : decode cX12_readTwin 101 = .ok (.ior, 1) := dk_get dk_d04_438 13 rfl
theorem dX12_readTwin_102 : decode cX12_readTwin 102 = .ok (.iastore, 1) := dk_get dk_d04_438 14 rfl
theorem dX12_readTwin_103 : decode cX12_readTwin 103 = .ok (.aload_n 0, 1) := dk_get dk_d04_438 15 rfl
theorem dX12_readTwin_104 : decode cX12_readTwin 104 = .ok (.getfield 71, 3) := dk_get dk_d04_438 16 rfl
theorem dX12_readTwin_107 : decode cX12_readTwin 107 = .ok (.bipush 20, 2) := dk_get dk_d04_438 17 rfl
theorem dX12_readTwin_109 : decode cX12_readTwin 109 = .ok (.iload_n 2, 1) := dk_get dk_d04_438 18 rfl
theorem dX12_readTwin_110 : decode cX12_readTwin 110 = .ok (.iadd, 1) := dk_get dk_d04_438 19 rfl
theorem dX12_readTwin_111 : decode cX12_readTwin 111 = .ok (.aload_n 0, 1) := dk_get dk_d04_438 20 rfl
theorem dX12_readTwin_112 : decode cX12_readTwin 112 = .ok (.getfield 71, 3) := dk_get dk_d04_438 21 rfl
theorem dX12_readTwin_115 : decode cX12_readTwin 115 = .ok (.bipush 20, 2) := dk_get dk_d04_438 22 rfl
theorem dX12_readTwin_117 : decode cX12_readTwin 117 = .ok (.iload_n 2, 1) := dk_get dk_d04_438 23 rfl
theorem dX12_readTwin_118 : decode cX12_readTwin 118 = .ok (.iadd, 1) := dk_get dk_d04_438 24 rfl
theorem dk_d04_439 : dkc cX12_readTwin [(119, .iaload, 1), (120, .iconst 1, 1), (121, .iload_n 1, 1), (122, .ishl, 1), (123, .ior, 1), (124, .iastore, 1), (125, .aload_n 0, 1), (126, .bipush 59, 2), (128, .invokevirtual 272, 3), (131, .ireturn, 1)] = true := by decide +kernel
theorem dX12_readTwin_119 : decode cX12_readTwin 119 = .ok (.iaload, 1) := dk_get dk_d04_439 0 rfl
theorem dX12_readTwin_120 : decode cX12_readTwin 120 = .ok (.iconst 1, 1) := dk_get dk_d04_439 1 rfl
theorem dX12_readTwin_121 : decode cX12_readTwin 121 = .ok (.iload_n 1, 1) := dk_get dk_d04_439 2 rfl
theorem dX12_readTwin_122 : decode cX12_readTwin 122 = .ok (.ishl, 1) := dk_get dk_d04_439 3 rfl
theorem dX12_readTwin_123 : decode cX12_readTwin 123 = .ok (.ior, 1) := dk_get dk_d04_439 4 rfl
theorem dX12_readTwin_124 : decode cX12_readTwin 124 = .ok (.iastore, 1) := dk_get dk_d04_439 5 rfl
theorem dX12_readTwin_125 : decode cX12_readTwin 125 = .ok (.aload_n 0, 1) := dk_get dk_d04_439 6 rfl
theorem dX12_readTwin_126 : decode cX12_readTwin 126 = .ok (.bipush 59, 2) := dk_get dk_d04_439 7 rfl
theorem dX12_readTwin_128 : decode cX12_readTwin 128 = .ok (.invokevirtual 272, 3) := dk_get dk_d04_439 8 rfl
theorem dX12_readTwin_131 : decode cX12_readTwin 131 = .ok (.ireturn, 1) := dk_get dk_d04_439 9 rfl
theorem dk_d04_440 : dkc cX12_readTwins [(0, .iconst 0, 1), (1, .istore_n 1, 1), (2, .iload_n 1, 1), (3, .bipush 20, 2), (5, .if_icmp .ge 19, 3), (8, .aload_n 0, 1), (9, .getfield 71, 3), (12, .bipush 20, 2), (14, .iload_n 1, 1), (15, .iadd, 1), (16, .iconst 0, 1), (17, .iastore, 1), (18, .iinc 1 1, 3), (21, .goto (-19), 3), (24, .iconst 0, 1), (25, .istore_n 1, 1), (26, .aload_n 0, 1), (27, .bipush 17, 2), (29, .invokevirtual 243, 3), (32, .ifCond .eq 32, 3), (35, .iload_n 1, 1), (36, .bipush 16, 2), (38, .if_icmp .ne 9, 3), (41, .aload_n 0, 1), (42, .iconst 3, 1)] = true := by decide +kernel
theorem dX12_readTwins_0 : decode cX12_readTwins 0 = .ok (.iconst 0, 1) := dk_get dk_d04_440 0 rfl
theorem dX12_readTwins_1 : decode cX12_readTwins 1 = .ok (.istore_n 1, 1) := dk_get dk_d04_440 1 rfl
theorem dX12_readTwins_2 : decode cX12_readTwins 2 = .ok (.iload_n 1, 1) := dk_get dk_d04_440 2 rfl
theorem dX12_readTwins_3 : decode cX12_readTwins 3 = .ok (.bipush 20, 2) := dk_get dk_d04_440 3 rfl
theorem dX12_readTwins_5 : decode cX12_readTwins 5 = .ok (.if_icmp .ge 19, 3) := dk_get dk_d04_440 4 rfl
theorem dX12_readTwins_8 : decode cX12_readTwins 8 = .ok (.aload_n 0, 1) := dk_get dk_d04_440 5 rfl
theorem dX12_readTwins_9 : decode cX12_readTwins 9 = .ok (.getfield 71, 3) := dk_get dk_d04_440 6 rfl
theorem dX12_readTwins_12 : decode cX12_readTwins 12 = .ok (.bipush 20, 2) := dk_get dk_d04_440 7 rfl
theorem dX12_readTwins_14 : decode cX12_readTwins 14 = .ok (.iload_n 1, 1) := dk_get dk_d04_440 8 rfl
theorem dX12_readTwins_15 : decode cX12_readTwins 15 = .ok (.iadd, 1) := dk_get dk_d04_440 9 rfl
theorem dX12_readTwins_16 : decode cX12_readTwins 16 = .ok (.iconst 0, 1) := dk_get dk_d04_440 10 rfl
theorem dX12_readTwins_17 : decode cX12_readTwins 17 = .ok (.iastore, 1) := dk_get dk_d04_440 11 rfl
theorem dX12_readTwins_18 : decode cX12_readTwins 18 = .ok (.iinc 1 1, 3) := dk_get dk_d04_440 12 rfl
theorem dX12_readTwins_21 : decode cX12_readTwins 21 = .ok (.goto (-19), 3) := dk_get dk_d04_440 13 rfl
theorem dX12_readTwins_24 : decode cX12_readTwins 24 = .ok (.iconst 0, 1) := dk_get dk_d04_440 14 rfl
theorem dX12_readTwins_25 : decode cX12_readTwins 25 = .ok (.istore_n 1, 1) := dk_get dk_d04_440 15 rfl
theorem dX12_readTwins_26 : decode cX12_readTwins 26 = .ok (.aload_n 0, 1) := dk_get dk_d04_440 16 rfl
theorem dX12_readTwins_27 : decode cX12_readTwins 27 = .ok (.bipush 17, 2) := dk_get dk_d04_440 17 rfl
theorem dX12_readTwins_29 : decode cX12_readTwins 29 = .ok (.invokevirtual 243, 3) := dk_get dk_d04_440 18 rfl
theorem dX12_readTwins_32 : decode cX12_readTwins 32 = .ok (.ifCond .eq 32, 3) := dk_get dk_d04_440 19 rfl
theorem dX12_readTwins_35 : decode cX12_readTwins 35 = .ok (.iload_n 1, 1) := dk_get dk_d04_440 20 rfl
theorem dX12_readTwins_36 : decode cX12_readTwins 36 = .ok (.bipush 16, 2) := dk_get dk_d04_440 21 rfl
theorem dX12_readTwins_38 : decode cX12_readTwins 38 = .ok (.if_icmp .ne 9, 3) := dk_get dk_d04_440 22 rfl
theorem dX12_readTwins_41 : decode cX12_readTwins 41 = .ok (.aload_n 0, 1) := dk_get dk_d04_440 23 rfl
theorem dX12_readTwins_42 : decode cX12_readTwins 42 = .ok (.iconst 3, 1) := dk_get dk_d04_440 24 rfl
theorem dk_d04_441 : dkc cX12_readTwins [(43, .invokevirtual 214, 3), (46, .ireturn, 1), (47, .aload_n 0, 1), (48, .invokevirtual 290, 3), (51, .iconst (-1), 1), (52, .if_icmp .ne 5, 3), (55, .iconst (-1), 1), (56, .ireturn, 1), (57, .iload_n 1, 1), (58, .iconst 1, 1), (59, .iadd, 1), (60, .istore_n 1, 1), (61, .goto (-35), 3), (64, .aload_n 0, 1), (65, .getfield 183, 3), (68, .ifCond .ne 7, 3), (71, .iload_n 1, 1), (72, .goto 8, 3), (75, .aload_n 0, 1), (76, .iconst 1, 1), (77, .invokevirtual 214, 3), (80, .ireturn, 1)] = true := by decide +kernel
theorem dX12_readTwins_43 : decode cX12_readTwins 43 = .ok (.invokevirtual 214, 3) := dk_get dk_d04_441 0 rfl
theorem dX12_readTwins_46 : decode cX12_readTwins 46 = .ok (.ireturn, 1) := dk_get dk_d04_441 1 rfl
theorem dX12_readTwins_47 : decode cX12_readTwins 47 = .ok (.aload_n 0, 1) := dk_get dk_d04_441 2 rfl
theorem dX12_readTwins_48 : decode cX12_readTwins 48 = .ok (.invokevirtual 290, 3) := dk_get dk_d04_441 3 rfl
theorem dX12_readTwins_51 : decode cX12_readTwins 51 = .ok (.iconst (-1), 1) := dk_get dk_d04_441 4 rfl
theorem dX12_readTwins_52 : decode cX12_readTwins 52 = .ok (.if_icmp .ne 5, 3) := dk_get dk_d04_441 5 rfl
theorem dX12_readTwins_55 : decode cX12_readTwins 55 = .ok (.iconst (-1), 1) := dk_get dk_d04_441 6 rfl
theorem dX12_readTwins_56 : decode cX12_readTwins 56 = .ok (.ireturn, 1) := dk_get dk_d04_441 7 rfl
theorem dX12_readTwins_57 : decode cX12_readTwins 57 = .ok (.iload_n 1, 1) := dk_get dk_d04_441 8 rfl
theorem dX12_readTwins_58 : decode cX12_readTwins 58 = .ok (.iconst 1, 1) := dk_get dk_d04_441 9 rfl
theorem dX12_readTwins_59 : decode cX12_readTwins 59 = .ok (.iadd, 1) := dk_get dk_d04_441 10 rfl
theorem dX12_readTwins_60 : decode cX12_readTwins 60 = .ok (.istore_n 1, 1) := dk_get dk_d04_441 11 rfl
theorem dX12_readTwins_61 : decode cX12_readTwins 61 = .ok (.goto (-35), 3) := dk_get dk_d04_441 12 rfl
theorem dX12_readTwins_64 : decode cX12_readTwins 64 = .ok (.aload_n 0, 1) := dk_get dk_d04_441 13 rfl
theorem dX12_readTwins_65 : decode cX12_readTwins 65 = .ok (.getfield 183, 3) := dk_get dk_d04_441 14 rfl
theorem dX12_readTwins_68 : decode cX12_readTwins 68 = .ok (.ifCond .ne 7, 3) := dk_get dk_d04_441 15 rfl
theorem dX12_readTwins_71 : decode cX12_readTwins 71 = .ok (.iload_n 1, 1) := dk_get dk_d04_441 16 rfl
theorem dX12_readTwins_72 : decode cX12_readTwins 72 = .ok (.goto 8, 3) := dk_get dk_d04_441 17 rfl
theorem dX12_readTwins_75 : decode cX12_readTwins 75 = .ok (.aload_n 0, 1) := dk_get dk_d04_441 18 rfl
theorem dX12_readTwins_76 : decode cX12_readTwins 76 = .ok (.iconst 1, 1) := dk_get dk_d04_441 19 rfl
theorem dX12_readTwins_77 : decode cX12_readTwins 77 = .ok (.invokevirtual 214, 3) := dk_get dk_d04_441 20 rfl
theorem dX12_readTwins_80 : decode cX12_readTwins 80 = .ok (.ireturn, 1) := dk_get dk_d04_441 21 rfl
theorem dk_d04_442 : dkc cX12_readsText [(0, .aload_n 0, 1), (1, .iconst 0, 1), (2, .putfield 262, 3), (5, .aload_n 0, 1), (6, .invokevirtual 221, 3), (9, .iload_n 1, 1), (10, .iconst 1, 1), (11, .if_icmp .ne 8, 3), (14, .aload_n 0, 1), (15, .invokevirtual 293, 3), (18, .ireturn, 1), (19, .iload_n 1, 1), (20, .iconst 2, 1), (21, .if_icmp .ne 8, 3), (24, .aload_n 0, 1), (25, .invokevirtual 296, 3), (28, .ireturn, 1), (29, .iload_n 1, 1), (30, .iconst 3, 1), (31, .if_icmp .ne 10, 3), (34, .aload_n 0, 1), (35, .invokevirtual 299, 3), (38, .goto 7, 3), (41, .aload_n 0, 1), (42, .invokevirtual 302, 3)] = true := by decide +kernel
theorem dX12_readsText_0 : decode cX12_readsText 0 = .ok (.aload_n 0, 1) := dk_get dk_d04_442 0 rfl
theorem dX12_readsText_1 : decode cX12_readsText 1 = .ok (.iconst 0, 1) := dk_get dk_d04_442 1 rfl
theorem dX12_readsText_2 : decode cX12_readsText 2 = .ok (.putfield 262, 3) := dk_get dk_d04_442 2 rfl
theorem dX12_readsText_5 : decode cX12_readsText 5 = .ok (.aload_n 0, 1) := dk_get dk_d04_442 3 rfl
theorem dX12_readsText_6 : decode cX12_readsText 6 = .ok (.invokevirtual 221, 3) := dk_get dk_d04_442 4 rfl
theorem dX12_readsText_9 : decode cX12_readsText 9 = .ok (.iload_n 1, 1) := dk_get dk_d04_442 5 rfl
theorem dX12_readsText_10 : decode cX12_readsText 10 = .ok (.iconst 1, 1) := dk_get dk_d04_442 6 rfl
theorem dX12_readsText_11 : decode cX12_readsText 11 = .ok (.if_icmp .ne 8, 3) := dk_get dk_d04_442 7 rfl
theorem dX12_readsText_14 : decode cX12_readsText 14 = .ok (.aload_n 0, 1) := dk_get dk_d04_442 8 rfl
theorem dX12_readsText_15 : decode cX12_readsText 15 = .ok (.invokevirtual 293, 3) := dk_get dk_d04_442 9 rfl
theorem dX12_readsText_18 : decode cX12_readsText 18 = .ok (.ireturn, 1) := dk_get dk_d04_442 10 rfl
theorem dX12_readsText_19 : decode cX12_readsText 19 = .ok (.iload_n 1, 1) := dk_get dk_d04_442 11 rfl
theorem dX12_readsText_20 : decode cX12_readsText 20 = .ok (.iconst 2, 1) := dk_get dk_d04_442 12 rfl
theorem dX12_readsText_21 : decode cX12_readsText 21 = .ok (.if_icmp .ne 8, 3) := dk_get dk_d04_442 13 rfl
theorem dX12_readsText_24 : decode cX12_readsText 24 = .ok (.aload_n 0, 1) := dk_get dk_d04_442 14 rfl
theorem dX12_readsText_25 : decode cX12_readsText 25 = .ok (.invokevirtual 296, 3) := dk_get dk_d04_442 15 rfl
theorem dX12_readsText_28 : decode cX12_readsText 28 = .ok (.ireturn, 1) := dk_get dk_d04_442 16 rfl
theorem dX12_readsText_29 : decode cX12_readsText 29 = .ok (.iload_n 1, 1) := dk_get dk_d04_442 17 rfl
theorem dX12_readsText_30 : decode cX12_readsText 30 = .ok (.iconst 3, 1) := dk_get dk_d04_442 18 rfl
theorem dX12_readsText_31 : decode cX12_readsText 31 = .ok (.if_icmp .ne 10, 3) := dk_get dk_d04_442 19 rfl
theorem dX12_readsText_34 : decode cX12_readsText 34 = .ok (.aload_n 0, 1) := dk_get dk_d04_442 20 rfl
theorem dX12_readsText_35 : decode cX12_readsText 35 = .ok (.invokevirtual 299, 3) := dk_get dk_d04_442 21 rfl
theorem dX12_readsText_38 : decode cX12_readsText 38 = .ok (.goto 7, 3) := dk_get dk_d04_442 22 rfl
theorem dX12_readsText_41 : decode cX12_readsText 41 = .ok (.aload_n 0, 1) := dk_get dk_d04_442 23 rfl
theorem dX12_readsText_42 : decode cX12_readsText 42 = .ok (.invokevirtual 302, 3) := dk_get dk_d04_442 24 rfl
theorem dk_d04_443 : dkc cX12_readsText [(45, .ireturn, 1)] = true := by decide +kernel
theorem dX12_readsText_45 : decode cX12_readsText 45 = .ok (.ireturn, 1) := dk_get dk_d04_443 0 rfl
theorem dk_d04_444 : dkc cX12_takesOther [(0, .iload_n 1, 1), (1, .iconst 3, 1), (2, .if_icmp .ne 38, 3), (5, .iconst 0, 1), (6, .istore_n 3, 1), (7, .iload_n 3, 1), (8, .bipush 20, 2), (10, .if_icmp .ge 24, 3), (13, .aload_n 0, 1), (14, .getfield 71, 3), (17, .iload_n 3, 1), (18, .aload_n 0, 1), (19, .getfield 71, 3), (22, .bipush 20, 2), (24, .iload_n 3, 1), (25, .iadd, 1), (26, .iaload, 1), (27, .iastore, 1), (28, .iinc 3 1, 3), (31, .goto (-24), 3), (34, .aload_n 0, 1), (35, .iload_n 2, 1), (36, .putfield 305, 3), (39, .return_, 1), (40, .iload_n 1, 1)] = true := by decide +kernel
theorem dX12_takesOther_0 : decode cX12_takesOther 0 = .ok (.iload_n 1, 1) := dk_get dk_d04_444 0 rfl
theorem dX12_takesOther_1 : decode cX12_takesOther 1 = .ok (.iconst 3, 1) := dk_get dk_d04_444 1 rfl
theorem dX12_takesOther_2 : decode cX12_takesOther 2 = .ok (.if_icmp .ne 38, 3) := dk_get dk_d04_444 2 rfl
theorem dX12_takesOther_5 : decode cX12_takesOther 5 = .ok (.iconst 0, 1) := dk_get dk_d04_444 3 rfl
theorem dX12_takesOther_6 : decode cX12_takesOther 6 = .ok (.istore_n 3, 1) := dk_get dk_d04_444 4 rfl
theorem dX12_takesOther_7 : decode cX12_takesOther 7 = .ok (.iload_n 3, 1) := dk_get dk_d04_444 5 rfl
theorem dX12_takesOther_8 : decode cX12_takesOther 8 = .ok (.bipush 20, 2) := dk_get dk_d04_444 6 rfl
theorem dX12_takesOther_10 : decode cX12_takesOther 10 = .ok (.if_icmp .ge 24, 3) := dk_get dk_d04_444 7 rfl
theorem dX12_takesOther_13 : decode cX12_takesOther 13 = .ok (.aload_n 0, 1) := dk_get dk_d04_444 8 rfl
theorem dX12_takesOther_14 : decode cX12_takesOther 14 = .ok (.getfield 71, 3) := dk_get dk_d04_444 9 rfl
theorem dX12_takesOther_17 : decode cX12_takesOther 17 = .ok (.iload_n 3, 1) := dk_get dk_d04_444 10 rfl
theorem dX12_takesOther_18 : decode cX12_takesOther 18 = .ok (.aload_n 0, 1) := dk_get dk_d04_444 11 rfl
theorem dX12_takesOther_19 : decode cX12_takesOther 19 = .ok (.getfield 71, 3) := dk_get dk_d04_444 12 rfl
theorem dX12_takesOther_22 : decode cX12_takesOther 22 = .ok (.bipush 20, 2) := dk_get dk_d04_444 13 rfl
theorem dX12_takesOther_24 : decode cX12_takesOther 24 = .ok (.iload_n 3, 1) := dk_get dk_d04_444 14 rfl
theorem dX12_takesOther_25 : decode cX12_takesOther 25 = .ok (.iadd, 1) := dk_get dk_d04_444 15 rfl
theorem dX12_takesOther_26 : decode cX12_takesOther 26 = .ok (.iaload, 1) := dk_get dk_d04_444 16 rfl
theorem dX12_takesOther_27 : decode cX12_takesOther 27 = .ok (.iastore, 1) := dk_get dk_d04_444 17 rfl
theorem dX12_takesOther_28 : decode cX12_takesOther 28 = .ok (.iinc 3 1, 3) := dk_get dk_d04_444 18 rfl
theorem dX12_takesOther_31 : decode cX12_takesOther 31 = .ok (.goto (-24), 3) := dk_get dk_d04_444 19 rfl
theorem dX12_takesOther_34 : decode cX12_takesOther 34 = .ok (.aload_n 0, 1) := dk_get dk_d04_444 20 rfl
theorem dX12_takesOther_35 : decode cX12_takesOther 35 = .ok (.iload_n 2, 1) := dk_get dk_d04_444 21 rfl
theorem dX12_takesOther_36 : decode cX12_takesOther 36 = .ok (.putfield 305, 3) := dk_get dk_d04_444 22 rfl
theorem dX12_takesOther_39 : decode cX12_takesOther 39 = .ok (.return_, 1) := dk_get dk_d04_444 23 rfl
theorem dX12_takesOther_40 : decode cX12_takesOther 40 = .ok (.iload_n 1, 1) := dk_get dk_d04_444 24 rfl
theorem dk_d04_445 : dkc cX12_takesOther [(41, .iconst 1, 1), (42, .if_icmp .ne 41, 3), (45, .iconst 0, 1), (46, .istore_n 3, 1), (47, .iload_n 3, 1), (48, .iconst 3, 1), (49, .iload_n 2, 1), (50, .imul, 1), (51, .if_icmp .ge 24, 3), (54, .aload_n 0, 1), (55, .getfield 65, 3), (58, .iload_n 3, 1), (59, .aload_n 0, 1), (60, .getfield 65, 3), (63, .bipush 48, 2), (65, .iload_n 3, 1), (66, .iadd, 1), (67, .iaload, 1), (68, .iastore, 1), (69, .iinc 3 1, 3), (72, .goto (-25), 3), (75, .aload_n 0, 1), (76, .iload_n 2, 1), (77, .putfield 308, 3), (80, .goto 38, 3)] = true := by decide +kernel
theorem dX12_takesOther_41 : decode cX12_takesOther 41 = .ok (.iconst 1, 1) := dk_get dk_d04_445 0 rfl
theorem dX12_takesOther_42 : decode cX12_takesOther 42 = .ok (.if_icmp .ne 41, 3) := dk_get dk_d04_445 1 rfl
theorem dX12_takesOther_45 : decode cX12_takesOther 45 = .ok (.iconst 0, 1) := dk_get dk_d04_445 2 rfl
theorem dX12_takesOther_46 : decode cX12_takesOther 46 = .ok (.istore_n 3, 1) := dk_get dk_d04_445 3 rfl
theorem dX12_takesOther_47 : decode cX12_takesOther 47 = .ok (.iload_n 3, 1) := dk_get dk_d04_445 4 rfl
theorem dX12_takesOther_48 : decode cX12_takesOther 48 = .ok (.iconst 3, 1) := dk_get dk_d04_445 5 rfl
theorem dX12_takesOther_49 : decode cX12_takesOther 49 = .ok (.iload_n 2, 1) := dk_get dk_d04_445 6 rfl
theorem dX12_takesOther_50 : decode cX12_takesOther 50 = .ok (.imul, 1) := dk_get dk_d04_445 7 rfl
theorem dX12_takesOther_51 : decode cX12_takesOther 51 = .ok (.if_icmp .ge 24, 3) := dk_get dk_d04_445 8 rfl
theorem dX12_takesOther_54 : decode cX12_takesOther 54 = .ok (.aload_n 0, 1) := dk_get dk_d04_445 9 rfl
theorem dX12_takesOther_55 : decode cX12_takesOther 55 = .ok (.getfield 65, 3) := dk_get dk_d04_445 10 rfl
theorem dX12_takesOther_58 : decode cX12_takesOther 58 = .ok (.iload_n 3, 1) := dk_get dk_d04_445 11 rfl
theorem dX12_takesOther_59 : decode cX12_takesOther 59 = .ok (.aload_n 0, 1) := dk_get dk_d04_445 12 rfl
theorem dX12_takesOther_60 : decode cX12_takesOther 60 = .ok (.getfield 65, 3) := dk_get dk_d04_445 13 rfl
theorem dX12_takesOther_63 : decode cX12_takesOther 63 = .ok (.bipush 48, 2) := dk_get dk_d04_445 14 rfl
theorem dX12_takesOther_65 : decode cX12_takesOther 65 = .ok (.iload_n 3, 1) := dk_get dk_d04_445 15 rfl
theorem dX12_takesOther_66 : decode cX12_takesOther 66 = .ok (.iadd, 1) := dk_get dk_d04_445 16 rfl
theorem dX12_takesOther_67 : decode cX12_takesOther 67 = .ok (.iaload, 1) := dk_get dk_d04_445 17 rfl
theorem dX12_takesOther_68 : decode cX12_takesOther 68 = .ok (.iastore, 1) := dk_get dk_d04_445 18 rfl
theorem dX12_takesOther_69 : decode cX12_takesOther 69 = .ok (.iinc 3 1, 3) := dk_get dk_d04_445 19 rfl
theorem dX12_takesOther_72 : decode cX12_takesOther 72 = .ok (.goto (-25), 3) := dk_get dk_d04_445 20 rfl
theorem dX12_takesOther_75 : decode cX12_takesOther 75 = .ok (.aload_n 0, 1) := dk_get dk_d04_445 21 rfl
theorem dX12_takesOther_76 : decode cX12_takesOther 76 = .ok (.iload_n 2, 1) := dk_get dk_d04_445 22 rfl
theorem dX12_takesOther_77 : decode cX12_takesOther 77 = .ok (.putfield 308, 3) := dk_get dk_d04_445 23 rfl
theorem dX12_takesOther_80 : decode cX12_takesOther 80 = .ok (.goto 38, 3) := dk_get dk_d04_445 24 rfl
theorem dk_d04_446 : dkc cX12_takesOther [(83, .iconst 0, 1), (84, .istore_n 3, 1), (85, .iload_n 3, 1), (86, .iconst 5, 1), (87, .iload_n 2, 1), (88, .imul, 1), (89, .if_icmp .ge 24, 3), (92, .aload_n 0, 1), (93, .getfield 68, 3), (96, .iload_n 3, 1), (97, .aload_n 0, 1), (98, .getfield 68, 3), (101, .bipush 80, 2), (103, .iload_n 3, 1), (104, .iadd, 1), (105, .iaload, 1), (106, .iastore, 1), (107, .iinc 3 1, 3), (110, .goto (-25), 3), (113, .aload_n 0, 1), (114, .iload_n 2, 1), (115, .putfield 311, 3), (118, .aload_n 0, 1), (119, .iconst 0, 1), (120, .putfield 143, 3)] = true := by decide +kernel
theorem dX12_takesOther_83 : decode cX12_takesOther 83 = .ok (.iconst 0, 1) := dk_get dk_d04_446 0 rfl
theorem dX12_takesOther_84 : decode cX12_takesOther 84 = .ok (.istore_n 3, 1) := dk_get dk_d04_446 1 rfl
theorem dX12_takesOther_85 : decode cX12_takesOther 85 = .ok (.iload_n 3, 1) := dk_get dk_d04_446 2 rfl
theorem dX12_takesOther_86 : decode cX12_takesOther 86 = .ok (.iconst 5, 1) := dk_get dk_d04_446 3 rfl
theorem dX12_takesOther_87 : decode cX12_takesOther 87 = .ok (.iload_n 2, 1) := dk_get dk_d04_446 4 rfl
theorem dX12_takesOther_88 : decode cX12_takesOther 88 = .ok (.imul, 1) := dk_get dk_d04_446 5 rfl
theorem dX12_takesOther_89 : decode cX12_takesOther 89 = .ok (.if_icmp .ge 24, 3) := dk_get dk_d04_446 6 rfl
theorem dX12_takesOther_92 : decode cX12_takesOther 92 = .ok (.aload_n 0, 1) := dk_get dk_d04_446 7 rfl
theorem dX12_takesOther_93 : decode cX12_takesOther 93 = .ok (.getfield 68, 3) := dk_get dk_d04_446 8 rfl
theorem dX12_takesOther_96 : decode cX12_takesOther 96 = .ok (.iload_n 3, 1) := dk_get dk_d04_446 9 rfl
theorem dX12_takesOther_97 : decode cX12_takesOther 97 = .ok (.aload_n 0, 1) := dk_get dk_d04_446 10 rfl
theorem dX12_takesOther_98 : decode cX12_takesOther 98 = .ok (.getfield 68, 3) := dk_get dk_d04_446 11 rfl
theorem dX12_takesOther_101 : decode cX12_takesOther 101 = .ok (.bipush 80, 2) := dk_get dk_d04_446 12 rfl
theorem dX12_takesOther_103 : decode cX12_takesOther 103 = .ok (.iload_n 3, 1) := dk_get dk_d04_446 13 rfl
theorem dX12_takesOther_104 : decode cX12_takesOther 104 = .ok (.iadd, 1) := dk_get dk_d04_446 14 rfl
theorem dX12_takesOther_105 : decode cX12_takesOther 105 = .ok (.iaload, 1) := dk_get dk_d04_446 15 rfl
theorem dX12_takesOther_106 : decode cX12_takesOther 106 = .ok (.iastore, 1) := dk_get dk_d04_446 16 rfl
theorem dX12_takesOther_107 : decode cX12_takesOther 107 = .ok (.iinc 3 1, 3) := dk_get dk_d04_446 17 rfl
theorem dX12_takesOther_110 : decode cX12_takesOther 110 = .ok (.goto (-25), 3) := dk_get dk_d04_446 18 rfl
theorem dX12_takesOther_113 : decode cX12_takesOther 113 = .ok (.aload_n 0, 1) := dk_get dk_d04_446 19 rfl
theorem dX12_takesOther_114 : decode cX12_takesOther 114 = .ok (.iload_n 2, 1) := dk_get dk_d04_446 20 rfl
theorem dX12_takesOther_115 : decode cX12_takesOther 115 = .ok (.putfield 311, 3) := dk_get dk_d04_446 21 rfl
theorem dX12_takesOther_118 : decode cX12_takesOther 118 = .ok (.aload_n 0, 1) := dk_get dk_d04_446 22 rfl
theorem dX12_takesOther_119 : decode cX12_takesOther 119 = .ok (.iconst 0, 1) := dk_get dk_d04_446 23 rfl
theorem dX12_takesOther_120 : decode cX12_takesOther 120 = .ok (.putfield 143, 3) := dk_get dk_d04_446 24 rfl
theorem dk_d04_447 : dkc cX12_takesOther [(123, .return_, 1)] = true := by decide +kernel
theorem dX12_takesOther_123 : decode cX12_takesOther 123 = .ok (.return_, 1) := dk_get dk_d04_447 0 rfl
theorem dk_d04_448 : dkc cX12_text [(0, .aload_n 0, 1), (1, .iconst 0, 1), (2, .putfield 140, 3), (5, .aload_n 0, 1), (6, .iconst 0, 1), (7, .putfield 314, 3), (10, .aload_n 0, 1), (11, .iconst (-1), 1), (12, .putfield 61, 3), (15, .aload_n 0, 1), (16, .iconst 0, 1), (17, .putfield 173, 3), (20, .aload_n 0, 1), (21, .iconst 0, 1), (22, .putfield 208, 3), (25, .aload_n 0, 1), (26, .iconst 0, 1), (27, .putfield 240, 3), (30, .iconst (-1), 1), (31, .istore_n 2, 1), (32, .aload_n 0, 1), (33, .iload_n 1, 1), (34, .iconst 0, 1), (35, .iconst 3, 1), (36, .invokevirtual 155, 3)] = true := by decide +kernel
theorem dX12_text_0 : decode cX12_text 0 = .ok (.aload_n 0, 1) := dk_get dk_d04_448 0 rfl
theorem dX12_text_1 : decode cX12_text 1 = .ok (.iconst 0, 1) := dk_get dk_d04_448 1 rfl
theorem dX12_text_2 : decode cX12_text 2 = .ok (.putfield 140, 3) := dk_get dk_d04_448 2 rfl
theorem dX12_text_5 : decode cX12_text 5 = .ok (.aload_n 0, 1) := dk_get dk_d04_448 3 rfl
theorem dX12_text_6 : decode cX12_text 6 = .ok (.iconst 0, 1) := dk_get dk_d04_448 4 rfl
theorem dX12_text_7 : decode cX12_text 7 = .ok (.putfield 314, 3) := dk_get dk_d04_448 5 rfl
theorem dX12_text_10 : decode cX12_text 10 = .ok (.aload_n 0, 1) := dk_get dk_d04_448 6 rfl
theorem dX12_text_11 : decode cX12_text 11 = .ok (.iconst (-1), 1) := dk_get dk_d04_448 7 rfl
theorem dX12_text_12 : decode cX12_text 12 = .ok (.putfield 61, 3) := dk_get dk_d04_448 8 rfl
theorem dX12_text_15 : decode cX12_text 15 = .ok (.aload_n 0, 1) := dk_get dk_d04_448 9 rfl
theorem dX12_text_16 : decode cX12_text 16 = .ok (.iconst 0, 1) := dk_get dk_d04_448 10 rfl
theorem dX12_text_17 : decode cX12_text 17 = .ok (.putfield 173, 3) := dk_get dk_d04_448 11 rfl
theorem dX12_text_20 : decode cX12_text 20 = .ok (.aload_n 0, 1) := dk_get dk_d04_448 12 rfl
theorem dX12_text_21 : decode cX12_text 21 = .ok (.iconst 0, 1) := dk_get dk_d04_448 13 rfl
theorem dX12_text_22 : decode cX12_text 22 = .ok (.putfield 208, 3) := dk_get dk_d04_448 14 rfl
theorem dX12_text_25 : decode cX12_text 25 = .ok (.aload_n 0, 1) := dk_get dk_d04_448 15 rfl
theorem dX12_text_26 : decode cX12_text 26 = .ok (.iconst 0, 1) := dk_get dk_d04_448 16 rfl
theorem dX12_text_27 : decode cX12_text 27 = .ok (.putfield 240, 3) := dk_get dk_d04_448 17 rfl
theorem dX12_text_30 : decode cX12_text 30 = .ok (.iconst (-1), 1) := dk_get dk_d04_448 18 rfl
theorem dX12_text_31 : decode cX12_text 31 = .ok (.istore_n 2, 1) := dk_get dk_d04_448 19 rfl
theorem dX12_text_32 : decode cX12_text 32 = .ok (.aload_n 0, 1) := dk_get dk_d04_448 20 rfl
theorem dX12_text_33 : decode cX12_text 33 = .ok (.iload_n 1, 1) := dk_get dk_d04_448 21 rfl
theorem dX12_text_34 : decode cX12_text 34 = .ok (.iconst 0, 1) := dk_get dk_d04_448 22 rfl
theorem dX12_text_35 : decode cX12_text 35 = .ok (.iconst 3, 1) := dk_get dk_d04_448 23 rfl
theorem dX12_text_36 : decode cX12_text 36 = .ok (.invokevirtual 155, 3) := dk_get dk_d04_448 24 rfl
theorem dk_d04_449 : dkc cX12_text [(39, .ifCond .eq 30, 3), (42, .aload_n 0, 1), (43, .iload_n 1, 1), (44, .invokevirtual 317, 3), (47, .istore_n 2, 1), (48, .iload_n 2, 1), (49, .iconst (-1), 1), (50, .if_icmp .ne 19, 3), (53, .aload_n 0, 1), (54, .aload_n 0, 1), (55, .getfield 202, 3), (58, .putfield 314, 3), (61, .aload_n 0, 1), (62, .aload_n 0, 1), (63, .getfield 205, 3), (66, .putfield 61, 3), (69, .aload_n 0, 1), (70, .iconst 0, 1), (71, .putfield 166, 3), (74, .iload_n 2, 1), (75, .iconst (-1), 1), (76, .if_icmp .ne 5, 3), (79, .iconst (-1), 1), (80, .ireturn, 1), (81, .iload_n 1, 1)] = true := by decide +kernel
theorem dX12_text_39 : decode cX12_text 39 = .ok (.ifCond .eq 30, 3) := dk_get dk_d04_449 0 rfl
theorem dX12_text_42 : decode cX12_text 42 = .ok (.aload_n 0, 1) := dk_get dk_d04_449 1 rfl
theorem dX12_text_43 : decode cX12_text 43 = .ok (.iload_n 1, 1) := dk_get dk_d04_449 2 rfl
theorem dX12_text_44 : decode cX12_text 44 = .ok (.invokevirtual 317, 3) := dk_get dk_d04_449 3 rfl
theorem dX12_text_47 : decode cX12_text 47 = .ok (.istore_n 2, 1) := dk_get dk_d04_449 4 rfl
theorem dX12_text_48 : decode cX12_text 48 = .ok (.iload_n 2, 1) := dk_get dk_d04_449 5 rfl
theorem dX12_text_49 : decode cX12_text 49 = .ok (.iconst (-1), 1) := dk_get dk_d04_449 6 rfl
theorem dX12_text_50 : decode cX12_text 50 = .ok (.if_icmp .ne 19, 3) := dk_get dk_d04_449 7 rfl
theorem dX12_text_53 : decode cX12_text 53 = .ok (.aload_n 0, 1) := dk_get dk_d04_449 8 rfl
theorem dX12_text_54 : decode cX12_text 54 = .ok (.aload_n 0, 1) := dk_get dk_d04_449 9 rfl
theorem dX12_text_55 : decode cX12_text 55 = .ok (.getfield 202, 3) := dk_get dk_d04_449 10 rfl
theorem dX12_text_58 : decode cX12_text 58 = .ok (.putfield 314, 3) := dk_get dk_d04_449 11 rfl
theorem dX12_text_61 : decode cX12_text 61 = .ok (.aload_n 0, 1) := dk_get dk_d04_449 12 rfl
theorem dX12_text_62 : decode cX12_text 62 = .ok (.aload_n 0, 1) := dk_get dk_d04_449 13 rfl
theorem dX12_text_63 : decode cX12_text 63 = .ok (.getfield 205, 3) := dk_get dk_d04_449 14 rfl
theorem dX12_text_66 : decode cX12_text 66 = .ok (.putfield 61, 3) := dk_get dk_d04_449 15 rfl
theorem dX12_text_69 : decode cX12_text 69 = .ok (.aload_n 0, 1) := dk_get dk_d04_449 16 rfl
theorem dX12_text_70 : decode cX12_text 70 = .ok (.iconst 0, 1) := dk_get dk_d04_449 17 rfl
theorem dX12_text_71 : decode cX12_text 71 = .ok (.putfield 166, 3) := dk_get dk_d04_449 18 rfl
theorem dX12_text_74 : decode cX12_text 74 = .ok (.iload_n 2, 1) := dk_get dk_d04_449 19 rfl
theorem dX12_text_75 : decode cX12_text 75 = .ok (.iconst (-1), 1) := dk_get dk_d04_449 20 rfl
theorem dX12_text_76 : decode cX12_text 76 = .ok (.if_icmp .ne 5, 3) := dk_get dk_d04_449 21 rfl
theorem dX12_text_79 : decode cX12_text 79 = .ok (.iconst (-1), 1) := dk_get dk_d04_449 22 rfl
theorem dX12_text_80 : decode cX12_text 80 = .ok (.ireturn, 1) := dk_get dk_d04_449 23 rfl
theorem dX12_text_81 : decode cX12_text 81 = .ok (.iload_n 1, 1) := dk_get dk_d04_449 24 rfl
theorem dk_d04_450 : dkc cX12_text [(82, .ifCond .ne 11, 3), (85, .aload_n 0, 1), (86, .iload_n 2, 1), (87, .invokevirtual 320, 3), (90, .goto 9, 3), (93, .aload_n 0, 1), (94, .iload_n 1, 1), (95, .iload_n 2, 1), (96, .invokevirtual 323, 3), (99, .iload_n 2, 1), (100, .ireturn, 1)] = true := by decide +kernel
theorem dX12_text_82 : decode cX12_text 82 = .ok (.ifCond .ne 11, 3) := dk_get dk_d04_450 0 rfl
theorem dX12_text_85 : decode cX12_text 85 = .ok (.aload_n 0, 1) := dk_get dk_d04_450 1 rfl
theorem dX12_text_86 : decode cX12_text 86 = .ok (.iload_n 2, 1) := dk_get dk_d04_450 2 rfl
theorem dX12_text_87 : decode cX12_text 87 = .ok (.invokevirtual 320, 3) := dk_get dk_d04_450 3 rfl
theorem dX12_text_90 : decode cX12_text 90 = .ok (.goto 9, 3) := dk_get dk_d04_450 4 rfl
theorem dX12_text_93 : decode cX12_text 93 = .ok (.aload_n 0, 1) := dk_get dk_d04_450 5 rfl
theorem dX12_text_94 : decode cX12_text 94 = .ok (.iload_n 1, 1) := dk_get dk_d04_450 6 rfl
theorem dX12_text_95 : decode cX12_text 95 = .ok (.iload_n 2, 1) := dk_get dk_d04_450 7 rfl
theorem dX12_text_96 : decode cX12_text 96 = .ok (.invokevirtual 323, 3) := dk_get dk_d04_450 8 rfl
theorem dX12_text_99 : decode cX12_text 99 = .ok (.iload_n 2, 1) := dk_get dk_d04_450 9 rfl
theorem dX12_text_100 : decode cX12_text 100 = .ok (.ireturn, 1) := dk_get dk_d04_450 10 rfl
theorem dk_d04_451 : dkc cX12_fault [(0, .aload_n 0, 1), (1, .iconst 0, 1), (2, .putfield 140, 3), (5, .iload_n 1, 1), (6, .ifCond .ne 10, 3), (9, .aload_n 0, 1), (10, .getfield 314, 3), (13, .goto 16, 3), (16, .iload_n 1, 1), (17, .iconst 1, 1), (18, .if_icmp .ne 10, 3), (21, .aload_n 0, 1), (22, .getfield 61, 3), (25, .goto 4, 3), (28, .iconst (-1), 1), (29, .ireturn, 1)] = true := by decide +kernel
theorem dX12_fault_0 : decode cX12_fault 0 = .ok (.aload_n 0, 1) := dk_get dk_d04_451 0 rfl
theorem dX12_fault_1 : decode cX12_fault 1 = .ok (.iconst 0, 1) := dk_get dk_d04_451 1 rfl
theorem dX12_fault_2 : decode cX12_fault 2 = .ok (.putfield 140, 3) := dk_get dk_d04_451 2 rfl
theorem dX12_fault_5 : decode cX12_fault 5 = .ok (.iload_n 1, 1) := dk_get dk_d04_451 3 rfl
theorem dX12_fault_6 : decode cX12_fault 6 = .ok (.ifCond .ne 10, 3) := dk_get dk_d04_451 4 rfl
theorem dX12_fault_9 : decode cX12_fault 9 = .ok (.aload_n 0, 1) := dk_get dk_d04_451 5 rfl
theorem dX12_fault_10 : decode cX12_fault 10 = .ok (.getfield 314, 3) := dk_get dk_d04_451 6 rfl
theorem dX12_fault_13 : decode cX12_fault 13 = .ok (.goto 16, 3) := dk_get dk_d04_451 7 rfl
theorem dX12_fault_16 : decode cX12_fault 16 = .ok (.iload_n 1, 1) := dk_get dk_d04_451 8 rfl
theorem dX12_fault_17 : decode cX12_fault 17 = .ok (.iconst 1, 1) := dk_get dk_d04_451 9 rfl
theorem dX12_fault_18 : decode cX12_fault 18 = .ok (.if_icmp .ne 10, 3) := dk_get dk_d04_451 10 rfl
theorem dX12_fault_21 : decode cX12_fault 21 = .ok (.aload_n 0, 1) := dk_get dk_d04_451 11 rfl
theorem dX12_fault_22 : decode cX12_fault 22 = .ok (.getfield 61, 3) := dk_get dk_d04_451 12 rfl
theorem dX12_fault_25 : decode cX12_fault 25 = .ok (.goto 4, 3) := dk_get dk_d04_451 13 rfl
theorem dX12_fault_28 : decode cX12_fault 28 = .ok (.iconst (-1), 1) := dk_get dk_d04_451 14 rfl
theorem dX12_fault_29 : decode cX12_fault 29 = .ok (.ireturn, 1) := dk_get dk_d04_451 15 rfl
theorem dk_d04_452 : dkc cX12_twoOf [(0, .iload_n 1, 1), (1, .iconst 2, 1), (2, .if_icmp .ne 7, 3), (5, .iload_n 2, 1), (6, .iload_n 3, 1), (7, .iadd, 1), (8, .ireturn, 1), (9, .iload_n 1, 1), (10, .iconst 3, 1), (11, .if_icmp .ne 7, 3), (14, .iload_n 2, 1), (15, .iload_n 3, 1), (16, .isub, 1), (17, .ireturn, 1), (18, .iload_n 1, 1), (19, .iconst 4, 1), (20, .if_icmp .ne 7, 3), (23, .iload_n 2, 1), (24, .iload_n 3, 1), (25, .imul, 1), (26, .ireturn, 1), (27, .iload_n 1, 1), (28, .iconst 5, 1), (29, .if_icmp .ne 7, 3), (32, .iload_n 2, 1)] = true := by decide +kernel
theorem dX12_twoOf_0 : decode cX12_twoOf 0 = .ok (.iload_n 1, 1) := dk_get dk_d04_452 0 rfl
theorem dX12_twoOf_1 : decode cX12_twoOf 1 = .ok (.iconst 2, 1) := dk_get dk_d04_452 1 rfl
theorem dX12_twoOf_2 : decode cX12_twoOf 2 = .ok (.if_icmp .ne 7, 3) := dk_get dk_d04_452 2 rfl
theorem dX12_twoOf_5 : decode cX12_twoOf 5 = .ok (.iload_n 2, 1) := dk_get dk_d04_452 3 rfl
theorem dX12_twoOf_6 : decode cX12_twoOf 6 = .ok (.iload_n 3, 1) := dk_get dk_d04_452 4 rfl
theorem dX12_twoOf_7 : decode cX12_twoOf 7 = .ok (.iadd, 1) := dk_get dk_d04_452 5 rfl
theorem dX12_twoOf_8 : decode cX12_twoOf 8 = .ok (.ireturn, 1) := dk_get dk_d04_452 6 rfl
theorem dX12_twoOf_9 : decode cX12_twoOf 9 = .ok (.iload_n 1, 1) := dk_get dk_d04_452 7 rfl
theorem dX12_twoOf_10 : decode cX12_twoOf 10 = .ok (.iconst 3, 1) := dk_get dk_d04_452 8 rfl
theorem dX12_twoOf_11 : decode cX12_twoOf 11 = .ok (.if_icmp .ne 7, 3) := dk_get dk_d04_452 9 rfl
theorem dX12_twoOf_14 : decode cX12_twoOf 14 = .ok (.iload_n 2, 1) := dk_get dk_d04_452 10 rfl
theorem dX12_twoOf_15 : decode cX12_twoOf 15 = .ok (.iload_n 3, 1) := dk_get dk_d04_452 11 rfl
theorem dX12_twoOf_16 : decode cX12_twoOf 16 = .ok (.isub, 1) := dk_get dk_d04_452 12 rfl
theorem dX12_twoOf_17 : decode cX12_twoOf 17 = .ok (.ireturn, 1) := dk_get dk_d04_452 13 rfl
theorem dX12_twoOf_18 : decode cX12_twoOf 18 = .ok (.iload_n 1, 1) := dk_get dk_d04_452 14 rfl
theorem dX12_twoOf_19 : decode cX12_twoOf 19 = .ok (.iconst 4, 1) := dk_get dk_d04_452 15 rfl
theorem dX12_twoOf_20 : decode cX12_twoOf 20 = .ok (.if_icmp .ne 7, 3) := dk_get dk_d04_452 16 rfl
theorem dX12_twoOf_23 : decode cX12_twoOf 23 = .ok (.iload_n 2, 1) := dk_get dk_d04_452 17 rfl
theorem dX12_twoOf_24 : decode cX12_twoOf 24 = .ok (.iload_n 3, 1) := dk_get dk_d04_452 18 rfl
theorem dX12_twoOf_25 : decode cX12_twoOf 25 = .ok (.imul, 1) := dk_get dk_d04_452 19 rfl
theorem dX12_twoOf_26 : decode cX12_twoOf 26 = .ok (.ireturn, 1) := dk_get dk_d04_452 20 rfl
theorem dX12_twoOf_27 : decode cX12_twoOf 27 = .ok (.iload_n 1, 1) := dk_get dk_d04_452 21 rfl
theorem dX12_twoOf_28 : decode cX12_twoOf 28 = .ok (.iconst 5, 1) := dk_get dk_d04_452 22 rfl
theorem dX12_twoOf_29 : decode cX12_twoOf 29 = .ok (.if_icmp .ne 7, 3) := dk_get dk_d04_452 23 rfl
theorem dX12_twoOf_32 : decode cX12_twoOf 32 = .ok (.iload_n 2, 1) := dk_get dk_d04_452 24 rfl
theorem dk_d04_453 : dkc cX12_twoOf [(33, .iload_n 3, 1), (34, .idiv, 1), (35, .ireturn, 1), (36, .iload_n 1, 1), (37, .bipush 6, 2), (39, .if_icmp .ne 14, 3), (42, .iload_n 2, 1), (43, .iload_n 3, 1), (44, .if_icmp .ge 7, 3), (47, .iconst 1, 1), (48, .goto 4, 3), (51, .iconst 0, 1), (52, .ireturn, 1), (53, .iload_n 1, 1), (54, .bipush 7, 2), (56, .if_icmp .ne 14, 3), (59, .iload_n 2, 1), (60, .iload_n 3, 1), (61, .if_icmp .ne 7, 3), (64, .iconst 1, 1), (65, .goto 4, 3), (68, .iconst 0, 1), (69, .ireturn, 1), (70, .iload_n 1, 1), (71, .bipush 8, 2)] = true := by decide +kernel
theorem dX12_twoOf_33 : decode cX12_twoOf 33 = .ok (.iload_n 3, 1) := dk_get dk_d04_453 0 rfl
theorem dX12_twoOf_34 : decode cX12_twoOf 34 = .ok (.idiv, 1) := dk_get dk_d04_453 1 rfl
theorem dX12_twoOf_35 : decode cX12_twoOf 35 = .ok (.ireturn, 1) := dk_get dk_d04_453 2 rfl
theorem dX12_twoOf_36 : decode cX12_twoOf 36 = .ok (.iload_n 1, 1) := dk_get dk_d04_453 3 rfl
theorem dX12_twoOf_37 : decode cX12_twoOf 37 = .ok (.bipush 6, 2) := dk_get dk_d04_453 4 rfl
theorem dX12_twoOf_39 : decode cX12_twoOf 39 = .ok (.if_icmp .ne 14, 3) := dk_get dk_d04_453 5 rfl
theorem dX12_twoOf_42 : decode cX12_twoOf 42 = .ok (.iload_n 2, 1) := dk_get dk_d04_453 6 rfl
theorem dX12_twoOf_43 : decode cX12_twoOf 43 = .ok (.iload_n 3, 1) := dk_get dk_d04_453 7 rfl
theorem dX12_twoOf_44 : decode cX12_twoOf 44 = .ok (.if_icmp .ge 7, 3) := dk_get dk_d04_453 8 rfl
theorem dX12_twoOf_47 : decode cX12_twoOf 47 = .ok (.iconst 1, 1) := dk_get dk_d04_453 9 rfl
theorem dX12_twoOf_48 : decode cX12_twoOf 48 = .ok (.goto 4, 3) := dk_get dk_d04_453 10 rfl
theorem dX12_twoOf_51 : decode cX12_twoOf 51 = .ok (.iconst 0, 1) := dk_get dk_d04_453 11 rfl
theorem dX12_twoOf_52 : decode cX12_twoOf 52 = .ok (.ireturn, 1) := dk_get dk_d04_453 12 rfl
theorem dX12_twoOf_53 : decode cX12_twoOf 53 = .ok (.iload_n 1, 1) := dk_get dk_d04_453 13 rfl
theorem dX12_twoOf_54 : decode cX12_twoOf 54 = .ok (.bipush 7, 2) := dk_get dk_d04_453 14 rfl
theorem dX12_twoOf_56 : decode cX12_twoOf 56 = .ok (.if_icmp .ne 14, 3) := dk_get dk_d04_453 15 rfl
theorem dX12_twoOf_59 : decode cX12_twoOf 59 = .ok (.iload_n 2, 1) := dk_get dk_d04_453 16 rfl
theorem dX12_twoOf_60 : decode cX12_twoOf 60 = .ok (.iload_n 3, 1) := dk_get dk_d04_453 17 rfl
theorem dX12_twoOf_61 : decode cX12_twoOf 61 = .ok (.if_icmp .ne 7, 3) := dk_get dk_d04_453 18 rfl
theorem dX12_twoOf_64 : decode cX12_twoOf 64 = .ok (.iconst 1, 1) := dk_get dk_d04_453 19 rfl
theorem dX12_twoOf_65 : decode cX12_twoOf 65 = .ok (.goto 4, 3) := dk_get dk_d04_453 20 rfl
theorem dX12_twoOf_68 : decode cX12_twoOf 68 = .ok (.iconst 0, 1) := dk_get dk_d04_453 21 rfl
theorem dX12_twoOf_69 : decode cX12_twoOf 69 = .ok (.ireturn, 1) := dk_get dk_d04_453 22 rfl
theorem dX12_twoOf_70 : decode cX12_twoOf 70 = .ok (.iload_n 1, 1) := dk_get dk_d04_453 23 rfl
theorem dX12_twoOf_71 : decode cX12_twoOf 71 = .ok (.bipush 8, 2) := dk_get dk_d04_453 24 rfl
theorem dk_d04_454 : dkc cX12_twoOf [(73, .if_icmp .ne 14, 3), (76, .iload_n 2, 1), (77, .iload_n 3, 1), (78, .if_icmp .le 7, 3), (81, .iconst 1, 1), (82, .goto 4, 3), (85, .iconst 0, 1), (86, .ireturn, 1), (87, .iload_n 1, 1), (88, .bipush 10, 2), (90, .if_icmp .ne 9, 3), (93, .iload_n 2, 1), (94, .iload_n 3, 1), (95, .imul, 1), (96, .goto 14, 3), (99, .iload_n 2, 1), (100, .iload_n 3, 1), (101, .iadd, 1), (102, .ifCond .le 7, 3), (105, .iconst 1, 1), (106, .goto 4, 3), (109, .iconst 0, 1), (110, .ireturn, 1)] = true := by decide +kernel
theorem dX12_twoOf_73 : decode cX12_twoOf 73 = .ok (.if_icmp .ne 14, 3) := dk_get dk_d04_454 0 rfl
theorem dX12_twoOf_76 : decode cX12_twoOf 76 = .ok (.iload_n 2, 1) := dk_get dk_d04_454 1 rfl
theorem dX12_twoOf_77 : decode cX12_twoOf 77 = .ok (.iload_n 3, 1) := dk_get dk_d04_454 2 rfl
theorem dX12_twoOf_78 : decode cX12_twoOf 78 = .ok (.if_icmp .le 7, 3) := dk_get dk_d04_454 3 rfl
theorem dX12_twoOf_81 : decode cX12_twoOf 81 = .ok (.iconst 1, 1) := dk_get dk_d04_454 4 rfl
theorem dX12_twoOf_82 : decode cX12_twoOf 82 = .ok (.goto 4, 3) := dk_get dk_d04_454 5 rfl
theorem dX12_twoOf_85 : decode cX12_twoOf 85 = .ok (.iconst 0, 1) := dk_get dk_d04_454 6 rfl
theorem dX12_twoOf_86 : decode cX12_twoOf 86 = .ok (.ireturn, 1) := dk_get dk_d04_454 7 rfl
theorem dX12_twoOf_87 : decode cX12_twoOf 87 = .ok (.iload_n 1, 1) := dk_get dk_d04_454 8 rfl
theorem dX12_twoOf_88 : decode cX12_twoOf 88 = .ok (.bipush 10, 2) := dk_get dk_d04_454 9 rfl
theorem dX12_twoOf_90 : decode cX12_twoOf 90 = .ok (.if_icmp .ne 9, 3) := dk_get dk_d04_454 10 rfl
theorem dX12_twoOf_93 : decode cX12_twoOf 93 = .ok (.iload_n 2, 1) := dk_get dk_d04_454 11 rfl
theorem dX12_twoOf_94 : decode cX12_twoOf 94 = .ok (.iload_n 3, 1) := dk_get dk_d04_454 12 rfl
theorem dX12_twoOf_95 : decode cX12_twoOf 95 = .ok (.imul, 1) := dk_get dk_d04_454 13 rfl
theorem dX12_twoOf_96 : decode cX12_twoOf 96 = .ok (.goto 14, 3) := dk_get dk_d04_454 14 rfl
theorem dX12_twoOf_99 : decode cX12_twoOf 99 = .ok (.iload_n 2, 1) := dk_get dk_d04_454 15 rfl
theorem dX12_twoOf_100 : decode cX12_twoOf 100 = .ok (.iload_n 3, 1) := dk_get dk_d04_454 16 rfl
theorem dX12_twoOf_101 : decode cX12_twoOf 101 = .ok (.iadd, 1) := dk_get dk_d04_454 17 rfl
theorem dX12_twoOf_102 : decode cX12_twoOf 102 = .ok (.ifCond .le 7, 3) := dk_get dk_d04_454 18 rfl
theorem dX12_twoOf_105 : decode cX12_twoOf 105 = .ok (.iconst 1, 1) := dk_get dk_d04_454 19 rfl
theorem dX12_twoOf_106 : decode cX12_twoOf 106 = .ok (.goto 4, 3) := dk_get dk_d04_454 20 rfl
theorem dX12_twoOf_109 : decode cX12_twoOf 109 = .ok (.iconst 0, 1) := dk_get dk_d04_454 21 rfl
theorem dX12_twoOf_110 : decode cX12_twoOf 110 = .ok (.ireturn, 1) := dk_get dk_d04_454 22 rfl
theorem dk_d04_455 : dkc cX12_runs [(0, .iconst 0, 1), (1, .istore 4, 2), (3, .sipush 400, 3), (6, .iload_n 1, 1), (7, .imul, 1), (8, .iload_n 2, 1), (9, .iadd, 1), (10, .istore 5, 2), (12, .iload 5, 2), (14, .sipush 400, 3), (17, .iload_n 1, 1), (18, .imul, 1), (19, .iload_n 3, 1), (20, .iadd, 1), (21, .if_icmp .ge 155, 3), (24, .aload_n 0, 1), (25, .getfield 52, 3), (28, .iload 5, 2), (30, .iaload, 1), (31, .ifCond .eq 14, 3), (34, .aload_n 0, 1), (35, .getfield 52, 3), (38, .iload 5, 2), (40, .iaload, 1), (41, .iconst 1, 1)] = true := by decide +kernel
theorem dX12_runs_0 : decode cX12_runs 0 = .ok (.iconst 0, 1) := dk_get dk_d04_455 0 rfl
theorem dX12_runs_1 : decode cX12_runs 1 = .ok (.istore 4, 2) := dk_get dk_d04_455 1 rfl
theorem dX12_runs_3 : decode cX12_runs 3 = .ok (.sipush 400, 3) := dk_get dk_d04_455 2 rfl
theorem dX12_runs_6 : decode cX12_runs 6 = .ok (.iload_n 1, 1) := dk_get dk_d04_455 3 rfl
theorem dX12_runs_7 : decode cX12_runs 7 = .ok (.imul, 1) := dk_get dk_d04_455 4 rfl
theorem dX12_runs_8 : decode cX12_runs 8 = .ok (.iload_n 2, 1) := dk_get dk_d04_455 5 rfl
theorem dX12_runs_9 : decode cX12_runs 9 = .ok (.iadd, 1) := dk_get dk_d04_455 6 rfl
theorem dX12_runs_10 : decode cX12_runs 10 = .ok (.istore 5, 2) := dk_get dk_d04_455 7 rfl
theorem dX12_runs_12 : decode cX12_runs 12 = .ok (.iload 5, 2) := dk_get dk_d04_455 8 rfl
theorem dX12_runs_14 : decode cX12_runs 14 = .ok (.sipush 400, 3) := dk_get dk_d04_455 9 rfl
theorem dX12_runs_17 : decode cX12_runs 17 = .ok (.iload_n 1, 1) := dk_get dk_d04_455 10 rfl
theorem dX12_runs_18 : decode cX12_runs 18 = .ok (.imul, 1) := dk_get dk_d04_455 11 rfl
theorem dX12_runs_19 : decode cX12_runs 19 = .ok (.iload_n 3, 1) := dk_get dk_d04_455 12 rfl
theorem dX12_runs_20 : decode cX12_runs 20 = .ok (.iadd, 1) := dk_get dk_d04_455 13 rfl
theorem dX12_runs_21 : decode cX12_runs 21 = .ok (.if_icmp .ge 155, 3) := dk_get dk_d04_455 14 rfl
theorem dX12_runs_24 : decode cX12_runs 24 = .ok (.aload_n 0, 1) := dk_get dk_d04_455 15 rfl
theorem dX12_runs_25 : decode cX12_runs 25 = .ok (.getfield 52, 3) := dk_get dk_d04_455 16 rfl
theorem dX12_runs_28 : decode cX12_runs 28 = .ok (.iload 5, 2) := dk_get dk_d04_455 17 rfl
theorem dX12_runs_30 : decode cX12_runs 30 = .ok (.iaload, 1) := dk_get dk_d04_455 18 rfl
theorem dX12_runs_31 : decode cX12_runs 31 = .ok (.ifCond .eq 14, 3) := dk_get dk_d04_455 19 rfl
theorem dX12_runs_34 : decode cX12_runs 34 = .ok (.aload_n 0, 1) := dk_get dk_d04_455 20 rfl
theorem dX12_runs_35 : decode cX12_runs 35 = .ok (.getfield 52, 3) := dk_get dk_d04_455 21 rfl
theorem dX12_runs_38 : decode cX12_runs 38 = .ok (.iload 5, 2) := dk_get dk_d04_455 22 rfl
theorem dX12_runs_40 : decode cX12_runs 40 = .ok (.iaload, 1) := dk_get dk_d04_455 23 rfl
theorem dX12_runs_41 : decode cX12_runs 41 = .ok (.iconst 1, 1) := dk_get dk_d04_455 24 rfl
theorem dk_d04_456 : dkc cX12_runs [(42, .if_icmp .ne 51, 3), (45, .aload_n 0, 1), (46, .getfield 77, 3), (49, .iload 4, 2), (51, .aload_n 0, 1), (52, .getfield 52, 3), (55, .iload 5, 2), (57, .iaload, 1), (58, .ifCond .ne 13, 3), (61, .aload_n 0, 1), (62, .getfield 55, 3), (65, .iload 5, 2), (67, .iaload, 1), (68, .goto 15, 3), (71, .aload_n 0, 1), (72, .getfield 74, 3), (75, .aload_n 0, 1), (76, .getfield 55, 3), (79, .iload 5, 2), (81, .iaload, 1), (82, .iaload, 1), (83, .iastore, 1), (84, .iload 4, 2), (86, .iconst 1, 1), (87, .iadd, 1)] = true := by decide +kernel
theorem dX12_runs_42 : decode cX12_runs 42 = .ok (.if_icmp .ne 51, 3) := dk_get dk_d04_456 0 rfl
theorem dX12_runs_45 : decode cX12_runs 45 = .ok (.aload_n 0, 1) := dk_get dk_d04_456 1 rfl
theorem dX12_runs_46 : decode cX12_runs 46 = .ok (.getfield 77, 3) := dk_get dk_d04_456 2 rfl
theorem dX12_runs_49 : decode cX12_runs 49 = .ok (.iload 4, 2) := dk_get dk_d04_456 3 rfl
theorem dX12_runs_51 : decode cX12_runs 51 = .ok (.aload_n 0, 1) := dk_get dk_d04_456 4 rfl
theorem dX12_runs_52 : decode cX12_runs 52 = .ok (.getfield 52, 3) := dk_get dk_d04_456 5 rfl
theorem dX12_runs_55 : decode cX12_runs 55 = .ok (.iload 5, 2) := dk_get dk_d04_456 6 rfl
theorem dX12_runs_57 : decode cX12_runs 57 = .ok (.iaload, 1) := dk_get dk_d04_456 7 rfl
theorem dX12_runs_58 : decode cX12_runs 58 = .ok (.ifCond .ne 13, 3) := dk_get dk_d04_456 8 rfl
theorem dX12_runs_61 : decode cX12_runs 61 = .ok (.aload_n 0, 1) := dk_get dk_d04_456 9 rfl
theorem dX12_runs_62 : decode cX12_runs 62 = .ok (.getfield 55, 3) := dk_get dk_d04_456 10 rfl
theorem dX12_runs_65 : decode cX12_runs 65 = .ok (.iload 5, 2) := dk_get dk_d04_456 11 rfl
theorem dX12_runs_67 : decode cX12_runs 67 = .ok (.iaload, 1) := dk_get dk_d04_456 12 rfl
theorem dX12_runs_68 : decode cX12_runs 68 = .ok (.goto 15, 3) := dk_get dk_d04_456 13 rfl
theorem dX12_runs_71 : decode cX12_runs 71 = .ok (.aload_n 0, 1) := dk_get dk_d04_456 14 rfl
theorem dX12_runs_72 : decode cX12_runs 72 = .ok (.getfield 74, 3) := dk_get dk_d04_456 15 rfl
theorem dX12_runs_75 : decode cX12_runs 75 = .ok (.aload_n 0, 1) := dk_get dk_d04_456 16 rfl
theorem dX12_runs_76 : decode cX12_runs 76 = .ok (.getfield 55, 3) := dk_get dk_d04_456 17 rfl
theorem dX12_runs_79 : decode cX12_runs 79 = .ok (.iload 5, 2) := dk_get dk_d04_456 18 rfl
theorem dX12_runs_81 : decode cX12_runs 81 = .ok (.iaload, 1) := dk_get dk_d04_456 19 rfl
theorem dX12_runs_82 : decode cX12_runs 82 = .ok (.iaload, 1) := dk_get dk_d04_456 20 rfl
theorem dX12_runs_83 : decode cX12_runs 83 = .ok (.iastore, 1) := dk_get dk_d04_456 21 rfl
theorem dX12_runs_84 : decode cX12_runs 84 = .ok (.iload 4, 2) := dk_get dk_d04_456 22 rfl
theorem dX12_runs_86 : decode cX12_runs 86 = .ok (.iconst 1, 1) := dk_get dk_d04_456 23 rfl
theorem dX12_runs_87 : decode cX12_runs 87 = .ok (.iadd, 1) := dk_get dk_d04_456 24 rfl
theorem dk_d04_457 : dkc cX12_runs [(88, .istore 4, 2), (90, .goto 80, 3), (93, .aload_n 0, 1), (94, .getfield 52, 3), (97, .iload 5, 2), (99, .iaload, 1), (100, .bipush 9, 2), (102, .if_icmp .ne 26, 3), (105, .aload_n 0, 1), (106, .getfield 77, 3), (109, .iload 4, 2), (111, .iconst 1, 1), (112, .isub, 1), (113, .iconst 1, 1), (114, .aload_n 0, 1), (115, .getfield 77, 3), (118, .iload 4, 2), (120, .iconst 1, 1), (121, .isub, 1), (122, .iaload, 1), (123, .isub, 1), (124, .iastore, 1), (125, .goto 45, 3), (128, .iload 4, 2), (130, .iconst 1, 1)] = true := by decide +kernel
theorem dX12_runs_88 : decode cX12_runs 88 = .ok (.istore 4, 2) := dk_get dk_d04_457 0 rfl
theorem dX12_runs_90 : decode cX12_runs 90 = .ok (.goto 80, 3) := dk_get dk_d04_457 1 rfl
theorem dX12_runs_93 : decode cX12_runs 93 = .ok (.aload_n 0, 1) := dk_get dk_d04_457 2 rfl
theorem dX12_runs_94 : decode cX12_runs 94 = .ok (.getfield 52, 3) := dk_get dk_d04_457 3 rfl
theorem dX12_runs_97 : decode cX12_runs 97 = .ok (.iload 5, 2) := dk_get dk_d04_457 4 rfl
theorem dX12_runs_99 : decode cX12_runs 99 = .ok (.iaload, 1) := dk_get dk_d04_457 5 rfl
theorem dX12_runs_100 : decode cX12_runs 100 = .ok (.bipush 9, 2) := dk_get dk_d04_457 6 rfl
theorem dX12_runs_102 : decode cX12_runs 102 = .ok (.if_icmp .ne 26, 3) := dk_get dk_d04_457 7 rfl
theorem dX12_runs_105 : decode cX12_runs 105 = .ok (.aload_n 0, 1) := dk_get dk_d04_457 8 rfl
theorem dX12_runs_106 : decode cX12_runs 106 = .ok (.getfield 77, 3) := dk_get dk_d04_457 9 rfl
theorem dX12_runs_109 : decode cX12_runs 109 = .ok (.iload 4, 2) := dk_get dk_d04_457 10 rfl
theorem dX12_runs_111 : decode cX12_runs 111 = .ok (.iconst 1, 1) := dk_get dk_d04_457 11 rfl
theorem dX12_runs_112 : decode cX12_runs 112 = .ok (.isub, 1) := dk_get dk_d04_457 12 rfl
theorem dX12_runs_113 : decode cX12_runs 113 = .ok (.iconst 1, 1) := dk_get dk_d04_457 13 rfl
theorem dX12_runs_114 : decode cX12_runs 114 = .ok (.aload_n 0, 1) := dk_get dk_d04_457 14 rfl
theorem dX12_runs_115 : decode cX12_runs 115 = .ok (.getfield 77, 3) := dk_get dk_d04_457 15 rfl
theorem dX12_runs_118 : decode cX12_runs 118 = .ok (.iload 4, 2) := dk_get dk_d04_457 16 rfl
theorem dX12_runs_120 : decode cX12_runs 120 = .ok (.iconst 1, 1) := dk_get dk_d04_457 17 rfl
theorem dX12_runs_121 : decode cX12_runs 121 = .ok (.isub, 1) := dk_get dk_d04_457 18 rfl
theorem dX12_runs_122 : decode cX12_runs 122 = .ok (.iaload, 1) := dk_get dk_d04_457 19 rfl
theorem dX12_runs_123 : decode cX12_runs 123 = .ok (.isub, 1) := dk_get dk_d04_457 20 rfl
theorem dX12_runs_124 : decode cX12_runs 124 = .ok (.iastore, 1) := dk_get dk_d04_457 21 rfl
theorem dX12_runs_125 : decode cX12_runs 125 = .ok (.goto 45, 3) := dk_get dk_d04_457 22 rfl
theorem dX12_runs_128 : decode cX12_runs 128 = .ok (.iload 4, 2) := dk_get dk_d04_457 23 rfl
theorem dX12_runs_130 : decode cX12_runs 130 = .ok (.iconst 1, 1) := dk_get dk_d04_457 24 rfl
theorem dk_d04_458 : dkc cX12_runs [(131, .isub, 1), (132, .istore 4, 2), (134, .aload_n 0, 1), (135, .getfield 77, 3), (138, .iload 4, 2), (140, .iconst 1, 1), (141, .isub, 1), (142, .aload_n 0, 1), (143, .aload_n 0, 1), (144, .getfield 52, 3), (147, .iload 5, 2), (149, .iaload, 1), (150, .aload_n 0, 1), (151, .getfield 77, 3), (154, .iload 4, 2), (156, .iconst 1, 1), (157, .isub, 1), (158, .iaload, 1), (159, .aload_n 0, 1), (160, .getfield 77, 3), (163, .iload 4, 2), (165, .iaload, 1), (166, .invokevirtual 326, 3), (169, .iastore, 1), (170, .iinc 5 1, 3)] = true := by decide +kernel
theorem dX12_runs_131 : decode cX12_runs 131 = .ok (.isub, 1) := dk_get dk_d04_458 0 rfl
theorem dX12_runs_132 : decode cX12_runs 132 = .ok (.istore 4, 2) := dk_get dk_d04_458 1 rfl
theorem dX12_runs_134 : decode cX12_runs 134 = .ok (.aload_n 0, 1) := dk_get dk_d04_458 2 rfl
theorem dX12_runs_135 : decode cX12_runs 135 = .ok (.getfield 77, 3) := dk_get dk_d04_458 3 rfl
theorem dX12_runs_138 : decode cX12_runs 138 = .ok (.iload 4, 2) := dk_get dk_d04_458 4 rfl
theorem dX12_runs_140 : decode cX12_runs 140 = .ok (.iconst 1, 1) := dk_get dk_d04_458 5 rfl
theorem dX12_runs_141 : decode cX12_runs 141 = .ok (.isub, 1) := dk_get dk_d04_458 6 rfl
theorem dX12_runs_142 : decode cX12_runs 142 = .ok (.aload_n 0, 1) := dk_get dk_d04_458 7 rfl
theorem dX12_runs_143 : decode cX12_runs 143 = .ok (.aload_n 0, 1) := dk_get dk_d04_458 8 rfl
theorem dX12_runs_144 : decode cX12_runs 144 = .ok (.getfield 52, 3) := dk_get dk_d04_458 9 rfl
theorem dX12_runs_147 : decode cX12_runs 147 = .ok (.iload 5, 2) := dk_get dk_d04_458 10 rfl
theorem dX12_runs_149 : decode cX12_runs 149 = .ok (.iaload, 1) := dk_get dk_d04_458 11 rfl
theorem dX12_runs_150 : decode cX12_runs 150 = .ok (.aload_n 0, 1) := dk_get dk_d04_458 12 rfl
theorem dX12_runs_151 : decode cX12_runs 151 = .ok (.getfield 77, 3) := dk_get dk_d04_458 13 rfl
theorem dX12_runs_154 : decode cX12_runs 154 = .ok (.iload 4, 2) := dk_get dk_d04_458 14 rfl
theorem dX12_runs_156 : decode cX12_runs 156 = .ok (.iconst 1, 1) := dk_get dk_d04_458 15 rfl
theorem dX12_runs_157 : decode cX12_runs 157 = .ok (.isub, 1) := dk_get dk_d04_458 16 rfl
theorem dX12_runs_158 : decode cX12_runs 158 = .ok (.iaload, 1) := dk_get dk_d04_458 17 rfl
theorem dX12_runs_159 : decode cX12_runs 159 = .ok (.aload_n 0, 1) := dk_get dk_d04_458 18 rfl
theorem dX12_runs_160 : decode cX12_runs 160 = .ok (.getfield 77, 3) := dk_get dk_d04_458 19 rfl
theorem dX12_runs_163 : decode cX12_runs 163 = .ok (.iload 4, 2) := dk_get dk_d04_458 20 rfl
theorem dX12_runs_165 : decode cX12_runs 165 = .ok (.iaload, 1) := dk_get dk_d04_458 21 rfl
theorem dX12_runs_166 : decode cX12_runs 166 = .ok (.invokevirtual 326, 3) := dk_get dk_d04_458 22 rfl
theorem dX12_runs_169 : decode cX12_runs 169 = .ok (.iastore, 1) := dk_get dk_d04_458 23 rfl
theorem dX12_runs_170 : decode cX12_runs 170 = .ok (.iinc 5 1, 3) := dk_get dk_d04_458 24 rfl
theorem dk_d04_459 : dkc cX12_runs [(173, .goto (-161), 3), (176, .aload_n 0, 1), (177, .getfield 77, 3), (180, .iconst 0, 1), (181, .iaload, 1), (182, .ireturn, 1)] = true := by decide +kernel
theorem dX12_runs_173 : decode cX12_runs 173 = .ok (.goto (-161), 3) := dk_get dk_d04_459 0 rfl
theorem dX12_runs_176 : decode cX12_runs 176 = .ok (.aload_n 0, 1) := dk_get dk_d04_459 1 rfl
theorem dX12_runs_177 : decode cX12_runs 177 = .ok (.getfield 77, 3) := dk_get dk_d04_459 2 rfl
theorem dX12_runs_180 : decode cX12_runs 180 = .ok (.iconst 0, 1) := dk_get dk_d04_459 3 rfl
theorem dX12_runs_181 : decode cX12_runs 181 = .ok (.iaload, 1) := dk_get dk_d04_459 4 rfl
theorem dX12_runs_182 : decode cX12_runs 182 = .ok (.ireturn, 1) := dk_get dk_d04_459 5 rfl
theorem dk_d04_460 : dkc cX12_lineOf [(0, .iconst 0, 1), (1, .istore_n 2, 1), (2, .iload_n 2, 1), (3, .aload_n 0, 1), (4, .getfield 37, 3), (7, .iconst 0, 1), (8, .iaload, 1), (9, .if_icmp .ge 56, 3), (12, .aload_n 0, 1), (13, .getfield 40, 3), (16, .iload_n 2, 1), (17, .iaload, 1), (18, .iload_n 1, 1), (19, .if_icmp .ne 40, 3), (22, .aload_n 0, 1), (23, .getfield 46, 3), (26, .iload_n 2, 1), (27, .iaload, 1), (28, .aload_n 0, 1), (29, .getfield 49, 3), (32, .iload_n 2, 1), (33, .iaload, 1), (34, .if_icmp .eq 23, 3), (37, .aload_n 0, 1), (38, .iconst 0, 1)] = true := by decide +kernel
theorem dX12_lineOf_0 : decode cX12_lineOf 0 = .ok (.iconst 0, 1) := dk_get dk_d04_460 0 rfl
theorem dX12_lineOf_1 : decode cX12_lineOf 1 = .ok (.istore_n 2, 1) := dk_get dk_d04_460 1 rfl
theorem dX12_lineOf_2 : decode cX12_lineOf 2 = .ok (.iload_n 2, 1) := dk_get dk_d04_460 2 rfl
theorem dX12_lineOf_3 : decode cX12_lineOf 3 = .ok (.aload_n 0, 1) := dk_get dk_d04_460 3 rfl
theorem dX12_lineOf_4 : decode cX12_lineOf 4 = .ok (.getfield 37, 3) := dk_get dk_d04_460 4 rfl
theorem dX12_lineOf_7 : decode cX12_lineOf 7 = .ok (.iconst 0, 1) := dk_get dk_d04_460 5 rfl
theorem dX12_lineOf_8 : decode cX12_lineOf 8 = .ok (.iaload, 1) := dk_get dk_d04_460 6 rfl
theorem dX12_lineOf_9 : decode cX12_lineOf 9 = .ok (.if_icmp .ge 56, 3) := dk_get dk_d04_460 7 rfl
theorem dX12_lineOf_12 : decode cX12_lineOf 12 = .ok (.aload_n 0, 1) := dk_get dk_d04_460 8 rfl
theorem dX12_lineOf_13 : decode cX12_lineOf 13 = .ok (.getfield 40, 3) := dk_get dk_d04_460 9 rfl
theorem dX12_lineOf_16 : decode cX12_lineOf 16 = .ok (.iload_n 2, 1) := dk_get dk_d04_460 10 rfl
theorem dX12_lineOf_17 : decode cX12_lineOf 17 = .ok (.iaload, 1) := dk_get dk_d04_460 11 rfl
theorem dX12_lineOf_18 : decode cX12_lineOf 18 = .ok (.iload_n 1, 1) := dk_get dk_d04_460 12 rfl
theorem dX12_lineOf_19 : decode cX12_lineOf 19 = .ok (.if_icmp .ne 40, 3) := dk_get dk_d04_460 13 rfl
theorem dX12_lineOf_22 : decode cX12_lineOf 22 = .ok (.aload_n 0, 1) := dk_get dk_d04_460 14 rfl
theorem dX12_lineOf_23 : decode cX12_lineOf 23 = .ok (.getfield 46, 3) := dk_get dk_d04_460 15 rfl
theorem dX12_lineOf_26 : decode cX12_lineOf 26 = .ok (.iload_n 2, 1) := dk_get dk_d04_460 16 rfl
theorem dX12_lineOf_27 : decode cX12_lineOf 27 = .ok (.iaload, 1) := dk_get dk_d04_460 17 rfl
theorem dX12_lineOf_28 : decode cX12_lineOf 28 = .ok (.aload_n 0, 1) := dk_get dk_d04_460 18 rfl
theorem dX12_lineOf_29 : decode cX12_lineOf 29 = .ok (.getfield 49, 3) := dk_get dk_d04_460 19 rfl
theorem dX12_lineOf_32 : decode cX12_lineOf 32 = .ok (.iload_n 2, 1) := dk_get dk_d04_460 20 rfl
theorem dX12_lineOf_33 : decode cX12_lineOf 33 = .ok (.iaload, 1) := dk_get dk_d04_460 21 rfl
theorem dX12_lineOf_34 : decode cX12_lineOf 34 = .ok (.if_icmp .eq 23, 3) := dk_get dk_d04_460 22 rfl
theorem dX12_lineOf_37 : decode cX12_lineOf 37 = .ok (.aload_n 0, 1) := dk_get dk_d04_460 23 rfl
theorem dX12_lineOf_38 : decode cX12_lineOf 38 = .ok (.iconst 0, 1) := dk_get dk_d04_460 24 rfl
theorem dk_d04_461 : dkc cX12_lineOf [(39, .aload_n 0, 1), (40, .getfield 46, 3), (43, .iload_n 2, 1), (44, .iaload, 1), (45, .aload_n 0, 1), (46, .getfield 49, 3), (49, .iload_n 2, 1), (50, .iaload, 1), (51, .invokevirtual 329, 3), (54, .ifCond .eq 5, 3), (57, .iload_n 2, 1), (58, .ireturn, 1), (59, .iinc 2 1, 3), (62, .goto (-60), 3), (65, .iconst (-1), 1), (66, .ireturn, 1)] = true := by decide +kernel
theorem dX12_lineOf_39 : decode cX12_lineOf 39 = .ok (.aload_n 0, 1) := dk_get dk_d04_461 0 rfl
theorem dX12_lineOf_40 : decode cX12_lineOf 40 = .ok (.getfield 46, 3) := dk_get dk_d04_461 1 rfl
theorem dX12_lineOf_43 : decode cX12_lineOf 43 = .ok (.iload_n 2, 1) := dk_get dk_d04_461 2 rfl
theorem dX12_lineOf_44 : decode cX12_lineOf 44 = .ok (.iaload, 1) := dk_get dk_d04_461 3 rfl
theorem dX12_lineOf_45 : decode cX12_lineOf 45 = .ok (.aload_n 0, 1) := dk_get dk_d04_461 4 rfl
theorem dX12_lineOf_46 : decode cX12_lineOf 46 = .ok (.getfield 49, 3) := dk_get dk_d04_461 5 rfl
theorem dX12_lineOf_49 : decode cX12_lineOf 49 = .ok (.iload_n 2, 1) := dk_get dk_d04_461 6 rfl
theorem dX12_lineOf_50 : decode cX12_lineOf 50 = .ok (.iaload, 1) := dk_get dk_d04_461 7 rfl
theorem dX12_lineOf_51 : decode cX12_lineOf 51 = .ok (.invokevirtual 329, 3) := dk_get dk_d04_461 8 rfl
theorem dX12_lineOf_54 : decode cX12_lineOf 54 = .ok (.ifCond .eq 5, 3) := dk_get dk_d04_461 9 rfl
theorem dX12_lineOf_57 : decode cX12_lineOf 57 = .ok (.iload_n 2, 1) := dk_get dk_d04_461 10 rfl
theorem dX12_lineOf_58 : decode cX12_lineOf 58 = .ok (.ireturn, 1) := dk_get dk_d04_461 11 rfl
theorem dX12_lineOf_59 : decode cX12_lineOf 59 = .ok (.iinc 2 1, 3) := dk_get dk_d04_461 12 rfl
theorem dX12_lineOf_62 : decode cX12_lineOf 62 = .ok (.goto (-60), 3) := dk_get dk_d04_461 13 rfl
theorem dX12_lineOf_65 : decode cX12_lineOf 65 = .ok (.iconst (-1), 1) := dk_get dk_d04_461 14 rfl
theorem dX12_lineOf_66 : decode cX12_lineOf 66 = .ok (.ireturn, 1) := dk_get dk_d04_461 15 rfl
theorem dk_d04_462 : dkc cX12_isMarked [(0, .aload_n 0, 1), (1, .getfield 7, 3), (4, .bipush 67, 2), (6, .iload_n 1, 1), (7, .iadd, 1), (8, .iaload, 1), (9, .ifCond .le 7, 3), (12, .iconst 1, 1), (13, .goto 4, 3), (16, .iconst 0, 1), (17, .ireturn, 1)] = true := by decide +kernel
theorem dX12_isMarked_0 : decode cX12_isMarked 0 = .ok (.aload_n 0, 1) := dk_get dk_d04_462 0 rfl
theorem dX12_isMarked_1 : decode cX12_isMarked 1 = .ok (.getfield 7, 3) := dk_get dk_d04_462 1 rfl
theorem dX12_isMarked_4 : decode cX12_isMarked 4 = .ok (.bipush 67, 2) := dk_get dk_d04_462 2 rfl
theorem dX12_isMarked_6 : decode cX12_isMarked 6 = .ok (.iload_n 1, 1) := dk_get dk_d04_462 3 rfl
theorem dX12_isMarked_7 : decode cX12_isMarked 7 = .ok (.iadd, 1) := dk_get dk_d04_462 4 rfl
theorem dX12_isMarked_8 : decode cX12_isMarked 8 = .ok (.iaload, 1) := dk_get dk_d04_462 5 rfl
theorem dX12_isMarked_9 : decode cX12_isMarked 9 = .ok (.ifCond .le 7, 3) := dk_get dk_d04_462 6 rfl
theorem dX12_isMarked_12 : decode cX12_isMarked 12 = .ok (.iconst 1, 1) := dk_get dk_d04_462 7 rfl
theorem dX12_isMarked_13 : decode cX12_isMarked 13 = .ok (.goto 4, 3) := dk_get dk_d04_462 8 rfl
theorem dX12_isMarked_16 : decode cX12_isMarked 16 = .ok (.iconst 0, 1) := dk_get dk_d04_462 9 rfl
theorem dX12_isMarked_17 : decode cX12_isMarked 17 = .ok (.ireturn, 1) := dk_get dk_d04_462 10 rfl
theorem dk_d04_463 : dkc cX12_besideOf [(0, .iconst 0, 1), (1, .istore_n 2, 1), (2, .iload_n 1, 1), (3, .bipush 12, 2), (5, .if_icmp .lt 18, 3), (8, .aload_n 0, 1), (9, .iload_n 1, 1), (10, .bipush 12, 2), (12, .isub, 1), (13, .invokevirtual 332, 3), (16, .ifCond .eq 7, 3), (19, .iload_n 2, 1), (20, .iconst 1, 1), (21, .iadd, 1), (22, .istore_n 2, 1), (23, .iload_n 1, 1), (24, .sipush 132, 3), (27, .if_icmp .ge 18, 3), (30, .aload_n 0, 1), (31, .iload_n 1, 1), (32, .bipush 12, 2), (34, .iadd, 1), (35, .invokevirtual 332, 3), (38, .ifCond .eq 7, 3), (41, .iload_n 2, 1)] = true := by decide +kernel
theorem dX12_besideOf_0 : decode cX12_besideOf 0 = .ok (.iconst 0, 1) := dk_get dk_d04_463 0 rfl
theorem dX12_besideOf_1 : decode cX12_besideOf 1 = .ok (.istore_n 2, 1) := dk_get dk_d04_463 1 rfl
theorem dX12_besideOf_2 : decode cX12_besideOf 2 = .ok (.iload_n 1, 1) := dk_get dk_d04_463 2 rfl
theorem dX12_besideOf_3 : decode cX12_besideOf 3 = .ok (.bipush 12, 2) := dk_get dk_d04_463 3 rfl
theorem dX12_besideOf_5 : decode cX12_besideOf 5 = .ok (.if_icmp .lt 18, 3) := dk_get dk_d04_463 4 rfl
theorem dX12_besideOf_8 : decode cX12_besideOf 8 = .ok (.aload_n 0, 1) := dk_get dk_d04_463 5 rfl
theorem dX12_besideOf_9 : decode cX12_besideOf 9 = .ok (.iload_n 1, 1) := dk_get dk_d04_463 6 rfl
theorem dX12_besideOf_10 : decode cX12_besideOf 10 = .ok (.bipush 12, 2) := dk_get dk_d04_463 7 rfl
theorem dX12_besideOf_12 : decode cX12_besideOf 12 = .ok (.isub, 1) := dk_get dk_d04_463 8 rfl
theorem dX12_besideOf_13 : decode cX12_besideOf 13 = .ok (.invokevirtual 332, 3) := dk_get dk_d04_463 9 rfl
theorem dX12_besideOf_16 : decode cX12_besideOf 16 = .ok (.ifCond .eq 7, 3) := dk_get dk_d04_463 10 rfl
theorem dX12_besideOf_19 : decode cX12_besideOf 19 = .ok (.iload_n 2, 1) := dk_get dk_d04_463 11 rfl
theorem dX12_besideOf_20 : decode cX12_besideOf 20 = .ok (.iconst 1, 1) := dk_get dk_d04_463 12 rfl
theorem dX12_besideOf_21 : decode cX12_besideOf 21 = .ok (.iadd, 1) := dk_get dk_d04_463 13 rfl
theorem dX12_besideOf_22 : decode cX12_besideOf 22 = .ok (.istore_n 2, 1) := dk_get dk_d04_463 14 rfl
theorem dX12_besideOf_23 : decode cX12_besideOf 23 = .ok (.iload_n 1, 1) := dk_get dk_d04_463 15 rfl
theorem dX12_besideOf_24 : decode cX12_besideOf 24 = .ok (.sipush 132, 3) := dk_get dk_d04_463 16 rfl
theorem dX12_besideOf_27 : decode cX12_besideOf 27 = .ok (.if_icmp .ge 18, 3) := dk_get dk_d04_463 17 rfl
theorem dX12_besideOf_30 : decode cX12_besideOf 30 = .ok (.aload_n 0, 1) := dk_get dk_d04_463 18 rfl
theorem dX12_besideOf_31 : decode cX12_besideOf 31 = .ok (.iload_n 1, 1) := dk_get dk_d04_463 19 rfl
theorem dX12_besideOf_32 : decode cX12_besideOf 32 = .ok (.bipush 12, 2) := dk_get dk_d04_463 20 rfl
theorem dX12_besideOf_34 : decode cX12_besideOf 34 = .ok (.iadd, 1) := dk_get dk_d04_463 21 rfl
theorem dX12_besideOf_35 : decode cX12_besideOf 35 = .ok (.invokevirtual 332, 3) := dk_get dk_d04_463 22 rfl
theorem dX12_besideOf_38 : decode cX12_besideOf 38 = .ok (.ifCond .eq 7, 3) := dk_get dk_d04_463 23 rfl
theorem dX12_besideOf_41 : decode cX12_besideOf 41 = .ok (.iload_n 2, 1) := dk_get dk_d04_463 24 rfl
theorem dk_d04_464 : dkc cX12_besideOf [(42, .iconst 1, 1), (43, .iadd, 1), (44, .istore_n 2, 1), (45, .iload_n 1, 1), (46, .bipush 12, 2), (48, .irem, 1), (49, .ifCond .le 17, 3), (52, .aload_n 0, 1), (53, .iload_n 1, 1), (54, .iconst 1, 1), (55, .isub, 1), (56, .invokevirtual 332, 3), (59, .ifCond .eq 7, 3), (62, .iload_n 2, 1), (63, .iconst 1, 1), (64, .iadd, 1), (65, .istore_n 2, 1), (66, .iload_n 1, 1), (67, .bipush 12, 2), (69, .irem, 1), (70, .bipush 11, 2), (72, .if_icmp .ge 17, 3), (75, .aload_n 0, 1), (76, .iload_n 1, 1), (77, .iconst 1, 1)] = true := by decide +kernel
theorem dX12_besideOf_42 : decode cX12_besideOf 42 = .ok (.iconst 1, 1) := dk_get dk_d04_464 0 rfl
theorem dX12_besideOf_43 : decode cX12_besideOf 43 = .ok (.iadd, 1) := dk_get dk_d04_464 1 rfl
theorem dX12_besideOf_44 : decode cX12_besideOf 44 = .ok (.istore_n 2, 1) := dk_get dk_d04_464 2 rfl
theorem dX12_besideOf_45 : decode cX12_besideOf 45 = .ok (.iload_n 1, 1) := dk_get dk_d04_464 3 rfl
theorem dX12_besideOf_46 : decode cX12_besideOf 46 = .ok (.bipush 12, 2) := dk_get dk_d04_464 4 rfl
theorem dX12_besideOf_48 : decode cX12_besideOf 48 = .ok (.irem, 1) := dk_get dk_d04_464 5 rfl
theorem dX12_besideOf_49 : decode cX12_besideOf 49 = .ok (.ifCond .le 17, 3) := dk_get dk_d04_464 6 rfl
theorem dX12_besideOf_52 : decode cX12_besideOf 52 = .ok (.aload_n 0, 1) := dk_get dk_d04_464 7 rfl
theorem dX12_besideOf_53 : decode cX12_besideOf 53 = .ok (.iload_n 1, 1) := dk_get dk_d04_464 8 rfl
theorem dX12_besideOf_54 : decode cX12_besideOf 54 = .ok (.iconst 1, 1) := dk_get dk_d04_464 9 rfl
theorem dX12_besideOf_55 : decode cX12_besideOf 55 = .ok (.isub, 1) := dk_get dk_d04_464 10 rfl
theorem dX12_besideOf_56 : decode cX12_besideOf 56 = .ok (.invokevirtual 332, 3) := dk_get dk_d04_464 11 rfl
theorem dX12_besideOf_59 : decode cX12_besideOf 59 = .ok (.ifCond .eq 7, 3) := dk_get dk_d04_464 12 rfl
theorem dX12_besideOf_62 : decode cX12_besideOf 62 = .ok (.iload_n 2, 1) := dk_get dk_d04_464 13 rfl
theorem dX12_besideOf_63 : decode cX12_besideOf 63 = .ok (.iconst 1, 1) := dk_get dk_d04_464 14 rfl
theorem dX12_besideOf_64 : decode cX12_besideOf 64 = .ok (.iadd, 1) := dk_get dk_d04_464 15 rfl
theorem dX12_besideOf_65 : decode cX12_besideOf 65 = .ok (.istore_n 2, 1) := dk_get dk_d04_464 16 rfl
theorem dX12_besideOf_66 : decode cX12_besideOf 66 = .ok (.iload_n 1, 1) := dk_get dk_d04_464 17 rfl
theorem dX12_besideOf_67 : decode cX12_besideOf 67 = .ok (.bipush 12, 2) := dk_get dk_d04_464 18 rfl
theorem dX12_besideOf_69 : decode cX12_besideOf 69 = .ok (.irem, 1) := dk_get dk_d04_464 19 rfl
theorem dX12_besideOf_70 : decode cX12_besideOf 70 = .ok (.bipush 11, 2) := dk_get dk_d04_464 20 rfl
theorem dX12_besideOf_72 : decode cX12_besideOf 72 = .ok (.if_icmp .ge 17, 3) := dk_get dk_d04_464 21 rfl
theorem dX12_besideOf_75 : decode cX12_besideOf 75 = .ok (.aload_n 0, 1) := dk_get dk_d04_464 22 rfl
theorem dX12_besideOf_76 : decode cX12_besideOf 76 = .ok (.iload_n 1, 1) := dk_get dk_d04_464 23 rfl
theorem dX12_besideOf_77 : decode cX12_besideOf 77 = .ok (.iconst 1, 1) := dk_get dk_d04_464 24 rfl
theorem dk_d04_465 : dkc cX12_besideOf [(78, .iadd, 1), (79, .invokevirtual 332, 3), (82, .ifCond .eq 7, 3), (85, .iload_n 2, 1), (86, .iconst 1, 1), (87, .iadd, 1), (88, .istore_n 2, 1), (89, .iload_n 2, 1), (90, .ireturn, 1)] = true := by decide +kernel
theorem dX12_besideOf_78 : decode cX12_besideOf 78 = .ok (.iadd, 1) := dk_get dk_d04_465 0 rfl
theorem dX12_besideOf_79 : decode cX12_besideOf 79 = .ok (.invokevirtual 332, 3) := dk_get dk_d04_465 1 rfl
theorem dX12_besideOf_82 : decode cX12_besideOf 82 = .ok (.ifCond .eq 7, 3) := dk_get dk_d04_465 2 rfl
theorem dX12_besideOf_85 : decode cX12_besideOf 85 = .ok (.iload_n 2, 1) := dk_get dk_d04_465 3 rfl
theorem dX12_besideOf_86 : decode cX12_besideOf 86 = .ok (.iconst 1, 1) := dk_get dk_d04_465 4 rfl
theorem dX12_besideOf_87 : decode cX12_besideOf 87 = .ok (.iadd, 1) := dk_get dk_d04_465 5 rfl
theorem dX12_besideOf_88 : decode cX12_besideOf 88 = .ok (.istore_n 2, 1) := dk_get dk_d04_465 6 rfl
theorem dX12_besideOf_89 : decode cX12_besideOf 89 = .ok (.iload_n 2, 1) := dk_get dk_d04_465 7 rfl
theorem dX12_besideOf_90 : decode cX12_besideOf 90 = .ok (.ireturn, 1) := dk_get dk_d04_465 8 rfl
theorem dk_d04_466 : dkc cX12_asks [(0, .aload_n 0, 1), (1, .getfield 74, 3), (4, .iconst 0, 1), (5, .iload_n 2, 1), (6, .iastore, 1), (7, .aload_n 0, 1), (8, .getfield 74, 3), (11, .iconst 1, 1), (12, .aload_n 0, 1), (13, .getfield 25, 3), (16, .iload_n 1, 1), (17, .iaload, 1), (18, .iastore, 1), (19, .aload_n 0, 1), (20, .getfield 74, 3), (23, .iconst 2, 1), (24, .aload_n 0, 1), (25, .getfield 22, 3), (28, .iload_n 1, 1), (29, .iaload, 1), (30, .iastore, 1), (31, .aload_n 0, 1), (32, .getfield 74, 3), (35, .iconst 3, 1), (36, .iconst 0, 1)] = true := by decide +kernel
theorem dX12_asks_0 : decode cX12_asks 0 = .ok (.aload_n 0, 1) := dk_get dk_d04_466 0 rfl
theorem dX12_asks_1 : decode cX12_asks 1 = .ok (.getfield 74, 3) := dk_get dk_d04_466 1 rfl
theorem dX12_asks_4 : decode cX12_asks 4 = .ok (.iconst 0, 1) := dk_get dk_d04_466 2 rfl
theorem dX12_asks_5 : decode cX12_asks 5 = .ok (.iload_n 2, 1) := dk_get dk_d04_466 3 rfl
theorem dX12_asks_6 : decode cX12_asks 6 = .ok (.iastore, 1) := dk_get dk_d04_466 4 rfl
theorem dX12_asks_7 : decode cX12_asks 7 = .ok (.aload_n 0, 1) := dk_get dk_d04_466 5 rfl
theorem dX12_asks_8 : decode cX12_asks 8 = .ok (.getfield 74, 3) := dk_get dk_d04_466 6 rfl
theorem dX12_asks_11 : decode cX12_asks 11 = .ok (.iconst 1, 1) := dk_get dk_d04_466 7 rfl
theorem dX12_asks_12 : decode cX12_asks 12 = .ok (.aload_n 0, 1) := dk_get dk_d04_466 8 rfl
theorem dX12_asks_13 : decode cX12_asks 13 = .ok (.getfield 25, 3) := dk_get dk_d04_466 9 rfl
theorem dX12_asks_16 : decode cX12_asks 16 = .ok (.iload_n 1, 1) := dk_get dk_d04_466 10 rfl
theorem dX12_asks_17 : decode cX12_asks 17 = .ok (.iaload, 1) := dk_get dk_d04_466 11 rfl
theorem dX12_asks_18 : decode cX12_asks 18 = .ok (.iastore, 1) := dk_get dk_d04_466 12 rfl
theorem dX12_asks_19 : decode cX12_asks 19 = .ok (.aload_n 0, 1) := dk_get dk_d04_466 13 rfl
theorem dX12_asks_20 : decode cX12_asks 20 = .ok (.getfield 74, 3) := dk_get dk_d04_466 14 rfl
theorem dX12_asks_23 : decode cX12_asks 23 = .ok (.iconst 2, 1) := dk_get dk_d04_466 15 rfl
theorem dX12_asks_24 : decode cX12_asks 24 = .ok (.aload_n 0, 1) := dk_get dk_d04_466 16 rfl
theorem dX12_asks_25 : decode cX12_asks 25 = .ok (.getfield 22, 3) := dk_get dk_d04_466 17 rfl
theorem dX12_asks_28 : decode cX12_asks 28 = .ok (.iload_n 1, 1) := dk_get dk_d04_466 18 rfl
theorem dX12_asks_29 : decode cX12_asks 29 = .ok (.iaload, 1) := dk_get dk_d04_466 19 rfl
theorem dX12_asks_30 : decode cX12_asks 30 = .ok (.iastore, 1) := dk_get dk_d04_466 20 rfl
theorem dX12_asks_31 : decode cX12_asks 31 = .ok (.aload_n 0, 1) := dk_get dk_d04_466 21 rfl
theorem dX12_asks_32 : decode cX12_asks 32 = .ok (.getfield 74, 3) := dk_get dk_d04_466 22 rfl
theorem dX12_asks_35 : decode cX12_asks 35 = .ok (.iconst 3, 1) := dk_get dk_d04_466 23 rfl
theorem dX12_asks_36 : decode cX12_asks 36 = .ok (.iconst 0, 1) := dk_get dk_d04_466 24 rfl
theorem dk_d04_467 : dkc cX12_asks [(37, .iastore, 1), (38, .aload_n 0, 1), (39, .getfield 74, 3), (42, .iconst 4, 1), (43, .aload_n 0, 1), (44, .getfield 7, 3), (47, .iconst 4, 1), (48, .iaload, 1), (49, .iastore, 1), (50, .aload_n 0, 1), (51, .getfield 74, 3), (54, .iconst 5, 1), (55, .aload_n 0, 1), (56, .getfield 7, 3), (59, .iconst 1, 1), (60, .iaload, 1), (61, .iastore, 1), (62, .aload_n 0, 1), (63, .getfield 74, 3), (66, .bipush 6, 2), (68, .iconst 0, 1), (69, .iastore, 1), (70, .aload_n 0, 1), (71, .getfield 74, 3), (74, .bipush 7, 2)] = true := by decide +kernel
theorem dX12_asks_37 : decode cX12_asks 37 = .ok (.iastore, 1) := dk_get dk_d04_467 0 rfl
theorem dX12_asks_38 : decode cX12_asks 38 = .ok (.aload_n 0, 1) := dk_get dk_d04_467 1 rfl
theorem dX12_asks_39 : decode cX12_asks 39 = .ok (.getfield 74, 3) := dk_get dk_d04_467 2 rfl
theorem dX12_asks_42 : decode cX12_asks 42 = .ok (.iconst 4, 1) := dk_get dk_d04_467 3 rfl
theorem dX12_asks_43 : decode cX12_asks 43 = .ok (.aload_n 0, 1) := dk_get dk_d04_467 4 rfl
theorem dX12_asks_44 : decode cX12_asks 44 = .ok (.getfield 7, 3) := dk_get dk_d04_467 5 rfl
theorem dX12_asks_47 : decode cX12_asks 47 = .ok (.iconst 4, 1) := dk_get dk_d04_467 6 rfl
theorem dX12_asks_48 : decode cX12_asks 48 = .ok (.iaload, 1) := dk_get dk_d04_467 7 rfl
theorem dX12_asks_49 : decode cX12_asks 49 = .ok (.iastore, 1) := dk_get dk_d04_467 8 rfl
theorem dX12_asks_50 : decode cX12_asks 50 = .ok (.aload_n 0, 1) := dk_get dk_d04_467 9 rfl
theorem dX12_asks_51 : decode cX12_asks 51 = .ok (.getfield 74, 3) := dk_get dk_d04_467 10 rfl
theorem dX12_asks_54 : decode cX12_asks 54 = .ok (.iconst 5, 1) := dk_get dk_d04_467 11 rfl
theorem dX12_asks_55 : decode cX12_asks 55 = .ok (.aload_n 0, 1) := dk_get dk_d04_467 12 rfl
theorem dX12_asks_56 : decode cX12_asks 56 = .ok (.getfield 7, 3) := dk_get dk_d04_467 13 rfl
theorem dX12_asks_59 : decode cX12_asks 59 = .ok (.iconst 1, 1) := dk_get dk_d04_467 14 rfl
theorem dX12_asks_60 : decode cX12_asks 60 = .ok (.iaload, 1) := dk_get dk_d04_467 15 rfl
theorem dX12_asks_61 : decode cX12_asks 61 = .ok (.iastore, 1) := dk_get dk_d04_467 16 rfl
theorem dX12_asks_62 : decode cX12_asks 62 = .ok (.aload_n 0, 1) := dk_get dk_d04_467 17 rfl
theorem dX12_asks_63 : decode cX12_asks 63 = .ok (.getfield 74, 3) := dk_get dk_d04_467 18 rfl
theorem dX12_asks_66 : decode cX12_asks 66 = .ok (.bipush 6, 2) := dk_get dk_d04_467 19 rfl
theorem dX12_asks_68 : decode cX12_asks 68 = .ok (.iconst 0, 1) := dk_get dk_d04_467 20 rfl
theorem dX12_asks_69 : decode cX12_asks 69 = .ok (.iastore, 1) := dk_get dk_d04_467 21 rfl
theorem dX12_asks_70 : decode cX12_asks 70 = .ok (.aload_n 0, 1) := dk_get dk_d04_467 22 rfl
theorem dX12_asks_71 : decode cX12_asks 71 = .ok (.getfield 74, 3) := dk_get dk_d04_467 23 rfl
theorem dX12_asks_74 : decode cX12_asks 74 = .ok (.bipush 7, 2) := dk_get dk_d04_467 24 rfl
theorem dk_d04_468 : dkc cX12_asks [(76, .iconst 0, 1), (77, .iastore, 1), (78, .aload_n 0, 1), (79, .getfield 74, 3), (82, .bipush 8, 2), (84, .aload_n 0, 1), (85, .getfield 7, 3), (88, .bipush 47, 2), (90, .iload_n 1, 1), (91, .iadd, 1), (92, .iaload, 1), (93, .iastore, 1), (94, .aload_n 0, 1), (95, .getfield 74, 3), (98, .bipush 9, 2), (100, .aload_n 0, 1), (101, .getfield 7, 3), (104, .iconst 0, 1), (105, .iaload, 1), (106, .iastore, 1), (107, .return_, 1)] = true := by decide +kernel
theorem dX12_asks_76 : decode cX12_asks 76 = .ok (.iconst 0, 1) := dk_get dk_d04_468 0 rfl
theorem dX12_asks_77 : decode cX12_asks 77 = .ok (.iastore, 1) := dk_get dk_d04_468 1 rfl
theorem dX12_asks_78 : decode cX12_asks 78 = .ok (.aload_n 0, 1) := dk_get dk_d04_468 2 rfl
theorem dX12_asks_79 : decode cX12_asks 79 = .ok (.getfield 74, 3) := dk_get dk_d04_468 3 rfl
theorem dX12_asks_82 : decode cX12_asks 82 = .ok (.bipush 8, 2) := dk_get dk_d04_468 4 rfl
theorem dX12_asks_84 : decode cX12_asks 84 = .ok (.aload_n 0, 1) := dk_get dk_d04_468 5 rfl
theorem dX12_asks_85 : decode cX12_asks 85 = .ok (.getfield 7, 3) := dk_get dk_d04_468 6 rfl
theorem dX12_asks_88 : decode cX12_asks 88 = .ok (.bipush 47, 2) := dk_get dk_d04_468 7 rfl
theorem dX12_asks_90 : decode cX12_asks 90 = .ok (.iload_n 1, 1) := dk_get dk_d04_468 8 rfl
theorem dX12_asks_91 : decode cX12_asks 91 = .ok (.iadd, 1) := dk_get dk_d04_468 9 rfl
theorem dX12_asks_92 : decode cX12_asks 92 = .ok (.iaload, 1) := dk_get dk_d04_468 10 rfl
theorem dX12_asks_93 : decode cX12_asks 93 = .ok (.iastore, 1) := dk_get dk_d04_468 11 rfl
theorem dX12_asks_94 : decode cX12_asks 94 = .ok (.aload_n 0, 1) := dk_get dk_d04_468 12 rfl
theorem dX12_asks_95 : decode cX12_asks 95 = .ok (.getfield 74, 3) := dk_get dk_d04_468 13 rfl
theorem dX12_asks_98 : decode cX12_asks 98 = .ok (.bipush 9, 2) := dk_get dk_d04_468 14 rfl
theorem dX12_asks_100 : decode cX12_asks 100 = .ok (.aload_n 0, 1) := dk_get dk_d04_468 15 rfl
theorem dX12_asks_101 : decode cX12_asks 101 = .ok (.getfield 7, 3) := dk_get dk_d04_468 16 rfl
theorem dX12_asks_104 : decode cX12_asks 104 = .ok (.iconst 0, 1) := dk_get dk_d04_468 17 rfl
theorem dX12_asks_105 : decode cX12_asks 105 = .ok (.iaload, 1) := dk_get dk_d04_468 18 rfl
theorem dX12_asks_106 : decode cX12_asks 106 = .ok (.iastore, 1) := dk_get dk_d04_468 19 rfl
theorem dX12_asks_107 : decode cX12_asks 107 = .ok (.return_, 1) := dk_get dk_d04_468 20 rfl
theorem dk_d04_469 : dkc cX12_asksOf [(0, .aload_n 0, 1), (1, .aload_n 0, 1), (2, .getfield 7, 3), (5, .bipush 67, 2), (7, .iload_n 1, 1), (8, .iadd, 1), (9, .iaload, 1), (10, .iconst 1, 1), (11, .isub, 1), (12, .aload_n 0, 1), (13, .getfield 7, 3), (16, .sipush 211, 3), (19, .iload_n 1, 1), (20, .iadd, 1), (21, .iaload, 1), (22, .invokevirtual 335, 3), (25, .aload_n 0, 1), (26, .getfield 74, 3), (29, .iconst 3, 1), (30, .aload_n 0, 1), (31, .getfield 7, 3), (34, .sipush 355, 3), (37, .iload_n 1, 1), (38, .iadd, 1), (39, .iaload, 1)] = true := by decide +kernel
theorem dX12_asksOf_0 : decode cX12_asksOf 0 = .ok (.aload_n 0, 1) := dk_get dk_d04_469 0 rfl
theorem dX12_asksOf_1 : decode cX12_asksOf 1 = .ok (.aload_n 0, 1) := dk_get dk_d04_469 1 rfl
theorem dX12_asksOf_2 : decode cX12_asksOf 2 = .ok (.getfield 7, 3) := dk_get dk_d04_469 2 rfl
theorem dX12_asksOf_5 : decode cX12_asksOf 5 = .ok (.bipush 67, 2) := dk_get dk_d04_469 3 rfl
theorem dX12_asksOf_7 : decode cX12_asksOf 7 = .ok (.iload_n 1, 1) := dk_get dk_d04_469 4 rfl
theorem dX12_asksOf_8 : decode cX12_asksOf 8 = .ok (.iadd, 1) := dk_get dk_d04_469 5 rfl
theorem dX12_asksOf_9 : decode cX12_asksOf 9 = .ok (.iaload, 1) := dk_get dk_d04_469 6 rfl
theorem dX12_asksOf_10 : decode cX12_asksOf 10 = .ok (.iconst 1, 1) := dk_get dk_d04_469 7 rfl
theorem dX12_asksOf_11 : decode cX12_asksOf 11 = .ok (.isub, 1) := dk_get dk_d04_469 8 rfl
theorem dX12_asksOf_12 : decode cX12_asksOf 12 = .ok (.aload_n 0, 1) := dk_get dk_d04_469 9 rfl
theorem dX12_asksOf_13 : decode cX12_asksOf 13 = .ok (.getfield 7, 3) := dk_get dk_d04_469 10 rfl
theorem dX12_asksOf_16 : decode cX12_asksOf 16 = .ok (.sipush 211, 3) := dk_get dk_d04_469 11 rfl
theorem dX12_asksOf_19 : decode cX12_asksOf 19 = .ok (.iload_n 1, 1) := dk_get dk_d04_469 12 rfl
theorem dX12_asksOf_20 : decode cX12_asksOf 20 = .ok (.iadd, 1) := dk_get dk_d04_469 13 rfl
theorem dX12_asksOf_21 : decode cX12_asksOf 21 = .ok (.iaload, 1) := dk_get dk_d04_469 14 rfl
theorem dX12_asksOf_22 : decode cX12_asksOf 22 = .ok (.invokevirtual 335, 3) := dk_get dk_d04_469 15 rfl
theorem dX12_asksOf_25 : decode cX12_asksOf 25 = .ok (.aload_n 0, 1) := dk_get dk_d04_469 16 rfl
theorem dX12_asksOf_26 : decode cX12_asksOf 26 = .ok (.getfield 74, 3) := dk_get dk_d04_469 17 rfl
theorem dX12_asksOf_29 : decode cX12_asksOf 29 = .ok (.iconst 3, 1) := dk_get dk_d04_469 18 rfl
theorem dX12_asksOf_30 : decode cX12_asksOf 30 = .ok (.aload_n 0, 1) := dk_get dk_d04_469 19 rfl
theorem dX12_asksOf_31 : decode cX12_asksOf 31 = .ok (.getfield 7, 3) := dk_get dk_d04_469 20 rfl
theorem dX12_asksOf_34 : decode cX12_asksOf 34 = .ok (.sipush 355, 3) := dk_get dk_d04_469 21 rfl
theorem dX12_asksOf_37 : decode cX12_asksOf 37 = .ok (.iload_n 1, 1) := dk_get dk_d04_469 22 rfl
theorem dX12_asksOf_38 : decode cX12_asksOf 38 = .ok (.iadd, 1) := dk_get dk_d04_469 23 rfl
theorem dX12_asksOf_39 : decode cX12_asksOf 39 = .ok (.iaload, 1) := dk_get dk_d04_469 24 rfl
theorem dk_d04_470 : dkc cX12_asksOf [(40, .iastore, 1), (41, .aload_n 0, 1), (42, .getfield 74, 3), (45, .bipush 6, 2), (47, .iload_n 1, 1), (48, .bipush 12, 2), (50, .idiv, 1), (51, .iastore, 1), (52, .aload_n 0, 1), (53, .getfield 74, 3), (56, .bipush 7, 2), (58, .aload_n 0, 1), (59, .iload_n 1, 1), (60, .invokevirtual 338, 3), (63, .iastore, 1), (64, .return_, 1)] = true := by decide +kernel
theorem dX12_asksOf_40 : decode cX12_asksOf 40 = .ok (.iastore, 1) := dk_get dk_d04_470 0 rfl
theorem dX12_asksOf_41 : decode cX12_asksOf 41 = .ok (.aload_n 0, 1) := dk_get dk_d04_470 1 rfl
theorem dX12_asksOf_42 : decode cX12_asksOf 42 = .ok (.getfield 74, 3) := dk_get dk_d04_470 2 rfl
theorem dX12_asksOf_45 : decode cX12_asksOf 45 = .ok (.bipush 6, 2) := dk_get dk_d04_470 3 rfl
theorem dX12_asksOf_47 : decode cX12_asksOf 47 = .ok (.iload_n 1, 1) := dk_get dk_d04_470 4 rfl
theorem dX12_asksOf_48 : decode cX12_asksOf 48 = .ok (.bipush 12, 2) := dk_get dk_d04_470 5 rfl
theorem dX12_asksOf_50 : decode cX12_asksOf 50 = .ok (.idiv, 1) := dk_get dk_d04_470 6 rfl
theorem dX12_asksOf_51 : decode cX12_asksOf 51 = .ok (.iastore, 1) := dk_get dk_d04_470 7 rfl
theorem dX12_asksOf_52 : decode cX12_asksOf 52 = .ok (.aload_n 0, 1) := dk_get dk_d04_470 8 rfl
theorem dX12_asksOf_53 : decode cX12_asksOf 53 = .ok (.getfield 74, 3) := dk_get dk_d04_470 9 rfl
theorem dX12_asksOf_56 : decode cX12_asksOf 56 = .ok (.bipush 7, 2) := dk_get dk_d04_470 10 rfl
theorem dX12_asksOf_58 : decode cX12_asksOf 58 = .ok (.aload_n 0, 1) := dk_get dk_d04_470 11 rfl
theorem dX12_asksOf_59 : decode cX12_asksOf 59 = .ok (.iload_n 1, 1) := dk_get dk_d04_470 12 rfl
theorem dX12_asksOf_60 : decode cX12_asksOf 60 = .ok (.invokevirtual 338, 3) := dk_get dk_d04_470 13 rfl
theorem dX12_asksOf_63 : decode cX12_asksOf 63 = .ok (.iastore, 1) := dk_get dk_d04_470 14 rfl
theorem dX12_asksOf_64 : decode cX12_asksOf 64 = .ok (.return_, 1) := dk_get dk_d04_470 15 rfl
theorem dk_d04_471 : dkc cX12_lawTells [(0, .aload_n 0, 1), (1, .iload_n 1, 1), (2, .invokevirtual 341, 3), (5, .istore 4, 2), (7, .aload_n 0, 1), (8, .iload 4, 2), (10, .iconst (-1), 1), (11, .if_icmp .ne 7, 3), (14, .iload_n 2, 1), (15, .goto 22, 3), (18, .aload_n 0, 1), (19, .iconst 0, 1), (20, .aload_n 0, 1), (21, .getfield 43, 3), (24, .iload 4, 2), (26, .iaload, 1), (27, .aload_n 0, 1), (28, .getfield 46, 3), (31, .iload 4, 2), (33, .iaload, 1), (34, .invokevirtual 329, 3), (37, .iconst 0, 1), (38, .iload_n 3, 1), (39, .invokevirtual 344, 3), (42, .ireturn, 1)] = true := by decide +kernel
theorem dX12_lawTells_0 : decode cX12_lawTells 0 = .ok (.aload_n 0, 1) := dk_get dk_d04_471 0 rfl
theorem dX12_lawTells_1 : decode cX12_lawTells 1 = .ok (.iload_n 1, 1) := dk_get dk_d04_471 1 rfl
theorem dX12_lawTells_2 : decode cX12_lawTells 2 = .ok (.invokevirtual 341, 3) := dk_get dk_d04_471 2 rfl
theorem dX12_lawTells_5 : decode cX12_lawTells 5 = .ok (.istore 4, 2) := dk_get dk_d04_471 3 rfl
theorem dX12_lawTells_7 : decode cX12_lawTells 7 = .ok (.aload_n 0, 1) := dk_get dk_d04_471 4 rfl
theorem dX12_lawTells_8 : decode cX12_lawTells 8 = .ok (.iload 4, 2) := dk_get dk_d04_471 5 rfl
theorem dX12_lawTells_10 : decode cX12_lawTells 10 = .ok (.iconst (-1), 1) := dk_get dk_d04_471 6 rfl
theorem dX12_lawTells_11 : decode cX12_lawTells 11 = .ok (.if_icmp .ne 7, 3) := dk_get dk_d04_471 7 rfl
theorem dX12_lawTells_14 : decode cX12_lawTells 14 = .ok (.iload_n 2, 1) := dk_get dk_d04_471 8 rfl
theorem dX12_lawTells_15 : decode cX12_lawTells 15 = .ok (.goto 22, 3) := dk_get dk_d04_471 9 rfl
theorem dX12_lawTells_18 : decode cX12_lawTells 18 = .ok (.aload_n 0, 1) := dk_get dk_d04_471 10 rfl
theorem dX12_lawTells_19 : decode cX12_lawTells 19 = .ok (.iconst 0, 1) := dk_get dk_d04_471 11 rfl
theorem dX12_lawTells_20 : decode cX12_lawTells 20 = .ok (.aload_n 0, 1) := dk_get dk_d04_471 12 rfl
theorem dX12_lawTells_21 : decode cX12_lawTells 21 = .ok (.getfield 43, 3) := dk_get dk_d04_471 13 rfl
theorem dX12_lawTells_24 : decode cX12_lawTells 24 = .ok (.iload 4, 2) := dk_get dk_d04_471 14 rfl
theorem dX12_lawTells_26 : decode cX12_lawTells 26 = .ok (.iaload, 1) := dk_get dk_d04_471 15 rfl
theorem dX12_lawTells_27 : decode cX12_lawTells 27 = .ok (.aload_n 0, 1) := dk_get dk_d04_471 16 rfl
theorem dX12_lawTells_28 : decode cX12_lawTells 28 = .ok (.getfield 46, 3) := dk_get dk_d04_471 17 rfl
theorem dX12_lawTells_31 : decode cX12_lawTells 31 = .ok (.iload 4, 2) := dk_get dk_d04_471 18 rfl
theorem dX12_lawTells_33 : decode cX12_lawTells 33 = .ok (.iaload, 1) := dk_get dk_d04_471 19 rfl
theorem dX12_lawTells_34 : decode cX12_lawTells 34 = .ok (.invokevirtual 329, 3) := dk_get dk_d04_471 20 rfl
theorem dX12_lawTells_37 : decode cX12_lawTells 37 = .ok (.iconst 0, 1) := dk_get dk_d04_471 21 rfl
theorem dX12_lawTells_38 : decode cX12_lawTells 38 = .ok (.iload_n 3, 1) := dk_get dk_d04_471 22 rfl
theorem dX12_lawTells_39 : decode cX12_lawTells 39 = .ok (.invokevirtual 344, 3) := dk_get dk_d04_471 23 rfl
theorem dX12_lawTells_42 : decode cX12_lawTells 42 = .ok (.ireturn, 1) := dk_get dk_d04_471 24 rfl
theorem dk_d04_472 : dkc cX12_comesOf [(0, .aload_n 0, 1), (1, .iload_n 1, 1), (2, .aload_n 0, 1), (3, .getfield 7, 3), (6, .bipush 7, 2), (8, .iload_n 1, 1), (9, .iadd, 1), (10, .iaload, 1), (11, .invokevirtual 335, 3), (14, .aload_n 0, 1), (15, .iconst 0, 1), (16, .sipush 500, 3), (19, .bipush 50, 2), (21, .aload_n 0, 1), (22, .getfield 74, 3), (25, .iconst 1, 1), (26, .iaload, 1), (27, .imul, 1), (28, .iadd, 1), (29, .sipush 1000, 3), (32, .invokevirtual 347, 3), (35, .ireturn, 1)] = true := by decide +kernel
theorem dX12_comesOf_0 : decode cX12_comesOf 0 = .ok (.aload_n 0, 1) := dk_get dk_d04_472 0 rfl
theorem dX12_comesOf_1 : decode cX12_comesOf 1 = .ok (.iload_n 1, 1) := dk_get dk_d04_472 1 rfl
theorem dX12_comesOf_2 : decode cX12_comesOf 2 = .ok (.aload_n 0, 1) := dk_get dk_d04_472 2 rfl
theorem dX12_comesOf_3 : decode cX12_comesOf 3 = .ok (.getfield 7, 3) := dk_get dk_d04_472 3 rfl
theorem dX12_comesOf_6 : decode cX12_comesOf 6 = .ok (.bipush 7, 2) := dk_get dk_d04_472 4 rfl
theorem dX12_comesOf_8 : decode cX12_comesOf 8 = .ok (.iload_n 1, 1) := dk_get dk_d04_472 5 rfl
theorem dX12_comesOf_9 : decode cX12_comesOf 9 = .ok (.iadd, 1) := dk_get dk_d04_472 6 rfl
theorem dX12_comesOf_10 : decode cX12_comesOf 10 = .ok (.iaload, 1) := dk_get dk_d04_472 7 rfl
theorem dX12_comesOf_11 : decode cX12_comesOf 11 = .ok (.invokevirtual 335, 3) := dk_get dk_d04_472 8 rfl
theorem dX12_comesOf_14 : decode cX12_comesOf 14 = .ok (.aload_n 0, 1) := dk_get dk_d04_472 9 rfl
theorem dX12_comesOf_15 : decode cX12_comesOf 15 = .ok (.iconst 0, 1) := dk_get dk_d04_472 10 rfl
theorem dX12_comesOf_16 : decode cX12_comesOf 16 = .ok (.sipush 500, 3) := dk_get dk_d04_472 11 rfl
theorem dX12_comesOf_19 : decode cX12_comesOf 19 = .ok (.bipush 50, 2) := dk_get dk_d04_472 12 rfl
theorem dX12_comesOf_21 : decode cX12_comesOf 21 = .ok (.aload_n 0, 1) := dk_get dk_d04_472 13 rfl
theorem dX12_comesOf_22 : decode cX12_comesOf 22 = .ok (.getfield 74, 3) := dk_get dk_d04_472 14 rfl
theorem dX12_comesOf_25 : decode cX12_comesOf 25 = .ok (.iconst 1, 1) := dk_get dk_d04_472 15 rfl
theorem dX12_comesOf_26 : decode cX12_comesOf 26 = .ok (.iaload, 1) := dk_get dk_d04_472 16 rfl
theorem dX12_comesOf_27 : decode cX12_comesOf 27 = .ok (.imul, 1) := dk_get dk_d04_472 17 rfl
theorem dX12_comesOf_28 : decode cX12_comesOf 28 = .ok (.iadd, 1) := dk_get dk_d04_472 18 rfl
theorem dX12_comesOf_29 : decode cX12_comesOf 29 = .ok (.sipush 1000, 3) := dk_get dk_d04_472 19 rfl
theorem dX12_comesOf_32 : decode cX12_comesOf 32 = .ok (.invokevirtual 347, 3) := dk_get dk_d04_472 20 rfl
theorem dX12_comesOf_35 : decode cX12_comesOf 35 = .ok (.ireturn, 1) := dk_get dk_d04_472 21 rfl
theorem dk_d04_473 : dkc cX12_meltsOf [(0, .aload_n 0, 1), (1, .iload_n 1, 1), (2, .invokevirtual 350, 3), (5, .aload_n 0, 1), (6, .iconst 1, 1), (7, .bipush 100, 2), (9, .aload_n 0, 1), (10, .getfield 74, 3), (13, .iconst 4, 1), (14, .iaload, 1), (15, .imul, 1), (16, .bipush 50, 2), (18, .aload_n 0, 1), (19, .getfield 74, 3), (22, .iconst 3, 1), (23, .iaload, 1), (24, .imul, 1), (25, .isub, 1), (26, .sipush 1000, 3), (29, .invokevirtual 347, 3), (32, .ireturn, 1)] = true := by decide +kernel
theorem dX12_meltsOf_0 : decode cX12_meltsOf 0 = .ok (.aload_n 0, 1) := dk_get dk_d04_473 0 rfl
theorem dX12_meltsOf_1 : decode cX12_meltsOf 1 = .ok (.iload_n 1, 1) := dk_get dk_d04_473 1 rfl
theorem dX12_meltsOf_2 : decode cX12_meltsOf 2 = .ok (.invokevirtual 350, 3) := dk_get dk_d04_473 2 rfl
theorem dX12_meltsOf_5 : decode cX12_meltsOf 5 = .ok (.aload_n 0, 1) := dk_get dk_d04_473 3 rfl
theorem dX12_meltsOf_6 : decode cX12_meltsOf 6 = .ok (.iconst 1, 1) := dk_get dk_d04_473 4 rfl
theorem dX12_meltsOf_7 : decode cX12_meltsOf 7 = .ok (.bipush 100, 2) := dk_get dk_d04_473 5 rfl
theorem dX12_meltsOf_9 : decode cX12_meltsOf 9 = .ok (.aload_n 0, 1) := dk_get dk_d04_473 6 rfl
theorem dX12_meltsOf_10 : decode cX12_meltsOf 10 = .ok (.getfield 74, 3) := dk_get dk_d04_473 7 rfl
theorem dX12_meltsOf_13 : decode cX12_meltsOf 13 = .ok (.iconst 4, 1) := dk_get dk_d04_473 8 rfl
theorem dX12_meltsOf_14 : decode cX12_meltsOf 14 = .ok (.iaload, 1) := dk_get dk_d04_473 9 rfl
theorem dX12_meltsOf_15 : decode cX12_meltsOf 15 = .ok (.imul, 1) := dk_get dk_d04_473 10 rfl
theorem dX12_meltsOf_16 : decode cX12_meltsOf 16 = .ok (.bipush 50, 2) := dk_get dk_d04_473 11 rfl
theorem dX12_meltsOf_18 : decode cX12_meltsOf 18 = .ok (.aload_n 0, 1) := dk_get dk_d04_473 12 rfl
theorem dX12_meltsOf_19 : decode cX12_meltsOf 19 = .ok (.getfield 74, 3) := dk_get dk_d04_473 13 rfl
theorem dX12_meltsOf_22 : decode cX12_meltsOf 22 = .ok (.iconst 3, 1) := dk_get dk_d04_473 14 rfl
theorem dX12_meltsOf_23 : decode cX12_meltsOf 23 = .ok (.iaload, 1) := dk_get dk_d04_473 15 rfl
theorem dX12_meltsOf_24 : decode cX12_meltsOf 24 = .ok (.imul, 1) := dk_get dk_d04_473 16 rfl
theorem dX12_meltsOf_25 : decode cX12_meltsOf 25 = .ok (.isub, 1) := dk_get dk_d04_473 17 rfl
theorem dX12_meltsOf_26 : decode cX12_meltsOf 26 = .ok (.sipush 1000, 3) := dk_get dk_d04_473 18 rfl
theorem dX12_meltsOf_29 : decode cX12_meltsOf 29 = .ok (.invokevirtual 347, 3) := dk_get dk_d04_473 19 rfl
theorem dX12_meltsOf_32 : decode cX12_meltsOf 32 = .ok (.ireturn, 1) := dk_get dk_d04_473 20 rfl
theorem dk_d04_474 : dkc cX12_weighsOf [(0, .aload_n 0, 1), (1, .iload_n 1, 1), (2, .invokevirtual 350, 3), (5, .aload_n 0, 1), (6, .iconst 2, 1), (7, .aload_n 0, 1), (8, .getfield 74, 3), (11, .iconst 3, 1), (12, .iaload, 1), (13, .bipush 99, 2), (15, .invokevirtual 347, 3), (18, .ireturn, 1)] = true := by decide +kernel
theorem dX12_weighsOf_0 : decode cX12_weighsOf 0 = .ok (.aload_n 0, 1) := dk_get dk_d04_474 0 rfl
theorem dX12_weighsOf_1 : decode cX12_weighsOf 1 = .ok (.iload_n 1, 1) := dk_get dk_d04_474 1 rfl
theorem dX12_weighsOf_2 : decode cX12_weighsOf 2 = .ok (.invokevirtual 350, 3) := dk_get dk_d04_474 2 rfl
theorem dX12_weighsOf_5 : decode cX12_weighsOf 5 = .ok (.aload_n 0, 1) := dk_get dk_d04_474 3 rfl
theorem dX12_weighsOf_6 : decode cX12_weighsOf 6 = .ok (.iconst 2, 1) := dk_get dk_d04_474 4 rfl
theorem dX12_weighsOf_7 : decode cX12_weighsOf 7 = .ok (.aload_n 0, 1) := dk_get dk_d04_474 5 rfl
theorem dX12_weighsOf_8 : decode cX12_weighsOf 8 = .ok (.getfield 74, 3) := dk_get dk_d04_474 6 rfl
theorem dX12_weighsOf_11 : decode cX12_weighsOf 11 = .ok (.iconst 3, 1) := dk_get dk_d04_474 7 rfl
theorem dX12_weighsOf_12 : decode cX12_weighsOf 12 = .ok (.iaload, 1) := dk_get dk_d04_474 8 rfl
theorem dX12_weighsOf_13 : decode cX12_weighsOf 13 = .ok (.bipush 99, 2) := dk_get dk_d04_474 9 rfl
theorem dX12_weighsOf_15 : decode cX12_weighsOf 15 = .ok (.invokevirtual 347, 3) := dk_get dk_d04_474 10 rfl
theorem dX12_weighsOf_18 : decode cX12_weighsOf 18 = .ok (.ireturn, 1) := dk_get dk_d04_474 11 rfl
theorem dk_d04_475 : dkc cX12_sumOf [(0, .iconst 0, 1), (1, .istore_n 1, 1), (2, .iconst 0, 1), (3, .istore_n 2, 1), (4, .iload_n 2, 1), (5, .sipush 144, 3), (8, .if_icmp .ge 36, 3), (11, .aload_n 0, 1), (12, .iload_n 2, 1), (13, .invokevirtual 332, 3), (16, .ifCond .eq 22, 3), (19, .iload_n 1, 1), (20, .aload_n 0, 1), (21, .getfield 7, 3), (24, .sipush 211, 3), (27, .iload_n 2, 1), (28, .iadd, 1), (29, .iaload, 1), (30, .aload_n 0, 1), (31, .iload_n 2, 1), (32, .invokevirtual 353, 3), (35, .imul, 1), (36, .iadd, 1), (37, .istore_n 1, 1), (38, .iinc 2 1, 3)] = true := by decide +kernel
theorem dX12_sumOf_0 : decode cX12_sumOf 0 = .ok (.iconst 0, 1) := dk_get dk_d04_475 0 rfl
theorem dX12_sumOf_1 : decode cX12_sumOf 1 = .ok (.istore_n 1, 1) := dk_get dk_d04_475 1 rfl
theorem dX12_sumOf_2 : decode cX12_sumOf 2 = .ok (.iconst 0, 1) := dk_get dk_d04_475 2 rfl
theorem dX12_sumOf_3 : decode cX12_sumOf 3 = .ok (.istore_n 2, 1) := dk_get dk_d04_475 3 rfl
theorem dX12_sumOf_4 : decode cX12_sumOf 4 = .ok (.iload_n 2, 1) := dk_get dk_d04_475 4 rfl
theorem dX12_sumOf_5 : decode cX12_sumOf 5 = .ok (.sipush 144, 3) := dk_get dk_d04_475 5 rfl
theorem dX12_sumOf_8 : decode cX12_sumOf 8 = .ok (.if_icmp .ge 36, 3) := dk_get dk_d04_475 6 rfl
theorem dX12_sumOf_11 : decode cX12_sumOf 11 = .ok (.aload_n 0, 1) := dk_get dk_d04_475 7 rfl
theorem dX12_sumOf_12 : decode cX12_sumOf 12 = .ok (.iload_n 2, 1) := dk_get dk_d04_475 8 rfl
theorem dX12_sumOf_13 : decode cX12_sumOf 13 = .ok (.invokevirtual 332, 3) := dk_get dk_d04_475 9 rfl
theorem dX12_sumOf_16 : decode cX12_sumOf 16 = .ok (.ifCond .eq 22, 3) := dk_get dk_d04_475 10 rfl
theorem dX12_sumOf_19 : decode cX12_sumOf 19 = .ok (.iload_n 1, 1) := dk_get dk_d04_475 11 rfl
theorem dX12_sumOf_20 : decode cX12_sumOf 20 = .ok (.aload_n 0, 1) := dk_get dk_d04_475 12 rfl
theorem dX12_sumOf_21 : decode cX12_sumOf 21 = .ok (.getfield 7, 3) := dk_get dk_d04_475 13 rfl
theorem dX12_sumOf_24 : decode cX12_sumOf 24 = .ok (.sipush 211, 3) := dk_get dk_d04_475 14 rfl
theorem dX12_sumOf_27 : decode cX12_sumOf 27 = .ok (.iload_n 2, 1) := dk_get dk_d04_475 15 rfl
theorem dX12_sumOf_28 : decode cX12_sumOf 28 = .ok (.iadd, 1) := dk_get dk_d04_475 16 rfl
theorem dX12_sumOf_29 : decode cX12_sumOf 29 = .ok (.iaload, 1) := dk_get dk_d04_475 17 rfl
theorem dX12_sumOf_30 : decode cX12_sumOf 30 = .ok (.aload_n 0, 1) := dk_get dk_d04_475 18 rfl
theorem dX12_sumOf_31 : decode cX12_sumOf 31 = .ok (.iload_n 2, 1) := dk_get dk_d04_475 19 rfl
theorem dX12_sumOf_32 : decode cX12_sumOf 32 = .ok (.invokevirtual 353, 3) := dk_get dk_d04_475 20 rfl
theorem dX12_sumOf_35 : decode cX12_sumOf 35 = .ok (.imul, 1) := dk_get dk_d04_475 21 rfl
theorem dX12_sumOf_36 : decode cX12_sumOf 36 = .ok (.iadd, 1) := dk_get dk_d04_475 22 rfl
theorem dX12_sumOf_37 : decode cX12_sumOf 37 = .ok (.istore_n 1, 1) := dk_get dk_d04_475 23 rfl
theorem dX12_sumOf_38 : decode cX12_sumOf 38 = .ok (.iinc 2 1, 3) := dk_get dk_d04_475 24 rfl
theorem dk_d04_476 : dkc cX12_sumOf [(41, .goto (-37), 3), (44, .iload_n 1, 1), (45, .ireturn, 1)] = true := by decide +kernel
theorem dX12_sumOf_41 : decode cX12_sumOf 41 = .ok (.goto (-37), 3) := dk_get dk_d04_476 0 rfl
theorem dX12_sumOf_44 : decode cX12_sumOf 44 = .ok (.iload_n 1, 1) := dk_get dk_d04_476 1 rfl
theorem dX12_sumOf_45 : decode cX12_sumOf 45 = .ok (.ireturn, 1) := dk_get dk_d04_476 2 rfl
theorem dk_d04_477 : dkc cX12_notes [(0, .aload_n 0, 1), (1, .getfield 146, 3), (4, .ifCond .ne 15, 3), (7, .aload_n 0, 1), (8, .getfield 7, 3), (11, .iconst 3, 1), (12, .iaload, 1), (13, .sipush 150, 3), (16, .if_icmp .ne 4, 3), (19, .return_, 1), (20, .iconst 5, 1), (21, .aload_n 0, 1), (22, .getfield 7, 3), (25, .iconst 3, 1), (26, .iaload, 1), (27, .imul, 1), (28, .istore 4, 2), (30, .aload_n 0, 1), (31, .getfield 28, 3), (34, .iload 4, 2), (36, .aload_n 0, 1), (37, .getfield 7, 3), (40, .iconst 0, 1), (41, .iaload, 1), (42, .iastore, 1)] = true := by decide +kernel
theorem dX12_notes_0 : decode cX12_notes 0 = .ok (.aload_n 0, 1) := dk_get dk_d04_477 0 rfl
theorem dX12_notes_1 : decode cX12_notes 1 = .ok (.getfield 146, 3) := dk_get dk_d04_477 1 rfl
theorem dX12_notes_4 : decode cX12_notes 4 = .ok (.ifCond .ne 15, 3) := dk_get dk_d04_477 2 rfl
theorem dX12_notes_7 : decode cX12_notes 7 = .ok (.aload_n 0, 1) := dk_get dk_d04_477 3 rfl
theorem dX12_notes_8 : decode cX12_notes 8 = .ok (.getfield 7, 3) := dk_get dk_d04_477 4 rfl
theorem dX12_notes_11 : decode cX12_notes 11 = .ok (.iconst 3, 1) := dk_get dk_d04_477 5 rfl
theorem dX12_notes_12 : decode cX12_notes 12 = .ok (.iaload, 1) := dk_get dk_d04_477 6 rfl
theorem dX12_notes_13 : decode cX12_notes 13 = .ok (.sipush 150, 3) := dk_get dk_d04_477 7 rfl
theorem dX12_notes_16 : decode cX12_notes 16 = .ok (.if_icmp .ne 4, 3) := dk_get dk_d04_477 8 rfl
theorem dX12_notes_19 : decode cX12_notes 19 = .ok (.return_, 1) := dk_get dk_d04_477 9 rfl
theorem dX12_notes_20 : decode cX12_notes 20 = .ok (.iconst 5, 1) := dk_get dk_d04_477 10 rfl
theorem dX12_notes_21 : decode cX12_notes 21 = .ok (.aload_n 0, 1) := dk_get dk_d04_477 11 rfl
theorem dX12_notes_22 : decode cX12_notes 22 = .ok (.getfield 7, 3) := dk_get dk_d04_477 12 rfl
theorem dX12_notes_25 : decode cX12_notes 25 = .ok (.iconst 3, 1) := dk_get dk_d04_477 13 rfl
theorem dX12_notes_26 : decode cX12_notes 26 = .ok (.iaload, 1) := dk_get dk_d04_477 14 rfl
theorem dX12_notes_27 : decode cX12_notes 27 = .ok (.imul, 1) := dk_get dk_d04_477 15 rfl
theorem dX12_notes_28 : decode cX12_notes 28 = .ok (.istore 4, 2) := dk_get dk_d04_477 16 rfl
theorem dX12_notes_30 : decode cX12_notes 30 = .ok (.aload_n 0, 1) := dk_get dk_d04_477 17 rfl
theorem dX12_notes_31 : decode cX12_notes 31 = .ok (.getfield 28, 3) := dk_get dk_d04_477 18 rfl
theorem dX12_notes_34 : decode cX12_notes 34 = .ok (.iload 4, 2) := dk_get dk_d04_477 19 rfl
theorem dX12_notes_36 : decode cX12_notes 36 = .ok (.aload_n 0, 1) := dk_get dk_d04_477 20 rfl
theorem dX12_notes_37 : decode cX12_notes 37 = .ok (.getfield 7, 3) := dk_get dk_d04_477 21 rfl
theorem dX12_notes_40 : decode cX12_notes 40 = .ok (.iconst 0, 1) := dk_get dk_d04_477 22 rfl
theorem dX12_notes_41 : decode cX12_notes 41 = .ok (.iaload, 1) := dk_get dk_d04_477 23 rfl
theorem dX12_notes_42 : decode cX12_notes 42 = .ok (.iastore, 1) := dk_get dk_d04_477 24 rfl
theorem dk_d04_478 : dkc cX12_notes [(43, .aload_n 0, 1), (44, .getfield 28, 3), (47, .iload 4, 2), (49, .iconst 1, 1), (50, .iadd, 1), (51, .aload_n 0, 1), (52, .getfield 7, 3), (55, .iconst 1, 1), (56, .iaload, 1), (57, .iastore, 1), (58, .aload_n 0, 1), (59, .getfield 28, 3), (62, .iload 4, 2), (64, .iconst 2, 1), (65, .iadd, 1), (66, .iload_n 1, 1), (67, .iastore, 1), (68, .aload_n 0, 1), (69, .getfield 28, 3), (72, .iload 4, 2), (74, .iconst 3, 1), (75, .iadd, 1), (76, .iload_n 2, 1), (77, .iastore, 1), (78, .aload_n 0, 1)] = true := by decide +kernel
theorem dX12_notes_43 : decode cX12_notes 43 = .ok (.aload_n 0, 1) := dk_get dk_d04_478 0 rfl
theorem dX12_notes_44 : decode cX12_notes 44 = .ok (.getfield 28, 3) := dk_get dk_d04_478 1 rfl
theorem dX12_notes_47 : decode cX12_notes 47 = .ok (.iload 4, 2) := dk_get dk_d04_478 2 rfl
theorem dX12_notes_49 : decode cX12_notes 49 = .ok (.iconst 1, 1) := dk_get dk_d04_478 3 rfl
theorem dX12_notes_50 : decode cX12_notes 50 = .ok (.iadd, 1) := dk_get dk_d04_478 4 rfl
theorem dX12_notes_51 : decode cX12_notes 51 = .ok (.aload_n 0, 1) := dk_get dk_d04_478 5 rfl
theorem dX12_notes_52 : decode cX12_notes 52 = .ok (.getfield 7, 3) := dk_get dk_d04_478 6 rfl
theorem dX12_notes_55 : decode cX12_notes 55 = .ok (.iconst 1, 1) := dk_get dk_d04_478 7 rfl
theorem dX12_notes_56 : decode cX12_notes 56 = .ok (.iaload, 1) := dk_get dk_d04_478 8 rfl
theorem dX12_notes_57 : decode cX12_notes 57 = .ok (.iastore, 1) := dk_get dk_d04_478 9 rfl
theorem dX12_notes_58 : decode cX12_notes 58 = .ok (.aload_n 0, 1) := dk_get dk_d04_478 10 rfl
theorem dX12_notes_59 : decode cX12_notes 59 = .ok (.getfield 28, 3) := dk_get dk_d04_478 11 rfl
theorem dX12_notes_62 : decode cX12_notes 62 = .ok (.iload 4, 2) := dk_get dk_d04_478 12 rfl
theorem dX12_notes_64 : decode cX12_notes 64 = .ok (.iconst 2, 1) := dk_get dk_d04_478 13 rfl
theorem dX12_notes_65 : decode cX12_notes 65 = .ok (.iadd, 1) := dk_get dk_d04_478 14 rfl
theorem dX12_notes_66 : decode cX12_notes 66 = .ok (.iload_n 1, 1) := dk_get dk_d04_478 15 rfl
theorem dX12_notes_67 : decode cX12_notes 67 = .ok (.iastore, 1) := dk_get dk_d04_478 16 rfl
theorem dX12_notes_68 : decode cX12_notes 68 = .ok (.aload_n 0, 1) := dk_get dk_d04_478 17 rfl
theorem dX12_notes_69 : decode cX12_notes 69 = .ok (.getfield 28, 3) := dk_get dk_d04_478 18 rfl
theorem dX12_notes_72 : decode cX12_notes 72 = .ok (.iload 4, 2) := dk_get dk_d04_478 19 rfl
theorem dX12_notes_74 : decode cX12_notes 74 = .ok (.iconst 3, 1) := dk_get dk_d04_478 20 rfl
theorem dX12_notes_75 : decode cX12_notes 75 = .ok (.iadd, 1) := dk_get dk_d04_478 21 rfl
theorem dX12_notes_76 : decode cX12_notes 76 = .ok (.iload_n 2, 1) := dk_get dk_d04_478 22 rfl
theorem dX12_notes_77 : decode cX12_notes 77 = .ok (.iastore, 1) := dk_get dk_d04_478 23 rfl
theorem dX12_notes_78 : decode cX12_notes 78 = .ok (.aload_n 0, 1) := dk_get dk_d04_478 24 rfl
theorem dk_d04_479 : dkc cX12_notes [(79, .getfield 28, 3), (82, .iload 4, 2), (84, .iconst 4, 1), (85, .iadd, 1), (86, .iload_n 3, 1), (87, .iastore, 1), (88, .aload_n 0, 1), (89, .getfield 7, 3), (92, .iconst 3, 1), (93, .aload_n 0, 1), (94, .getfield 7, 3), (97, .iconst 3, 1), (98, .iaload, 1), (99, .iconst 1, 1), (100, .iadd, 1), (101, .iastore, 1), (102, .return_, 1)] = true := by decide +kernel
theorem dX12_notes_79 : decode cX12_notes 79 = .ok (.getfield 28, 3) := dk_get dk_d04_479 0 rfl
theorem dX12_notes_82 : decode cX12_notes 82 = .ok (.iload 4, 2) := dk_get dk_d04_479 1 rfl
theorem dX12_notes_84 : decode cX12_notes 84 = .ok (.iconst 4, 1) := dk_get dk_d04_479 2 rfl
theorem dX12_notes_85 : decode cX12_notes 85 = .ok (.iadd, 1) := dk_get dk_d04_479 3 rfl
theorem dX12_notes_86 : decode cX12_notes 86 = .ok (.iload_n 3, 1) := dk_get dk_d04_479 4 rfl
theorem dX12_notes_87 : decode cX12_notes 87 = .ok (.iastore, 1) := dk_get dk_d04_479 5 rfl
theorem dX12_notes_88 : decode cX12_notes 88 = .ok (.aload_n 0, 1) := dk_get dk_d04_479 6 rfl
theorem dX12_notes_89 : decode cX12_notes 89 = .ok (.getfield 7, 3) := dk_get dk_d04_479 7 rfl
theorem dX12_notes_92 : decode cX12_notes 92 = .ok (.iconst 3, 1) := dk_get dk_d04_479 8 rfl
theorem dX12_notes_93 : decode cX12_notes 93 = .ok (.aload_n 0, 1) := dk_get dk_d04_479 9 rfl
theorem dX12_notes_94 : decode cX12_notes 94 = .ok (.getfield 7, 3) := dk_get dk_d04_479 10 rfl
theorem dX12_notes_97 : decode cX12_notes 97 = .ok (.iconst 3, 1) := dk_get dk_d04_479 11 rfl
theorem dX12_notes_98 : decode cX12_notes 98 = .ok (.iaload, 1) := dk_get dk_d04_479 12 rfl
theorem dX12_notes_99 : decode cX12_notes 99 = .ok (.iconst 1, 1) := dk_get dk_d04_479 13 rfl
theorem dX12_notes_100 : decode cX12_notes 100 = .ok (.iadd, 1) := dk_get dk_d04_479 14 rfl
theorem dX12_notes_101 : decode cX12_notes 101 = .ok (.iastore, 1) := dk_get dk_d04_479 15 rfl
theorem dX12_notes_102 : decode cX12_notes 102 = .ok (.return_, 1) := dk_get dk_d04_479 16 rfl
theorem dk_d04_480 : dkc cX12_isBare [(0, .aload_n 0, 1), (1, .getfield 7, 3), (4, .bipush 67, 2), (6, .iload_n 1, 1), (7, .iadd, 1), (8, .iconst 0, 1), (9, .iastore, 1), (10, .aload_n 0, 1), (11, .getfield 7, 3), (14, .sipush 211, 3), (17, .iload_n 1, 1), (18, .iadd, 1), (19, .iconst 0, 1), (20, .iastore, 1), (21, .aload_n 0, 1), (22, .getfield 7, 3), (25, .sipush 355, 3), (28, .iload_n 1, 1), (29, .iadd, 1), (30, .iconst 0, 1), (31, .iastore, 1), (32, .return_, 1)] = true := by decide +kernel
theorem dX12_isBare_0 : decode cX12_isBare 0 = .ok (.aload_n 0, 1) := dk_get dk_d04_480 0 rfl
theorem dX12_isBare_1 : decode cX12_isBare 1 = .ok (.getfield 7, 3) := dk_get dk_d04_480 1 rfl
theorem dX12_isBare_4 : decode cX12_isBare 4 = .ok (.bipush 67, 2) := dk_get dk_d04_480 2 rfl
theorem dX12_isBare_6 : decode cX12_isBare 6 = .ok (.iload_n 1, 1) := dk_get dk_d04_480 3 rfl
theorem dX12_isBare_7 : decode cX12_isBare 7 = .ok (.iadd, 1) := dk_get dk_d04_480 4 rfl
theorem dX12_isBare_8 : decode cX12_isBare 8 = .ok (.iconst 0, 1) := dk_get dk_d04_480 5 rfl
theorem dX12_isBare_9 : decode cX12_isBare 9 = .ok (.iastore, 1) := dk_get dk_d04_480 6 rfl
theorem dX12_isBare_10 : decode cX12_isBare 10 = .ok (.aload_n 0, 1) := dk_get dk_d04_480 7 rfl
theorem dX12_isBare_11 : decode cX12_isBare 11 = .ok (.getfield 7, 3) := dk_get dk_d04_480 8 rfl
theorem dX12_isBare_14 : decode cX12_isBare 14 = .ok (.sipush 211, 3) := dk_get dk_d04_480 9 rfl
theorem dX12_isBare_17 : decode cX12_isBare 17 = .ok (.iload_n 1, 1) := dk_get dk_d04_480 10 rfl
theorem dX12_isBare_18 : decode cX12_isBare 18 = .ok (.iadd, 1) := dk_get dk_d04_480 11 rfl
theorem dX12_isBare_19 : decode cX12_isBare 19 = .ok (.iconst 0, 1) := dk_get dk_d04_480 12 rfl
theorem dX12_isBare_20 : decode cX12_isBare 20 = .ok (.iastore, 1) := dk_get dk_d04_480 13 rfl
theorem dX12_isBare_21 : decode cX12_isBare 21 = .ok (.aload_n 0, 1) := dk_get dk_d04_480 14 rfl
theorem dX12_isBare_22 : decode cX12_isBare 22 = .ok (.getfield 7, 3) := dk_get dk_d04_480 15 rfl
theorem dX12_isBare_25 : decode cX12_isBare 25 = .ok (.sipush 355, 3) := dk_get dk_d04_480 16 rfl
theorem dX12_isBare_28 : decode cX12_isBare 28 = .ok (.iload_n 1, 1) := dk_get dk_d04_480 17 rfl
theorem dX12_isBare_29 : decode cX12_isBare 29 = .ok (.iadd, 1) := dk_get dk_d04_480 18 rfl
theorem dX12_isBare_30 : decode cX12_isBare 30 = .ok (.iconst 0, 1) := dk_get dk_d04_480 19 rfl
theorem dX12_isBare_31 : decode cX12_isBare 31 = .ok (.iastore, 1) := dk_get dk_d04_480 20 rfl
theorem dX12_isBare_32 : decode cX12_isBare 32 = .ok (.return_, 1) := dk_get dk_d04_480 21 rfl
theorem dk_d04_481 : dkc cX12_isLifted [(0, .aload_n 0, 1), (1, .iload_n 1, 1), (2, .invokevirtual 332, 3), (5, .ifCond .ne 4, 3), (8, .return_, 1), (9, .aload_n 0, 1), (10, .iconst 3, 1), (11, .aload_n 0, 1), (12, .getfield 7, 3), (15, .bipush 67, 2), (17, .iload_n 1, 1), (18, .iadd, 1), (19, .iaload, 1), (20, .iconst 1, 1), (21, .isub, 1), (22, .iload_n 1, 1), (23, .invokevirtual 356, 3), (26, .aload_n 0, 1), (27, .iload_n 1, 1), (28, .invokevirtual 360, 3), (31, .return_, 1)] = true := by decide +kernel
theorem dX12_isLifted_0 : decode cX12_isLifted 0 = .ok (.aload_n 0, 1) := dk_get dk_d04_481 0 rfl
theorem dX12_isLifted_1 : decode cX12_isLifted 1 = .ok (.iload_n 1, 1) := dk_get dk_d04_481 1 rfl
theorem dX12_isLifted_2 : decode cX12_isLifted 2 = .ok (.invokevirtual 332, 3) := dk_get dk_d04_481 2 rfl
theorem dX12_isLifted_5 : decode cX12_isLifted 5 = .ok (.ifCond .ne 4, 3) := dk_get dk_d04_481 3 rfl
theorem dX12_isLifted_8 : decode cX12_isLifted 8 = .ok (.return_, 1) := dk_get dk_d04_481 4 rfl
theorem dX12_isLifted_9 : decode cX12_isLifted 9 = .ok (.aload_n 0, 1) := dk_get dk_d04_481 5 rfl
theorem dX12_isLifted_10 : decode cX12_isLifted 10 = .ok (.iconst 3, 1) := dk_get dk_d04_481 6 rfl
theorem dX12_isLifted_11 : decode cX12_isLifted 11 = .ok (.aload_n 0, 1) := dk_get dk_d04_481 7 rfl
theorem dX12_isLifted_12 : decode cX12_isLifted 12 = .ok (.getfield 7, 3) := dk_get dk_d04_481 8 rfl
theorem dX12_isLifted_15 : decode cX12_isLifted 15 = .ok (.bipush 67, 2) := dk_get dk_d04_481 9 rfl
theorem dX12_isLifted_17 : decode cX12_isLifted 17 = .ok (.iload_n 1, 1) := dk_get dk_d04_481 10 rfl
theorem dX12_isLifted_18 : decode cX12_isLifted 18 = .ok (.iadd, 1) := dk_get dk_d04_481 11 rfl
theorem dX12_isLifted_19 : decode cX12_isLifted 19 = .ok (.iaload, 1) := dk_get dk_d04_481 12 rfl
theorem dX12_isLifted_20 : decode cX12_isLifted 20 = .ok (.iconst 1, 1) := dk_get dk_d04_481 13 rfl
theorem dX12_isLifted_21 : decode cX12_isLifted 21 = .ok (.isub, 1) := dk_get dk_d04_481 14 rfl
theorem dX12_isLifted_22 : decode cX12_isLifted 22 = .ok (.iload_n 1, 1) := dk_get dk_d04_481 15 rfl
theorem dX12_isLifted_23 : decode cX12_isLifted 23 = .ok (.invokevirtual 356, 3) := dk_get dk_d04_481 16 rfl
theorem dX12_isLifted_26 : decode cX12_isLifted 26 = .ok (.aload_n 0, 1) := dk_get dk_d04_481 17 rfl
theorem dX12_isLifted_27 : decode cX12_isLifted 27 = .ok (.iload_n 1, 1) := dk_get dk_d04_481 18 rfl
theorem dX12_isLifted_28 : decode cX12_isLifted 28 = .ok (.invokevirtual 360, 3) := dk_get dk_d04_481 19 rfl
theorem dX12_isLifted_31 : decode cX12_isLifted 31 = .ok (.return_, 1) := dk_get dk_d04_481 20 rfl
theorem dk_d04_482 : dkc cX12_canPress [(0, .aload_n 0, 1), (1, .getfield 7, 3), (4, .bipush 27, 2), (6, .iload_n 1, 1), (7, .iadd, 1), (8, .iaload, 1), (9, .ifCond .ne 19, 3), (12, .aload_n 0, 1), (13, .getfield 7, 3), (16, .bipush 7, 2), (18, .iload_n 1, 1), (19, .iadd, 1), (20, .iaload, 1), (21, .ifCond .eq 7, 3), (24, .iconst 1, 1), (25, .goto 4, 3), (28, .iconst 0, 1), (29, .ireturn, 1)] = true := by decide +kernel
theorem dX12_canPress_0 : decode cX12_canPress 0 = .ok (.aload_n 0, 1) := dk_get dk_d04_482 0 rfl
theorem dX12_canPress_1 : decode cX12_canPress 1 = .ok (.getfield 7, 3) := dk_get dk_d04_482 1 rfl
theorem dX12_canPress_4 : decode cX12_canPress 4 = .ok (.bipush 27, 2) := dk_get dk_d04_482 2 rfl
theorem dX12_canPress_6 : decode cX12_canPress 6 = .ok (.iload_n 1, 1) := dk_get dk_d04_482 3 rfl
theorem dX12_canPress_7 : decode cX12_canPress 7 = .ok (.iadd, 1) := dk_get dk_d04_482 4 rfl
theorem dX12_canPress_8 : decode cX12_canPress 8 = .ok (.iaload, 1) := dk_get dk_d04_482 5 rfl
theorem dX12_canPress_9 : decode cX12_canPress 9 = .ok (.ifCond .ne 19, 3) := dk_get dk_d04_482 6 rfl
theorem dX12_canPress_12 : decode cX12_canPress 12 = .ok (.aload_n 0, 1) := dk_get dk_d04_482 7 rfl
theorem dX12_canPress_13 : decode cX12_canPress 13 = .ok (.getfield 7, 3) := dk_get dk_d04_482 8 rfl
theorem dX12_canPress_16 : decode cX12_canPress 16 = .ok (.bipush 7, 2) := dk_get dk_d04_482 9 rfl
theorem dX12_canPress_18 : decode cX12_canPress 18 = .ok (.iload_n 1, 1) := dk_get dk_d04_482 10 rfl
theorem dX12_canPress_19 : decode cX12_canPress 19 = .ok (.iadd, 1) := dk_get dk_d04_482 11 rfl
theorem dX12_canPress_20 : decode cX12_canPress 20 = .ok (.iaload, 1) := dk_get dk_d04_482 12 rfl
theorem dX12_canPress_21 : decode cX12_canPress 21 = .ok (.ifCond .eq 7, 3) := dk_get dk_d04_482 13 rfl
theorem dX12_canPress_24 : decode cX12_canPress 24 = .ok (.iconst 1, 1) := dk_get dk_d04_482 14 rfl
theorem dX12_canPress_25 : decode cX12_canPress 25 = .ok (.goto 4, 3) := dk_get dk_d04_482 15 rfl
theorem dX12_canPress_28 : decode cX12_canPress 28 = .ok (.iconst 0, 1) := dk_get dk_d04_482 16 rfl
theorem dX12_canPress_29 : decode cX12_canPress 29 = .ok (.ireturn, 1) := dk_get dk_d04_482 17 rfl
theorem dk_d04_483 : dkc cX12_presses [(0, .iconst 0, 1), (1, .istore_n 3, 1), (2, .iload_n 3, 1), (3, .aload_n 0, 1), (4, .getfield 22, 3), (7, .iload_n 1, 1), (8, .iaload, 1), (9, .if_icmp .ge 23, 3), (12, .aload_n 0, 1), (13, .bipush 12, 2), (15, .iload_n 3, 1), (16, .imul, 1), (17, .iload_n 2, 1), (18, .iadd, 1), (19, .invokevirtual 332, 3), (22, .ifCond .eq 10, 3), (25, .iload_n 3, 1), (26, .iconst 1, 1), (27, .iadd, 1), (28, .istore_n 3, 1), (29, .goto (-27), 3), (32, .bipush 12, 2), (34, .iload_n 3, 1), (35, .imul, 1), (36, .iload_n 2, 1)] = true := by decide +kernel
theorem dX12_presses_0 : decode cX12_presses 0 = .ok (.iconst 0, 1) := dk_get dk_d04_483 0 rfl
theorem dX12_presses_1 : decode cX12_presses 1 = .ok (.istore_n 3, 1) := dk_get dk_d04_483 1 rfl
theorem dX12_presses_2 : decode cX12_presses 2 = .ok (.iload_n 3, 1) := dk_get dk_d04_483 2 rfl
theorem dX12_presses_3 : decode cX12_presses 3 = .ok (.aload_n 0, 1) := dk_get dk_d04_483 3 rfl
theorem dX12_presses_4 : decode cX12_presses 4 = .ok (.getfield 22, 3) := dk_get dk_d04_483 4 rfl
theorem dX12_presses_7 : decode cX12_presses 7 = .ok (.iload_n 1, 1) := dk_get dk_d04_483 5 rfl
theorem dX12_presses_8 : decode cX12_presses 8 = .ok (.iaload, 1) := dk_get dk_d04_483 6 rfl
theorem dX12_presses_9 : decode cX12_presses 9 = .ok (.if_icmp .ge 23, 3) := dk_get dk_d04_483 7 rfl
theorem dX12_presses_12 : decode cX12_presses 12 = .ok (.aload_n 0, 1) := dk_get dk_d04_483 8 rfl
theorem dX12_presses_13 : decode cX12_presses 13 = .ok (.bipush 12, 2) := dk_get dk_d04_483 9 rfl
theorem dX12_presses_15 : decode cX12_presses 15 = .ok (.iload_n 3, 1) := dk_get dk_d04_483 10 rfl
theorem dX12_presses_16 : decode cX12_presses 16 = .ok (.imul, 1) := dk_get dk_d04_483 11 rfl
theorem dX12_presses_17 : decode cX12_presses 17 = .ok (.iload_n 2, 1) := dk_get dk_d04_483 12 rfl
theorem dX12_presses_18 : decode cX12_presses 18 = .ok (.iadd, 1) := dk_get dk_d04_483 13 rfl
theorem dX12_presses_19 : decode cX12_presses 19 = .ok (.invokevirtual 332, 3) := dk_get dk_d04_483 14 rfl
theorem dX12_presses_22 : decode cX12_presses 22 = .ok (.ifCond .eq 10, 3) := dk_get dk_d04_483 15 rfl
theorem dX12_presses_25 : decode cX12_presses 25 = .ok (.iload_n 3, 1) := dk_get dk_d04_483 16 rfl
theorem dX12_presses_26 : decode cX12_presses 26 = .ok (.iconst 1, 1) := dk_get dk_d04_483 17 rfl
theorem dX12_presses_27 : decode cX12_presses 27 = .ok (.iadd, 1) := dk_get dk_d04_483 18 rfl
theorem dX12_presses_28 : decode cX12_presses 28 = .ok (.istore_n 3, 1) := dk_get dk_d04_483 19 rfl
theorem dX12_presses_29 : decode cX12_presses 29 = .ok (.goto (-27), 3) := dk_get dk_d04_483 20 rfl
theorem dX12_presses_32 : decode cX12_presses 32 = .ok (.bipush 12, 2) := dk_get dk_d04_483 21 rfl
theorem dX12_presses_34 : decode cX12_presses 34 = .ok (.iload_n 3, 1) := dk_get dk_d04_483 22 rfl
theorem dX12_presses_35 : decode cX12_presses 35 = .ok (.imul, 1) := dk_get dk_d04_483 23 rfl
theorem dX12_presses_36 : decode cX12_presses 36 = .ok (.iload_n 2, 1) := dk_get dk_d04_483 24 rfl
theorem dk_d04_484 : dkc cX12_presses [(37, .iadd, 1), (38, .istore 4, 2), (40, .aload_n 0, 1), (41, .aload_n 0, 1), (42, .iload 4, 2), (44, .invokevirtual 332, 3), (47, .ifCond .eq 7, 3), (50, .iconst 1, 1), (51, .goto 4, 3), (54, .iconst 0, 1), (55, .iload_n 1, 1), (56, .iload 4, 2), (58, .invokevirtual 356, 3), (61, .aload_n 0, 1), (62, .getfield 7, 3), (65, .bipush 67, 2), (67, .iload 4, 2), (69, .iadd, 1), (70, .iload_n 1, 1), (71, .iconst 1, 1), (72, .iadd, 1), (73, .iastore, 1), (74, .aload_n 0, 1), (75, .getfield 7, 3), (78, .sipush 211, 3)] = true := by decide +kernel
theorem dX12_presses_37 : decode cX12_presses 37 = .ok (.iadd, 1) := dk_get dk_d04_484 0 rfl
theorem dX12_presses_38 : decode cX12_presses 38 = .ok (.istore 4, 2) := dk_get dk_d04_484 1 rfl
theorem dX12_presses_40 : decode cX12_presses 40 = .ok (.aload_n 0, 1) := dk_get dk_d04_484 2 rfl
theorem dX12_presses_41 : decode cX12_presses 41 = .ok (.aload_n 0, 1) := dk_get dk_d04_484 3 rfl
theorem dX12_presses_42 : decode cX12_presses 42 = .ok (.iload 4, 2) := dk_get dk_d04_484 4 rfl
theorem dX12_presses_44 : decode cX12_presses 44 = .ok (.invokevirtual 332, 3) := dk_get dk_d04_484 5 rfl
theorem dX12_presses_47 : decode cX12_presses 47 = .ok (.ifCond .eq 7, 3) := dk_get dk_d04_484 6 rfl
theorem dX12_presses_50 : decode cX12_presses 50 = .ok (.iconst 1, 1) := dk_get dk_d04_484 7 rfl
theorem dX12_presses_51 : decode cX12_presses 51 = .ok (.goto 4, 3) := dk_get dk_d04_484 8 rfl
theorem dX12_presses_54 : decode cX12_presses 54 = .ok (.iconst 0, 1) := dk_get dk_d04_484 9 rfl
theorem dX12_presses_55 : decode cX12_presses 55 = .ok (.iload_n 1, 1) := dk_get dk_d04_484 10 rfl
theorem dX12_presses_56 : decode cX12_presses 56 = .ok (.iload 4, 2) := dk_get dk_d04_484 11 rfl
theorem dX12_presses_58 : decode cX12_presses 58 = .ok (.invokevirtual 356, 3) := dk_get dk_d04_484 12 rfl
theorem dX12_presses_61 : decode cX12_presses 61 = .ok (.aload_n 0, 1) := dk_get dk_d04_484 13 rfl
theorem dX12_presses_62 : decode cX12_presses 62 = .ok (.getfield 7, 3) := dk_get dk_d04_484 14 rfl
theorem dX12_presses_65 : decode cX12_presses 65 = .ok (.bipush 67, 2) := dk_get dk_d04_484 15 rfl
theorem dX12_presses_67 : decode cX12_presses 67 = .ok (.iload 4, 2) := dk_get dk_d04_484 16 rfl
theorem dX12_presses_69 : decode cX12_presses 69 = .ok (.iadd, 1) := dk_get dk_d04_484 17 rfl
theorem dX12_presses_70 : decode cX12_presses 70 = .ok (.iload_n 1, 1) := dk_get dk_d04_484 18 rfl
theorem dX12_presses_71 : decode cX12_presses 71 = .ok (.iconst 1, 1) := dk_get dk_d04_484 19 rfl
theorem dX12_presses_72 : decode cX12_presses 72 = .ok (.iadd, 1) := dk_get dk_d04_484 20 rfl
theorem dX12_presses_73 : decode cX12_presses 73 = .ok (.iastore, 1) := dk_get dk_d04_484 21 rfl
theorem dX12_presses_74 : decode cX12_presses 74 = .ok (.aload_n 0, 1) := dk_get dk_d04_484 22 rfl
theorem dX12_presses_75 : decode cX12_presses 75 = .ok (.getfield 7, 3) := dk_get dk_d04_484 23 rfl
theorem dX12_presses_78 : decode cX12_presses 78 = .ok (.sipush 211, 3) := dk_get dk_d04_484 24 rfl
theorem dk_d04_485 : dkc cX12_presses [(81, .iload 4, 2), (83, .iadd, 1), (84, .aload_n 0, 1), (85, .getfield 7, 3), (88, .bipush 7, 2), (90, .iload_n 1, 1), (91, .iadd, 1), (92, .iaload, 1), (93, .iastore, 1), (94, .aload_n 0, 1), (95, .getfield 7, 3), (98, .sipush 355, 3), (101, .iload 4, 2), (103, .iadd, 1), (104, .aload_n 0, 1), (105, .bipush 9, 2), (107, .iconst 1, 1), (108, .aload_n 0, 1), (109, .getfield 25, 3), (112, .iload_n 1, 1), (113, .iaload, 1), (114, .iconst 2, 1), (115, .idiv, 1), (116, .iadd, 1), (117, .invokevirtual 363, 3)] = true := by decide +kernel
theorem dX12_presses_81 : decode cX12_presses 81 = .ok (.iload 4, 2) := dk_get dk_d04_485 0 rfl
theorem dX12_presses_83 : decode cX12_presses 83 = .ok (.iadd, 1) := dk_get dk_d04_485 1 rfl
theorem dX12_presses_84 : decode cX12_presses 84 = .ok (.aload_n 0, 1) := dk_get dk_d04_485 2 rfl
theorem dX12_presses_85 : decode cX12_presses 85 = .ok (.getfield 7, 3) := dk_get dk_d04_485 3 rfl
theorem dX12_presses_88 : decode cX12_presses 88 = .ok (.bipush 7, 2) := dk_get dk_d04_485 4 rfl
theorem dX12_presses_90 : decode cX12_presses 90 = .ok (.iload_n 1, 1) := dk_get dk_d04_485 5 rfl
theorem dX12_presses_91 : decode cX12_presses 91 = .ok (.iadd, 1) := dk_get dk_d04_485 6 rfl
theorem dX12_presses_92 : decode cX12_presses 92 = .ok (.iaload, 1) := dk_get dk_d04_485 7 rfl
theorem dX12_presses_93 : decode cX12_presses 93 = .ok (.iastore, 1) := dk_get dk_d04_485 8 rfl
theorem dX12_presses_94 : decode cX12_presses 94 = .ok (.aload_n 0, 1) := dk_get dk_d04_485 9 rfl
theorem dX12_presses_95 : decode cX12_presses 95 = .ok (.getfield 7, 3) := dk_get dk_d04_485 10 rfl
theorem dX12_presses_98 : decode cX12_presses 98 = .ok (.sipush 355, 3) := dk_get dk_d04_485 11 rfl
theorem dX12_presses_101 : decode cX12_presses 101 = .ok (.iload 4, 2) := dk_get dk_d04_485 12 rfl
theorem dX12_presses_103 : decode cX12_presses 103 = .ok (.iadd, 1) := dk_get dk_d04_485 13 rfl
theorem dX12_presses_104 : decode cX12_presses 104 = .ok (.aload_n 0, 1) := dk_get dk_d04_485 14 rfl
theorem dX12_presses_105 : decode cX12_presses 105 = .ok (.bipush 9, 2) := dk_get dk_d04_485 15 rfl
theorem dX12_presses_107 : decode cX12_presses 107 = .ok (.iconst 1, 1) := dk_get dk_d04_485 16 rfl
theorem dX12_presses_108 : decode cX12_presses 108 = .ok (.aload_n 0, 1) := dk_get dk_d04_485 17 rfl
theorem dX12_presses_109 : decode cX12_presses 109 = .ok (.getfield 25, 3) := dk_get dk_d04_485 18 rfl
theorem dX12_presses_112 : decode cX12_presses 112 = .ok (.iload_n 1, 1) := dk_get dk_d04_485 19 rfl
theorem dX12_presses_113 : decode cX12_presses 113 = .ok (.iaload, 1) := dk_get dk_d04_485 20 rfl
theorem dX12_presses_114 : decode cX12_presses 114 = .ok (.iconst 2, 1) := dk_get dk_d04_485 21 rfl
theorem dX12_presses_115 : decode cX12_presses 115 = .ok (.idiv, 1) := dk_get dk_d04_485 22 rfl
theorem dX12_presses_116 : decode cX12_presses 116 = .ok (.iadd, 1) := dk_get dk_d04_485 23 rfl
theorem dX12_presses_117 : decode cX12_presses 117 = .ok (.invokevirtual 363, 3) := dk_get dk_d04_485 24 rfl
theorem dk_d04_486 : dkc cX12_presses [(120, .iastore, 1), (121, .aload_n 0, 1), (122, .getfield 7, 3), (125, .bipush 47, 2), (127, .iload_n 1, 1), (128, .iadd, 1), (129, .aload_n 0, 1), (130, .getfield 7, 3), (133, .bipush 47, 2), (135, .iload_n 1, 1), (136, .iadd, 1), (137, .iaload, 1), (138, .iconst 1, 1), (139, .iadd, 1), (140, .iastore, 1), (141, .iload 4, 2), (143, .ireturn, 1)] = true := by decide +kernel
theorem dX12_presses_120 : decode cX12_presses 120 = .ok (.iastore, 1) := dk_get dk_d04_486 0 rfl
theorem dX12_presses_121 : decode cX12_presses 121 = .ok (.aload_n 0, 1) := dk_get dk_d04_486 1 rfl
theorem dX12_presses_122 : decode cX12_presses 122 = .ok (.getfield 7, 3) := dk_get dk_d04_486 2 rfl
theorem dX12_presses_125 : decode cX12_presses 125 = .ok (.bipush 47, 2) := dk_get dk_d04_486 3 rfl
theorem dX12_presses_127 : decode cX12_presses 127 = .ok (.iload_n 1, 1) := dk_get dk_d04_486 4 rfl
theorem dX12_presses_128 : decode cX12_presses 128 = .ok (.iadd, 1) := dk_get dk_d04_486 5 rfl
theorem dX12_presses_129 : decode cX12_presses 129 = .ok (.aload_n 0, 1) := dk_get dk_d04_486 6 rfl
theorem dX12_presses_130 : decode cX12_presses 130 = .ok (.getfield 7, 3) := dk_get dk_d04_486 7 rfl
theorem dX12_presses_133 : decode cX12_presses 133 = .ok (.bipush 47, 2) := dk_get dk_d04_486 8 rfl
theorem dX12_presses_135 : decode cX12_presses 135 = .ok (.iload_n 1, 1) := dk_get dk_d04_486 9 rfl
theorem dX12_presses_136 : decode cX12_presses 136 = .ok (.iadd, 1) := dk_get dk_d04_486 10 rfl
theorem dX12_presses_137 : decode cX12_presses 137 = .ok (.iaload, 1) := dk_get dk_d04_486 11 rfl
theorem dX12_presses_138 : decode cX12_presses 138 = .ok (.iconst 1, 1) := dk_get dk_d04_486 12 rfl
theorem dX12_presses_139 : decode cX12_presses 139 = .ok (.iadd, 1) := dk_get dk_d04_486 13 rfl
theorem dX12_presses_140 : decode cX12_presses 140 = .ok (.iastore, 1) := dk_get dk_d04_486 14 rfl
theorem dX12_presses_141 : decode cX12_presses 141 = .ok (.iload 4, 2) := dk_get dk_d04_486 15 rfl
theorem dX12_presses_143 : decode cX12_presses 143 = .ok (.ireturn, 1) := dk_get dk_d04_486 16 rfl
theorem dk_d04_487 : dkc cX12_press [(0, .aload_n 0, 1), (1, .iconst 0, 1), (2, .putfield 140, 3), (5, .aload_n 0, 1), (6, .iload_n 1, 1), (7, .invokevirtual 159, 3), (10, .ifCond .eq 22, 3), (13, .aload_n 0, 1), (14, .iload_n 2, 1), (15, .iconst 0, 1), (16, .bipush 11, 2), (18, .invokevirtual 155, 3), (21, .ifCond .eq 11, 3), (24, .aload_n 0, 1), (25, .iload_n 1, 1), (26, .invokevirtual 366, 3), (29, .ifCond .ne 5, 3), (32, .iconst (-1), 1), (33, .ireturn, 1), (34, .aload_n 0, 1), (35, .invokevirtual 369, 3), (38, .aload_n 0, 1), (39, .iload_n 1, 1), (40, .iload_n 2, 1), (41, .invokevirtual 372, 3)] = true := by decide +kernel
theorem dX12_press_0 : decode cX12_press 0 = .ok (.aload_n 0, 1) := dk_get dk_d04_487 0 rfl
theorem dX12_press_1 : decode cX12_press 1 = .ok (.iconst 0, 1) := dk_get dk_d04_487 1 rfl
theorem dX12_press_2 : decode cX12_press 2 = .ok (.putfield 140, 3) := dk_get dk_d04_487 2 rfl
theorem dX12_press_5 : decode cX12_press 5 = .ok (.aload_n 0, 1) := dk_get dk_d04_487 3 rfl
theorem dX12_press_6 : decode cX12_press 6 = .ok (.iload_n 1, 1) := dk_get dk_d04_487 4 rfl
theorem dX12_press_7 : decode cX12_press 7 = .ok (.invokevirtual 159, 3) := dk_get dk_d04_487 5 rfl
theorem dX12_press_10 : decode cX12_press 10 = .ok (.ifCond .eq 22, 3) := dk_get dk_d04_487 6 rfl
theorem dX12_press_13 : decode cX12_press 13 = .ok (.aload_n 0, 1) := dk_get dk_d04_487 7 rfl
theorem dX12_press_14 : decode cX12_press 14 = .ok (.iload_n 2, 1) := dk_get dk_d04_487 8 rfl
theorem dX12_press_15 : decode cX12_press 15 = .ok (.iconst 0, 1) := dk_get dk_d04_487 9 rfl
theorem dX12_press_16 : decode cX12_press 16 = .ok (.bipush 11, 2) := dk_get dk_d04_487 10 rfl
theorem dX12_press_18 : decode cX12_press 18 = .ok (.invokevirtual 155, 3) := dk_get dk_d04_487 11 rfl
theorem dX12_press_21 : decode cX12_press 21 = .ok (.ifCond .eq 11, 3) := dk_get dk_d04_487 12 rfl
theorem dX12_press_24 : decode cX12_press 24 = .ok (.aload_n 0, 1) := dk_get dk_d04_487 13 rfl
theorem dX12_press_25 : decode cX12_press 25 = .ok (.iload_n 1, 1) := dk_get dk_d04_487 14 rfl
theorem dX12_press_26 : decode cX12_press 26 = .ok (.invokevirtual 366, 3) := dk_get dk_d04_487 15 rfl
theorem dX12_press_29 : decode cX12_press 29 = .ok (.ifCond .ne 5, 3) := dk_get dk_d04_487 16 rfl
theorem dX12_press_32 : decode cX12_press 32 = .ok (.iconst (-1), 1) := dk_get dk_d04_487 17 rfl
theorem dX12_press_33 : decode cX12_press 33 = .ok (.ireturn, 1) := dk_get dk_d04_487 18 rfl
theorem dX12_press_34 : decode cX12_press 34 = .ok (.aload_n 0, 1) := dk_get dk_d04_487 19 rfl
theorem dX12_press_35 : decode cX12_press 35 = .ok (.invokevirtual 369, 3) := dk_get dk_d04_487 20 rfl
theorem dX12_press_38 : decode cX12_press 38 = .ok (.aload_n 0, 1) := dk_get dk_d04_487 21 rfl
theorem dX12_press_39 : decode cX12_press 39 = .ok (.iload_n 1, 1) := dk_get dk_d04_487 22 rfl
theorem dX12_press_40 : decode cX12_press 40 = .ok (.iload_n 2, 1) := dk_get dk_d04_487 23 rfl
theorem dX12_press_41 : decode cX12_press 41 = .ok (.invokevirtual 372, 3) := dk_get dk_d04_487 24 rfl
theorem dk_d04_488 : dkc cX12_press [(44, .ireturn, 1)] = true := by decide +kernel
theorem dX12_press_44 : decode cX12_press 44 = .ok (.ireturn, 1) := dk_get dk_d04_488 0 rfl
theorem dk_d04_489 : dkc cX12_lift [(0, .aload_n 0, 1), (1, .iconst 0, 1), (2, .putfield 140, 3), (5, .aload_n 0, 1), (6, .iload_n 1, 1), (7, .iconst 0, 1), (8, .bipush 11, 2), (10, .invokevirtual 155, 3), (13, .ifCond .eq 27, 3), (16, .aload_n 0, 1), (17, .iload_n 2, 1), (18, .iconst 0, 1), (19, .bipush 11, 2), (21, .invokevirtual 155, 3), (24, .ifCond .eq 16, 3), (27, .aload_n 0, 1), (28, .bipush 12, 2), (30, .iload_n 1, 1), (31, .imul, 1), (32, .iload_n 2, 1), (33, .iadd, 1), (34, .invokevirtual 332, 3), (37, .ifCond .ne 5, 3), (40, .iconst 0, 1), (41, .ireturn, 1)] = true := by decide +kernel
theorem dX12_lift_0 : decode cX12_lift 0 = .ok (.aload_n 0, 1) := dk_get dk_d04_489 0 rfl
theorem dX12_lift_1 : decode cX12_lift 1 = .ok (.iconst 0, 1) := dk_get dk_d04_489 1 rfl
theorem dX12_lift_2 : decode cX12_lift 2 = .ok (.putfield 140, 3) := dk_get dk_d04_489 2 rfl
theorem dX12_lift_5 : decode cX12_lift 5 = .ok (.aload_n 0, 1) := dk_get dk_d04_489 3 rfl
theorem dX12_lift_6 : decode cX12_lift 6 = .ok (.iload_n 1, 1) := dk_get dk_d04_489 4 rfl
theorem dX12_lift_7 : decode cX12_lift 7 = .ok (.iconst 0, 1) := dk_get dk_d04_489 5 rfl
theorem dX12_lift_8 : decode cX12_lift 8 = .ok (.bipush 11, 2) := dk_get dk_d04_489 6 rfl
theorem dX12_lift_10 : decode cX12_lift 10 = .ok (.invokevirtual 155, 3) := dk_get dk_d04_489 7 rfl
theorem dX12_lift_13 : decode cX12_lift 13 = .ok (.ifCond .eq 27, 3) := dk_get dk_d04_489 8 rfl
theorem dX12_lift_16 : decode cX12_lift 16 = .ok (.aload_n 0, 1) := dk_get dk_d04_489 9 rfl
theorem dX12_lift_17 : decode cX12_lift 17 = .ok (.iload_n 2, 1) := dk_get dk_d04_489 10 rfl
theorem dX12_lift_18 : decode cX12_lift 18 = .ok (.iconst 0, 1) := dk_get dk_d04_489 11 rfl
theorem dX12_lift_19 : decode cX12_lift 19 = .ok (.bipush 11, 2) := dk_get dk_d04_489 12 rfl
theorem dX12_lift_21 : decode cX12_lift 21 = .ok (.invokevirtual 155, 3) := dk_get dk_d04_489 13 rfl
theorem dX12_lift_24 : decode cX12_lift 24 = .ok (.ifCond .eq 16, 3) := dk_get dk_d04_489 14 rfl
theorem dX12_lift_27 : decode cX12_lift 27 = .ok (.aload_n 0, 1) := dk_get dk_d04_489 15 rfl
theorem dX12_lift_28 : decode cX12_lift 28 = .ok (.bipush 12, 2) := dk_get dk_d04_489 16 rfl
theorem dX12_lift_30 : decode cX12_lift 30 = .ok (.iload_n 1, 1) := dk_get dk_d04_489 17 rfl
theorem dX12_lift_31 : decode cX12_lift 31 = .ok (.imul, 1) := dk_get dk_d04_489 18 rfl
theorem dX12_lift_32 : decode cX12_lift 32 = .ok (.iload_n 2, 1) := dk_get dk_d04_489 19 rfl
theorem dX12_lift_33 : decode cX12_lift 33 = .ok (.iadd, 1) := dk_get dk_d04_489 20 rfl
theorem dX12_lift_34 : decode cX12_lift 34 = .ok (.invokevirtual 332, 3) := dk_get dk_d04_489 21 rfl
theorem dX12_lift_37 : decode cX12_lift 37 = .ok (.ifCond .ne 5, 3) := dk_get dk_d04_489 22 rfl
theorem dX12_lift_40 : decode cX12_lift 40 = .ok (.iconst 0, 1) := dk_get dk_d04_489 23 rfl
theorem dX12_lift_41 : decode cX12_lift 41 = .ok (.ireturn, 1) := dk_get dk_d04_489 24 rfl
theorem dk_d04_490 : dkc cX12_lift [(42, .aload_n 0, 1), (43, .invokevirtual 369, 3), (46, .aload_n 0, 1), (47, .bipush 12, 2), (49, .iload_n 1, 1), (50, .imul, 1), (51, .iload_n 2, 1), (52, .iadd, 1), (53, .invokevirtual 375, 3), (56, .iconst 1, 1), (57, .ireturn, 1)] = true := by decide +kernel
theorem dX12_lift_42 : decode cX12_lift 42 = .ok (.aload_n 0, 1) := dk_get dk_d04_490 0 rfl
theorem dX12_lift_43 : decode cX12_lift 43 = .ok (.invokevirtual 369, 3) := dk_get dk_d04_490 1 rfl
theorem dX12_lift_46 : decode cX12_lift 46 = .ok (.aload_n 0, 1) := dk_get dk_d04_490 2 rfl
theorem dX12_lift_47 : decode cX12_lift 47 = .ok (.bipush 12, 2) := dk_get dk_d04_490 3 rfl
theorem dX12_lift_49 : decode cX12_lift 49 = .ok (.iload_n 1, 1) := dk_get dk_d04_490 4 rfl
theorem dX12_lift_50 : decode cX12_lift 50 = .ok (.imul, 1) := dk_get dk_d04_490 5 rfl
theorem dX12_lift_51 : decode cX12_lift 51 = .ok (.iload_n 2, 1) := dk_get dk_d04_490 6 rfl
theorem dX12_lift_52 : decode cX12_lift 52 = .ok (.iadd, 1) := dk_get dk_d04_490 7 rfl
theorem dX12_lift_53 : decode cX12_lift 53 = .ok (.invokevirtual 375, 3) := dk_get dk_d04_490 8 rfl
theorem dX12_lift_56 : decode cX12_lift 56 = .ok (.iconst 1, 1) := dk_get dk_d04_490 9 rfl
theorem dX12_lift_57 : decode cX12_lift 57 = .ok (.ireturn, 1) := dk_get dk_d04_490 10 rfl
theorem dk_d04_491 : dkc cX12_hand [(0, .aload_n 0, 1), (1, .iconst 0, 1), (2, .putfield 140, 3), (5, .aload_n 0, 1), (6, .iload_n 1, 1), (7, .invokevirtual 159, 3), (10, .ifCond .eq 26, 3), (13, .aload_n 0, 1), (14, .iload_n 2, 1), (15, .iconst 0, 1), (16, .iconst 2, 1), (17, .invokevirtual 155, 3), (20, .ifCond .eq 16, 3), (23, .aload_n 0, 1), (24, .getfield 7, 3), (27, .bipush 27, 2), (29, .iload_n 1, 1), (30, .iadd, 1), (31, .iaload, 1), (32, .iload_n 2, 1), (33, .if_icmp .ne 5, 3), (36, .iconst 0, 1), (37, .ireturn, 1), (38, .aload_n 0, 1), (39, .invokevirtual 369, 3)] = true := by decide +kernel
theorem dX12_hand_0 : decode cX12_hand 0 = .ok (.aload_n 0, 1) := dk_get dk_d04_491 0 rfl
theorem dX12_hand_1 : decode cX12_hand 1 = .ok (.iconst 0, 1) := dk_get dk_d04_491 1 rfl
theorem dX12_hand_2 : decode cX12_hand 2 = .ok (.putfield 140, 3) := dk_get dk_d04_491 2 rfl
theorem dX12_hand_5 : decode cX12_hand 5 = .ok (.aload_n 0, 1) := dk_get dk_d04_491 3 rfl
theorem dX12_hand_6 : decode cX12_hand 6 = .ok (.iload_n 1, 1) := dk_get dk_d04_491 4 rfl
theorem dX12_hand_7 : decode cX12_hand 7 = .ok (.invokevirtual 159, 3) := dk_get dk_d04_491 5 rfl
theorem dX12_hand_10 : decode cX12_hand 10 = .ok (.ifCond .eq 26, 3) := dk_get dk_d04_491 6 rfl
theorem dX12_hand_13 : decode cX12_hand 13 = .ok (.aload_n 0, 1) := dk_get dk_d04_491 7 rfl
theorem dX12_hand_14 : decode cX12_hand 14 = .ok (.iload_n 2, 1) := dk_get dk_d04_491 8 rfl
theorem dX12_hand_15 : decode cX12_hand 15 = .ok (.iconst 0, 1) := dk_get dk_d04_491 9 rfl
theorem dX12_hand_16 : decode cX12_hand 16 = .ok (.iconst 2, 1) := dk_get dk_d04_491 10 rfl
theorem dX12_hand_17 : decode cX12_hand 17 = .ok (.invokevirtual 155, 3) := dk_get dk_d04_491 11 rfl
theorem dX12_hand_20 : decode cX12_hand 20 = .ok (.ifCond .eq 16, 3) := dk_get dk_d04_491 12 rfl
theorem dX12_hand_23 : decode cX12_hand 23 = .ok (.aload_n 0, 1) := dk_get dk_d04_491 13 rfl
theorem dX12_hand_24 : decode cX12_hand 24 = .ok (.getfield 7, 3) := dk_get dk_d04_491 14 rfl
theorem dX12_hand_27 : decode cX12_hand 27 = .ok (.bipush 27, 2) := dk_get dk_d04_491 15 rfl
theorem dX12_hand_29 : decode cX12_hand 29 = .ok (.iload_n 1, 1) := dk_get dk_d04_491 16 rfl
theorem dX12_hand_30 : decode cX12_hand 30 = .ok (.iadd, 1) := dk_get dk_d04_491 17 rfl
theorem dX12_hand_31 : decode cX12_hand 31 = .ok (.iaload, 1) := dk_get dk_d04_491 18 rfl
theorem dX12_hand_32 : decode cX12_hand 32 = .ok (.iload_n 2, 1) := dk_get dk_d04_491 19 rfl
theorem dX12_hand_33 : decode cX12_hand 33 = .ok (.if_icmp .ne 5, 3) := dk_get dk_d04_491 20 rfl
theorem dX12_hand_36 : decode cX12_hand 36 = .ok (.iconst 0, 1) := dk_get dk_d04_491 21 rfl
theorem dX12_hand_37 : decode cX12_hand 37 = .ok (.ireturn, 1) := dk_get dk_d04_491 22 rfl
theorem dX12_hand_38 : decode cX12_hand 38 = .ok (.aload_n 0, 1) := dk_get dk_d04_491 23 rfl
theorem dX12_hand_39 : decode cX12_hand 39 = .ok (.invokevirtual 369, 3) := dk_get dk_d04_491 24 rfl
theorem dk_d04_492 : dkc cX12_hand [(42, .aload_n 0, 1), (43, .getfield 7, 3), (46, .bipush 27, 2), (48, .iload_n 1, 1), (49, .iadd, 1), (50, .iload_n 2, 1), (51, .iastore, 1), (52, .iconst 1, 1), (53, .ireturn, 1)] = true := by decide +kernel
theorem dX12_hand_42 : decode cX12_hand 42 = .ok (.aload_n 0, 1) := dk_get dk_d04_492 0 rfl
theorem dX12_hand_43 : decode cX12_hand 43 = .ok (.getfield 7, 3) := dk_get dk_d04_492 1 rfl
theorem dX12_hand_46 : decode cX12_hand 46 = .ok (.bipush 27, 2) := dk_get dk_d04_492 2 rfl
theorem dX12_hand_48 : decode cX12_hand 48 = .ok (.iload_n 1, 1) := dk_get dk_d04_492 3 rfl
theorem dX12_hand_49 : decode cX12_hand 49 = .ok (.iadd, 1) := dk_get dk_d04_492 4 rfl
theorem dX12_hand_50 : decode cX12_hand 50 = .ok (.iload_n 2, 1) := dk_get dk_d04_492 5 rfl
theorem dX12_hand_51 : decode cX12_hand 51 = .ok (.iastore, 1) := dk_get dk_d04_492 6 rfl
theorem dX12_hand_52 : decode cX12_hand 52 = .ok (.iconst 1, 1) := dk_get dk_d04_492 7 rfl
theorem dX12_hand_53 : decode cX12_hand 53 = .ok (.ireturn, 1) := dk_get dk_d04_492 8 rfl
theorem dk_d04_493 : dkc cX12_happens [(0, .aload_n 0, 1), (1, .getfield 146, 3), (4, .ifCond .eq 20, 3), (7, .iconst 2, 1), (8, .iload_n 1, 1), (9, .imul, 1), (10, .sipush 1000, 3), (13, .if_icmp .lt 7, 3), (16, .iconst 1, 1), (17, .goto 27, 3), (20, .iconst 0, 1), (21, .goto 23, 3), (24, .iload_n 1, 1), (25, .ifCond .le 18, 3), (28, .aload_n 0, 1), (29, .sipush 1000, 3), (32, .invokevirtual 378, 3), (35, .iload_n 1, 1), (36, .if_icmp .ge 7, 3), (39, .iconst 1, 1), (40, .goto 4, 3), (43, .iconst 0, 1), (44, .ireturn, 1)] = true := by decide +kernel
theorem dX12_happens_0 : decode cX12_happens 0 = .ok (.aload_n 0, 1) := dk_get dk_d04_493 0 rfl
theorem dX12_happens_1 : decode cX12_happens 1 = .ok (.getfield 146, 3) := dk_get dk_d04_493 1 rfl
theorem dX12_happens_4 : decode cX12_happens 4 = .ok (.ifCond .eq 20, 3) := dk_get dk_d04_493 2 rfl
theorem dX12_happens_7 : decode cX12_happens 7 = .ok (.iconst 2, 1) := dk_get dk_d04_493 3 rfl
theorem dX12_happens_8 : decode cX12_happens 8 = .ok (.iload_n 1, 1) := dk_get dk_d04_493 4 rfl
theorem dX12_happens_9 : decode cX12_happens 9 = .ok (.imul, 1) := dk_get dk_d04_493 5 rfl
theorem dX12_happens_10 : decode cX12_happens 10 = .ok (.sipush 1000, 3) := dk_get dk_d04_493 6 rfl
theorem dX12_happens_13 : decode cX12_happens 13 = .ok (.if_icmp .lt 7, 3) := dk_get dk_d04_493 7 rfl
theorem dX12_happens_16 : decode cX12_happens 16 = .ok (.iconst 1, 1) := dk_get dk_d04_493 8 rfl
theorem dX12_happens_17 : decode cX12_happens 17 = .ok (.goto 27, 3) := dk_get dk_d04_493 9 rfl
theorem dX12_happens_20 : decode cX12_happens 20 = .ok (.iconst 0, 1) := dk_get dk_d04_493 10 rfl
theorem dX12_happens_21 : decode cX12_happens 21 = .ok (.goto 23, 3) := dk_get dk_d04_493 11 rfl
theorem dX12_happens_24 : decode cX12_happens 24 = .ok (.iload_n 1, 1) := dk_get dk_d04_493 12 rfl
theorem dX12_happens_25 : decode cX12_happens 25 = .ok (.ifCond .le 18, 3) := dk_get dk_d04_493 13 rfl
theorem dX12_happens_28 : decode cX12_happens 28 = .ok (.aload_n 0, 1) := dk_get dk_d04_493 14 rfl
theorem dX12_happens_29 : decode cX12_happens 29 = .ok (.sipush 1000, 3) := dk_get dk_d04_493 15 rfl
theorem dX12_happens_32 : decode cX12_happens 32 = .ok (.invokevirtual 378, 3) := dk_get dk_d04_493 16 rfl
theorem dX12_happens_35 : decode cX12_happens 35 = .ok (.iload_n 1, 1) := dk_get dk_d04_493 17 rfl
theorem dX12_happens_36 : decode cX12_happens 36 = .ok (.if_icmp .ge 7, 3) := dk_get dk_d04_493 18 rfl
theorem dX12_happens_39 : decode cX12_happens 39 = .ok (.iconst 1, 1) := dk_get dk_d04_493 19 rfl
theorem dX12_happens_40 : decode cX12_happens 40 = .ok (.goto 4, 3) := dk_get dk_d04_493 20 rfl
theorem dX12_happens_43 : decode cX12_happens 43 = .ok (.iconst 0, 1) := dk_get dk_d04_493 21 rfl
theorem dX12_happens_44 : decode cX12_happens 44 = .ok (.ireturn, 1) := dk_get dk_d04_493 22 rfl
theorem dk_d04_494 : dkc cX12_does [(0, .aload_n 0, 1), (1, .getfield 68, 3), (4, .iload_n 1, 1), (5, .iconst 2, 1), (6, .iadd, 1), (7, .iaload, 1), (8, .ifCond .ne 17, 3), (11, .aload_n 0, 1), (12, .getfield 7, 3), (15, .iconst 4, 1), (16, .aload_n 0, 1), (17, .getfield 68, 3), (20, .iload_n 1, 1), (21, .iconst 3, 1), (22, .iadd, 1), (23, .iaload, 1), (24, .iastore, 1), (25, .aload_n 0, 1), (26, .getfield 68, 3), (29, .iload_n 1, 1), (30, .iconst 2, 1), (31, .iadd, 1), (32, .iaload, 1), (33, .iconst 1, 1), (34, .if_icmp .ne 27, 3)] = true := by decide +kernel
theorem dX12_does_0 : decode cX12_does 0 = .ok (.aload_n 0, 1) := dk_get dk_d04_494 0 rfl
theorem dX12_does_1 : decode cX12_does 1 = .ok (.getfield 68, 3) := dk_get dk_d04_494 1 rfl
theorem dX12_does_4 : decode cX12_does 4 = .ok (.iload_n 1, 1) := dk_get dk_d04_494 2 rfl
theorem dX12_does_5 : decode cX12_does 5 = .ok (.iconst 2, 1) := dk_get dk_d04_494 3 rfl
theorem dX12_does_6 : decode cX12_does 6 = .ok (.iadd, 1) := dk_get dk_d04_494 4 rfl
theorem dX12_does_7 : decode cX12_does 7 = .ok (.iaload, 1) := dk_get dk_d04_494 5 rfl
theorem dX12_does_8 : decode cX12_does 8 = .ok (.ifCond .ne 17, 3) := dk_get dk_d04_494 6 rfl
theorem dX12_does_11 : decode cX12_does 11 = .ok (.aload_n 0, 1) := dk_get dk_d04_494 7 rfl
theorem dX12_does_12 : decode cX12_does 12 = .ok (.getfield 7, 3) := dk_get dk_d04_494 8 rfl
theorem dX12_does_15 : decode cX12_does 15 = .ok (.iconst 4, 1) := dk_get dk_d04_494 9 rfl
theorem dX12_does_16 : decode cX12_does 16 = .ok (.aload_n 0, 1) := dk_get dk_d04_494 10 rfl
theorem dX12_does_17 : decode cX12_does 17 = .ok (.getfield 68, 3) := dk_get dk_d04_494 11 rfl
theorem dX12_does_20 : decode cX12_does 20 = .ok (.iload_n 1, 1) := dk_get dk_d04_494 12 rfl
theorem dX12_does_21 : decode cX12_does 21 = .ok (.iconst 3, 1) := dk_get dk_d04_494 13 rfl
theorem dX12_does_22 : decode cX12_does 22 = .ok (.iadd, 1) := dk_get dk_d04_494 14 rfl
theorem dX12_does_23 : decode cX12_does 23 = .ok (.iaload, 1) := dk_get dk_d04_494 15 rfl
theorem dX12_does_24 : decode cX12_does 24 = .ok (.iastore, 1) := dk_get dk_d04_494 16 rfl
theorem dX12_does_25 : decode cX12_does 25 = .ok (.aload_n 0, 1) := dk_get dk_d04_494 17 rfl
theorem dX12_does_26 : decode cX12_does 26 = .ok (.getfield 68, 3) := dk_get dk_d04_494 18 rfl
theorem dX12_does_29 : decode cX12_does 29 = .ok (.iload_n 1, 1) := dk_get dk_d04_494 19 rfl
theorem dX12_does_30 : decode cX12_does 30 = .ok (.iconst 2, 1) := dk_get dk_d04_494 20 rfl
theorem dX12_does_31 : decode cX12_does 31 = .ok (.iadd, 1) := dk_get dk_d04_494 21 rfl
theorem dX12_does_32 : decode cX12_does 32 = .ok (.iaload, 1) := dk_get dk_d04_494 22 rfl
theorem dX12_does_33 : decode cX12_does 33 = .ok (.iconst 1, 1) := dk_get dk_d04_494 23 rfl
theorem dX12_does_34 : decode cX12_does 34 = .ok (.if_icmp .ne 27, 3) := dk_get dk_d04_494 24 rfl
theorem dk_d04_495 : dkc cX12_does [(37, .aload_n 0, 1), (38, .bipush 12, 2), (40, .aload_n 0, 1), (41, .getfield 68, 3), (44, .iload_n 1, 1), (45, .iconst 4, 1), (46, .iadd, 1), (47, .iaload, 1), (48, .imul, 1), (49, .aload_n 0, 1), (50, .getfield 68, 3), (53, .iload_n 1, 1), (54, .iconst 3, 1), (55, .iadd, 1), (56, .iaload, 1), (57, .iadd, 1), (58, .invokevirtual 375, 3), (61, .aload_n 0, 1), (62, .getfield 68, 3), (65, .iload_n 1, 1), (66, .iconst 2, 1), (67, .iadd, 1), (68, .iaload, 1), (69, .iconst 2, 1), (70, .if_icmp .ne 27, 3)] = true := by decide +kernel
theorem dX12_does_37 : decode cX12_does 37 = .ok (.aload_n 0, 1) := dk_get dk_d04_495 0 rfl
theorem dX12_does_38 : decode cX12_does 38 = .ok (.bipush 12, 2) := dk_get dk_d04_495 1 rfl
theorem dX12_does_40 : decode cX12_does 40 = .ok (.aload_n 0, 1) := dk_get dk_d04_495 2 rfl
theorem dX12_does_41 : decode cX12_does 41 = .ok (.getfield 68, 3) := dk_get dk_d04_495 3 rfl
theorem dX12_does_44 : decode cX12_does 44 = .ok (.iload_n 1, 1) := dk_get dk_d04_495 4 rfl
theorem dX12_does_45 : decode cX12_does 45 = .ok (.iconst 4, 1) := dk_get dk_d04_495 5 rfl
theorem dX12_does_46 : decode cX12_does 46 = .ok (.iadd, 1) := dk_get dk_d04_495 6 rfl
theorem dX12_does_47 : decode cX12_does 47 = .ok (.iaload, 1) := dk_get dk_d04_495 7 rfl
theorem dX12_does_48 : decode cX12_does 48 = .ok (.imul, 1) := dk_get dk_d04_495 8 rfl
theorem dX12_does_49 : decode cX12_does 49 = .ok (.aload_n 0, 1) := dk_get dk_d04_495 9 rfl
theorem dX12_does_50 : decode cX12_does 50 = .ok (.getfield 68, 3) := dk_get dk_d04_495 10 rfl
theorem dX12_does_53 : decode cX12_does 53 = .ok (.iload_n 1, 1) := dk_get dk_d04_495 11 rfl
theorem dX12_does_54 : decode cX12_does 54 = .ok (.iconst 3, 1) := dk_get dk_d04_495 12 rfl
theorem dX12_does_55 : decode cX12_does 55 = .ok (.iadd, 1) := dk_get dk_d04_495 13 rfl
theorem dX12_does_56 : decode cX12_does 56 = .ok (.iaload, 1) := dk_get dk_d04_495 14 rfl
theorem dX12_does_57 : decode cX12_does 57 = .ok (.iadd, 1) := dk_get dk_d04_495 15 rfl
theorem dX12_does_58 : decode cX12_does 58 = .ok (.invokevirtual 375, 3) := dk_get dk_d04_495 16 rfl
theorem dX12_does_61 : decode cX12_does 61 = .ok (.aload_n 0, 1) := dk_get dk_d04_495 17 rfl
theorem dX12_does_62 : decode cX12_does 62 = .ok (.getfield 68, 3) := dk_get dk_d04_495 18 rfl
theorem dX12_does_65 : decode cX12_does 65 = .ok (.iload_n 1, 1) := dk_get dk_d04_495 19 rfl
theorem dX12_does_66 : decode cX12_does 66 = .ok (.iconst 2, 1) := dk_get dk_d04_495 20 rfl
theorem dX12_does_67 : decode cX12_does 67 = .ok (.iadd, 1) := dk_get dk_d04_495 21 rfl
theorem dX12_does_68 : decode cX12_does 68 = .ok (.iaload, 1) := dk_get dk_d04_495 22 rfl
theorem dX12_does_69 : decode cX12_does 69 = .ok (.iconst 2, 1) := dk_get dk_d04_495 23 rfl
theorem dX12_does_70 : decode cX12_does 70 = .ok (.if_icmp .ne 27, 3) := dk_get dk_d04_495 24 rfl
theorem dk_d04_496 : dkc cX12_does [(73, .aload_n 0, 1), (74, .getfield 7, 3), (77, .bipush 7, 2), (79, .aload_n 0, 1), (80, .getfield 68, 3), (83, .iload_n 1, 1), (84, .iconst 3, 1), (85, .iadd, 1), (86, .iaload, 1), (87, .iadd, 1), (88, .aload_n 0, 1), (89, .getfield 68, 3), (92, .iload_n 1, 1), (93, .iconst 4, 1), (94, .iadd, 1), (95, .iaload, 1), (96, .iastore, 1), (97, .return_, 1)] = true := by decide +kernel
theorem dX12_does_73 : decode cX12_does 73 = .ok (.aload_n 0, 1) := dk_get dk_d04_496 0 rfl
theorem dX12_does_74 : decode cX12_does 74 = .ok (.getfield 7, 3) := dk_get dk_d04_496 1 rfl
theorem dX12_does_77 : decode cX12_does 77 = .ok (.bipush 7, 2) := dk_get dk_d04_496 2 rfl
theorem dX12_does_79 : decode cX12_does 79 = .ok (.aload_n 0, 1) := dk_get dk_d04_496 3 rfl
theorem dX12_does_80 : decode cX12_does 80 = .ok (.getfield 68, 3) := dk_get dk_d04_496 4 rfl
theorem dX12_does_83 : decode cX12_does 83 = .ok (.iload_n 1, 1) := dk_get dk_d04_496 5 rfl
theorem dX12_does_84 : decode cX12_does 84 = .ok (.iconst 3, 1) := dk_get dk_d04_496 6 rfl
theorem dX12_does_85 : decode cX12_does 85 = .ok (.iadd, 1) := dk_get dk_d04_496 7 rfl
theorem dX12_does_86 : decode cX12_does 86 = .ok (.iaload, 1) := dk_get dk_d04_496 8 rfl
theorem dX12_does_87 : decode cX12_does 87 = .ok (.iadd, 1) := dk_get dk_d04_496 9 rfl
theorem dX12_does_88 : decode cX12_does 88 = .ok (.aload_n 0, 1) := dk_get dk_d04_496 10 rfl
theorem dX12_does_89 : decode cX12_does 89 = .ok (.getfield 68, 3) := dk_get dk_d04_496 11 rfl
theorem dX12_does_92 : decode cX12_does 92 = .ok (.iload_n 1, 1) := dk_get dk_d04_496 12 rfl
theorem dX12_does_93 : decode cX12_does 93 = .ok (.iconst 4, 1) := dk_get dk_d04_496 13 rfl
theorem dX12_does_94 : decode cX12_does 94 = .ok (.iadd, 1) := dk_get dk_d04_496 14 rfl
theorem dX12_does_95 : decode cX12_does 95 = .ok (.iaload, 1) := dk_get dk_d04_496 15 rfl
theorem dX12_does_96 : decode cX12_does 96 = .ok (.iastore, 1) := dk_get dk_d04_496 16 rfl
theorem dX12_does_97 : decode cX12_does 97 = .ok (.return_, 1) := dk_get dk_d04_496 17 rfl
theorem dk_d04_497 : dkc cX12_mightMelt [(0, .aload_n 0, 1), (1, .aload_n 0, 1), (2, .iload_n 1, 1), (3, .invokevirtual 381, 3), (6, .invokevirtual 384, 3), (9, .ifCond .ne 4, 3), (12, .return_, 1), (13, .aload_n 0, 1), (14, .getfield 7, 3), (17, .sipush 355, 3), (20, .iload_n 1, 1), (21, .iadd, 1), (22, .aload_n 0, 1), (23, .getfield 7, 3), (26, .sipush 355, 3), (29, .iload_n 1, 1), (30, .iadd, 1), (31, .iaload, 1), (32, .iconst 1, 1), (33, .isub, 1), (34, .iastore, 1), (35, .aload_n 0, 1), (36, .getfield 7, 3), (39, .sipush 355, 3), (42, .iload_n 1, 1)] = true := by decide +kernel
theorem dX12_mightMelt_0 : decode cX12_mightMelt 0 = .ok (.aload_n 0, 1) := dk_get dk_d04_497 0 rfl
theorem dX12_mightMelt_1 : decode cX12_mightMelt 1 = .ok (.aload_n 0, 1) := dk_get dk_d04_497 1 rfl
theorem dX12_mightMelt_2 : decode cX12_mightMelt 2 = .ok (.iload_n 1, 1) := dk_get dk_d04_497 2 rfl
theorem dX12_mightMelt_3 : decode cX12_mightMelt 3 = .ok (.invokevirtual 381, 3) := dk_get dk_d04_497 3 rfl
theorem dX12_mightMelt_6 : decode cX12_mightMelt 6 = .ok (.invokevirtual 384, 3) := dk_get dk_d04_497 4 rfl
theorem dX12_mightMelt_9 : decode cX12_mightMelt 9 = .ok (.ifCond .ne 4, 3) := dk_get dk_d04_497 5 rfl
theorem dX12_mightMelt_12 : decode cX12_mightMelt 12 = .ok (.return_, 1) := dk_get dk_d04_497 6 rfl
theorem dX12_mightMelt_13 : decode cX12_mightMelt 13 = .ok (.aload_n 0, 1) := dk_get dk_d04_497 7 rfl
theorem dX12_mightMelt_14 : decode cX12_mightMelt 14 = .ok (.getfield 7, 3) := dk_get dk_d04_497 8 rfl
theorem dX12_mightMelt_17 : decode cX12_mightMelt 17 = .ok (.sipush 355, 3) := dk_get dk_d04_497 9 rfl
theorem dX12_mightMelt_20 : decode cX12_mightMelt 20 = .ok (.iload_n 1, 1) := dk_get dk_d04_497 10 rfl
theorem dX12_mightMelt_21 : decode cX12_mightMelt 21 = .ok (.iadd, 1) := dk_get dk_d04_497 11 rfl
theorem dX12_mightMelt_22 : decode cX12_mightMelt 22 = .ok (.aload_n 0, 1) := dk_get dk_d04_497 12 rfl
theorem dX12_mightMelt_23 : decode cX12_mightMelt 23 = .ok (.getfield 7, 3) := dk_get dk_d04_497 13 rfl
theorem dX12_mightMelt_26 : decode cX12_mightMelt 26 = .ok (.sipush 355, 3) := dk_get dk_d04_497 14 rfl
theorem dX12_mightMelt_29 : decode cX12_mightMelt 29 = .ok (.iload_n 1, 1) := dk_get dk_d04_497 15 rfl
theorem dX12_mightMelt_30 : decode cX12_mightMelt 30 = .ok (.iadd, 1) := dk_get dk_d04_497 16 rfl
theorem dX12_mightMelt_31 : decode cX12_mightMelt 31 = .ok (.iaload, 1) := dk_get dk_d04_497 17 rfl
theorem dX12_mightMelt_32 : decode cX12_mightMelt 32 = .ok (.iconst 1, 1) := dk_get dk_d04_497 18 rfl
theorem dX12_mightMelt_33 : decode cX12_mightMelt 33 = .ok (.isub, 1) := dk_get dk_d04_497 19 rfl
theorem dX12_mightMelt_34 : decode cX12_mightMelt 34 = .ok (.iastore, 1) := dk_get dk_d04_497 20 rfl
theorem dX12_mightMelt_35 : decode cX12_mightMelt 35 = .ok (.aload_n 0, 1) := dk_get dk_d04_497 21 rfl
theorem dX12_mightMelt_36 : decode cX12_mightMelt 36 = .ok (.getfield 7, 3) := dk_get dk_d04_497 22 rfl
theorem dX12_mightMelt_39 : decode cX12_mightMelt 39 = .ok (.sipush 355, 3) := dk_get dk_d04_497 23 rfl
theorem dX12_mightMelt_42 : decode cX12_mightMelt 42 = .ok (.iload_n 1, 1) := dk_get dk_d04_497 24 rfl
theorem dk_d04_498 : dkc cX12_mightMelt [(43, .iadd, 1), (44, .iaload, 1), (45, .ifCond .le 4, 3), (48, .return_, 1), (49, .aload_n 0, 1), (50, .iconst 2, 1), (51, .aload_n 0, 1), (52, .getfield 7, 3), (55, .bipush 67, 2), (57, .iload_n 1, 1), (58, .iadd, 1), (59, .iaload, 1), (60, .iconst 1, 1), (61, .isub, 1), (62, .iload_n 1, 1), (63, .invokevirtual 356, 3), (66, .aload_n 0, 1), (67, .iload_n 1, 1), (68, .invokevirtual 360, 3), (71, .return_, 1)] = true := by decide +kernel
theorem dX12_mightMelt_43 : decode cX12_mightMelt 43 = .ok (.iadd, 1) := dk_get dk_d04_498 0 rfl
theorem dX12_mightMelt_44 : decode cX12_mightMelt 44 = .ok (.iaload, 1) := dk_get dk_d04_498 1 rfl
theorem dX12_mightMelt_45 : decode cX12_mightMelt 45 = .ok (.ifCond .le 4, 3) := dk_get dk_d04_498 2 rfl
theorem dX12_mightMelt_48 : decode cX12_mightMelt 48 = .ok (.return_, 1) := dk_get dk_d04_498 3 rfl
theorem dX12_mightMelt_49 : decode cX12_mightMelt 49 = .ok (.aload_n 0, 1) := dk_get dk_d04_498 4 rfl
theorem dX12_mightMelt_50 : decode cX12_mightMelt 50 = .ok (.iconst 2, 1) := dk_get dk_d04_498 5 rfl
theorem dX12_mightMelt_51 : decode cX12_mightMelt 51 = .ok (.aload_n 0, 1) := dk_get dk_d04_498 6 rfl
theorem dX12_mightMelt_52 : decode cX12_mightMelt 52 = .ok (.getfield 7, 3) := dk_get dk_d04_498 7 rfl
theorem dX12_mightMelt_55 : decode cX12_mightMelt 55 = .ok (.bipush 67, 2) := dk_get dk_d04_498 8 rfl
theorem dX12_mightMelt_57 : decode cX12_mightMelt 57 = .ok (.iload_n 1, 1) := dk_get dk_d04_498 9 rfl
theorem dX12_mightMelt_58 : decode cX12_mightMelt 58 = .ok (.iadd, 1) := dk_get dk_d04_498 10 rfl
theorem dX12_mightMelt_59 : decode cX12_mightMelt 59 = .ok (.iaload, 1) := dk_get dk_d04_498 11 rfl
theorem dX12_mightMelt_60 : decode cX12_mightMelt 60 = .ok (.iconst 1, 1) := dk_get dk_d04_498 12 rfl
theorem dX12_mightMelt_61 : decode cX12_mightMelt 61 = .ok (.isub, 1) := dk_get dk_d04_498 13 rfl
theorem dX12_mightMelt_62 : decode cX12_mightMelt 62 = .ok (.iload_n 1, 1) := dk_get dk_d04_498 14 rfl
theorem dX12_mightMelt_63 : decode cX12_mightMelt 63 = .ok (.invokevirtual 356, 3) := dk_get dk_d04_498 15 rfl
theorem dX12_mightMelt_66 : decode cX12_mightMelt 66 = .ok (.aload_n 0, 1) := dk_get dk_d04_498 16 rfl
theorem dX12_mightMelt_67 : decode cX12_mightMelt 67 = .ok (.iload_n 1, 1) := dk_get dk_d04_498 17 rfl
theorem dX12_mightMelt_68 : decode cX12_mightMelt 68 = .ok (.invokevirtual 360, 3) := dk_get dk_d04_498 18 rfl
theorem dX12_mightMelt_71 : decode cX12_mightMelt 71 = .ok (.return_, 1) := dk_get dk_d04_498 19 rfl
theorem dk_d04_499 : dkc cX12_evening [(0, .aload_n 0, 1), (1, .invokevirtual 387, 3), (4, .istore_n 1, 1), (5, .aload_n 0, 1), (6, .iconst 4, 1), (7, .iconst (-1), 1), (8, .iload_n 1, 1), (9, .invokevirtual 356, 3), (12, .iload_n 1, 1), (13, .ifCond .le 20, 3), (16, .aload_n 0, 1), (17, .getfield 7, 3), (20, .iconst 5, 1), (21, .aload_n 0, 1), (22, .getfield 7, 3), (25, .iconst 5, 1), (26, .iaload, 1), (27, .iconst 1, 1), (28, .iadd, 1), (29, .iastore, 1), (30, .goto 19, 3), (33, .aload_n 0, 1), (34, .getfield 7, 3), (37, .bipush 6, 2), (39, .aload_n 0, 1)] = true := by decide +kernel
theorem dX12_evening_0 : decode cX12_evening 0 = .ok (.aload_n 0, 1) := dk_get dk_d04_499 0 rfl
theorem dX12_evening_1 : decode cX12_evening 1 = .ok (.invokevirtual 387, 3) := dk_get dk_d04_499 1 rfl
theorem dX12_evening_4 : decode cX12_evening 4 = .ok (.istore_n 1, 1) := dk_get dk_d04_499 2 rfl
theorem dX12_evening_5 : decode cX12_evening 5 = .ok (.aload_n 0, 1) := dk_get dk_d04_499 3 rfl
theorem dX12_evening_6 : decode cX12_evening 6 = .ok (.iconst 4, 1) := dk_get dk_d04_499 4 rfl
theorem dX12_evening_7 : decode cX12_evening 7 = .ok (.iconst (-1), 1) := dk_get dk_d04_499 5 rfl
theorem dX12_evening_8 : decode cX12_evening 8 = .ok (.iload_n 1, 1) := dk_get dk_d04_499 6 rfl
theorem dX12_evening_9 : decode cX12_evening 9 = .ok (.invokevirtual 356, 3) := dk_get dk_d04_499 7 rfl
theorem dX12_evening_12 : decode cX12_evening 12 = .ok (.iload_n 1, 1) := dk_get dk_d04_499 8 rfl
theorem dX12_evening_13 : decode cX12_evening 13 = .ok (.ifCond .le 20, 3) := dk_get dk_d04_499 9 rfl
theorem dX12_evening_16 : decode cX12_evening 16 = .ok (.aload_n 0, 1) := dk_get dk_d04_499 10 rfl
theorem dX12_evening_17 : decode cX12_evening 17 = .ok (.getfield 7, 3) := dk_get dk_d04_499 11 rfl
theorem dX12_evening_20 : decode cX12_evening 20 = .ok (.iconst 5, 1) := dk_get dk_d04_499 12 rfl
theorem dX12_evening_21 : decode cX12_evening 21 = .ok (.aload_n 0, 1) := dk_get dk_d04_499 13 rfl
theorem dX12_evening_22 : decode cX12_evening 22 = .ok (.getfield 7, 3) := dk_get dk_d04_499 14 rfl
theorem dX12_evening_25 : decode cX12_evening 25 = .ok (.iconst 5, 1) := dk_get dk_d04_499 15 rfl
theorem dX12_evening_26 : decode cX12_evening 26 = .ok (.iaload, 1) := dk_get dk_d04_499 16 rfl
theorem dX12_evening_27 : decode cX12_evening 27 = .ok (.iconst 1, 1) := dk_get dk_d04_499 17 rfl
theorem dX12_evening_28 : decode cX12_evening 28 = .ok (.iadd, 1) := dk_get dk_d04_499 18 rfl
theorem dX12_evening_29 : decode cX12_evening 29 = .ok (.iastore, 1) := dk_get dk_d04_499 19 rfl
theorem dX12_evening_30 : decode cX12_evening 30 = .ok (.goto 19, 3) := dk_get dk_d04_499 20 rfl
theorem dX12_evening_33 : decode cX12_evening 33 = .ok (.aload_n 0, 1) := dk_get dk_d04_499 21 rfl
theorem dX12_evening_34 : decode cX12_evening 34 = .ok (.getfield 7, 3) := dk_get dk_d04_499 22 rfl
theorem dX12_evening_37 : decode cX12_evening 37 = .ok (.bipush 6, 2) := dk_get dk_d04_499 23 rfl
theorem dX12_evening_39 : decode cX12_evening 39 = .ok (.aload_n 0, 1) := dk_get dk_d04_499 24 rfl
theorem dk_d04_500 : dkc cX12_evening [(40, .getfield 7, 3), (43, .bipush 6, 2), (45, .iaload, 1), (46, .iconst 1, 1), (47, .iadd, 1), (48, .iastore, 1), (49, .iconst 0, 1), (50, .istore_n 2, 1), (51, .iload_n 2, 1), (52, .sipush 144, 3), (55, .if_icmp .ge 14, 3), (58, .aload_n 0, 1), (59, .iload_n 2, 1), (60, .invokevirtual 360, 3), (63, .iinc 2 1, 3), (66, .goto (-15), 3), (69, .aload_n 0, 1), (70, .getfield 7, 3), (73, .iconst 1, 1), (74, .iconst 0, 1), (75, .iastore, 1), (76, .aload_n 0, 1), (77, .getfield 7, 3), (80, .iconst 0, 1), (81, .aload_n 0, 1)] = true := by decide +kernel
theorem dX12_evening_40 : decode cX12_evening 40 = .ok (.getfield 7, 3) := dk_get dk_d04_500 0 rfl
theorem dX12_evening_43 : decode cX12_evening 43 = .ok (.bipush 6, 2) := dk_get dk_d04_500 1 rfl
theorem dX12_evening_45 : decode cX12_evening 45 = .ok (.iaload, 1) := dk_get dk_d04_500 2 rfl
theorem dX12_evening_46 : decode cX12_evening 46 = .ok (.iconst 1, 1) := dk_get dk_d04_500 3 rfl
theorem dX12_evening_47 : decode cX12_evening 47 = .ok (.iadd, 1) := dk_get dk_d04_500 4 rfl
theorem dX12_evening_48 : decode cX12_evening 48 = .ok (.iastore, 1) := dk_get dk_d04_500 5 rfl
theorem dX12_evening_49 : decode cX12_evening 49 = .ok (.iconst 0, 1) := dk_get dk_d04_500 6 rfl
theorem dX12_evening_50 : decode cX12_evening 50 = .ok (.istore_n 2, 1) := dk_get dk_d04_500 7 rfl
theorem dX12_evening_51 : decode cX12_evening 51 = .ok (.iload_n 2, 1) := dk_get dk_d04_500 8 rfl
theorem dX12_evening_52 : decode cX12_evening 52 = .ok (.sipush 144, 3) := dk_get dk_d04_500 9 rfl
theorem dX12_evening_55 : decode cX12_evening 55 = .ok (.if_icmp .ge 14, 3) := dk_get dk_d04_500 10 rfl
theorem dX12_evening_58 : decode cX12_evening 58 = .ok (.aload_n 0, 1) := dk_get dk_d04_500 11 rfl
theorem dX12_evening_59 : decode cX12_evening 59 = .ok (.iload_n 2, 1) := dk_get dk_d04_500 12 rfl
theorem dX12_evening_60 : decode cX12_evening 60 = .ok (.invokevirtual 360, 3) := dk_get dk_d04_500 13 rfl
theorem dX12_evening_63 : decode cX12_evening 63 = .ok (.iinc 2 1, 3) := dk_get dk_d04_500 14 rfl
theorem dX12_evening_66 : decode cX12_evening 66 = .ok (.goto (-15), 3) := dk_get dk_d04_500 15 rfl
theorem dX12_evening_69 : decode cX12_evening 69 = .ok (.aload_n 0, 1) := dk_get dk_d04_500 16 rfl
theorem dX12_evening_70 : decode cX12_evening 70 = .ok (.getfield 7, 3) := dk_get dk_d04_500 17 rfl
theorem dX12_evening_73 : decode cX12_evening 73 = .ok (.iconst 1, 1) := dk_get dk_d04_500 18 rfl
theorem dX12_evening_74 : decode cX12_evening 74 = .ok (.iconst 0, 1) := dk_get dk_d04_500 19 rfl
theorem dX12_evening_75 : decode cX12_evening 75 = .ok (.iastore, 1) := dk_get dk_d04_500 20 rfl
theorem dX12_evening_76 : decode cX12_evening 76 = .ok (.aload_n 0, 1) := dk_get dk_d04_500 21 rfl
theorem dX12_evening_77 : decode cX12_evening 77 = .ok (.getfield 7, 3) := dk_get dk_d04_500 22 rfl
theorem dX12_evening_80 : decode cX12_evening 80 = .ok (.iconst 0, 1) := dk_get dk_d04_500 23 rfl
theorem dX12_evening_81 : decode cX12_evening 81 = .ok (.aload_n 0, 1) := dk_get dk_d04_500 24 rfl
theorem dk_d04_501 : dkc cX12_evening [(82, .getfield 7, 3), (85, .iconst 0, 1), (86, .iaload, 1), (87, .iconst 1, 1), (88, .iadd, 1), (89, .iastore, 1), (90, .return_, 1)] = true := by decide +kernel
theorem dX12_evening_82 : decode cX12_evening 82 = .ok (.getfield 7, 3) := dk_get dk_d04_501 0 rfl
theorem dX12_evening_85 : decode cX12_evening 85 = .ok (.iconst 0, 1) := dk_get dk_d04_501 1 rfl
theorem dX12_evening_86 : decode cX12_evening 86 = .ok (.iaload, 1) := dk_get dk_d04_501 2 rfl
theorem dX12_evening_87 : decode cX12_evening 87 = .ok (.iconst 1, 1) := dk_get dk_d04_501 3 rfl
theorem dX12_evening_88 : decode cX12_evening 88 = .ok (.iadd, 1) := dk_get dk_d04_501 4 rfl
theorem dX12_evening_89 : decode cX12_evening 89 = .ok (.iastore, 1) := dk_get dk_d04_501 5 rfl
theorem dX12_evening_90 : decode cX12_evening 90 = .ok (.return_, 1) := dk_get dk_d04_501 6 rfl
theorem dk_d04_502 : dkc cX12_goesBy [(0, .iconst 0, 1), (1, .istore_n 1, 1), (2, .iload_n 1, 1), (3, .iconst 5, 1), (4, .aload_n 0, 1), (5, .getfield 311, 3), (8, .imul, 1), (9, .if_icmp .ge 47, 3), (12, .aload_n 0, 1), (13, .getfield 68, 3), (16, .iload_n 1, 1), (17, .iaload, 1), (18, .aload_n 0, 1), (19, .getfield 7, 3), (22, .iconst 0, 1), (23, .iaload, 1), (24, .if_icmp .ne 25, 3), (27, .aload_n 0, 1), (28, .getfield 68, 3), (31, .iload_n 1, 1), (32, .iconst 1, 1), (33, .iadd, 1), (34, .iaload, 1), (35, .aload_n 0, 1), (36, .getfield 7, 3)] = true := by decide +kernel
theorem dX12_goesBy_0 : decode cX12_goesBy 0 = .ok (.iconst 0, 1) := dk_get dk_d04_502 0 rfl
theorem dX12_goesBy_1 : decode cX12_goesBy 1 = .ok (.istore_n 1, 1) := dk_get dk_d04_502 1 rfl
theorem dX12_goesBy_2 : decode cX12_goesBy 2 = .ok (.iload_n 1, 1) := dk_get dk_d04_502 2 rfl
theorem dX12_goesBy_3 : decode cX12_goesBy 3 = .ok (.iconst 5, 1) := dk_get dk_d04_502 3 rfl
theorem dX12_goesBy_4 : decode cX12_goesBy 4 = .ok (.aload_n 0, 1) := dk_get dk_d04_502 4 rfl
theorem dX12_goesBy_5 : decode cX12_goesBy 5 = .ok (.getfield 311, 3) := dk_get dk_d04_502 5 rfl
theorem dX12_goesBy_8 : decode cX12_goesBy 8 = .ok (.imul, 1) := dk_get dk_d04_502 6 rfl
theorem dX12_goesBy_9 : decode cX12_goesBy 9 = .ok (.if_icmp .ge 47, 3) := dk_get dk_d04_502 7 rfl
theorem dX12_goesBy_12 : decode cX12_goesBy 12 = .ok (.aload_n 0, 1) := dk_get dk_d04_502 8 rfl
theorem dX12_goesBy_13 : decode cX12_goesBy 13 = .ok (.getfield 68, 3) := dk_get dk_d04_502 9 rfl
theorem dX12_goesBy_16 : decode cX12_goesBy 16 = .ok (.iload_n 1, 1) := dk_get dk_d04_502 10 rfl
theorem dX12_goesBy_17 : decode cX12_goesBy 17 = .ok (.iaload, 1) := dk_get dk_d04_502 11 rfl
theorem dX12_goesBy_18 : decode cX12_goesBy 18 = .ok (.aload_n 0, 1) := dk_get dk_d04_502 12 rfl
theorem dX12_goesBy_19 : decode cX12_goesBy 19 = .ok (.getfield 7, 3) := dk_get dk_d04_502 13 rfl
theorem dX12_goesBy_22 : decode cX12_goesBy 22 = .ok (.iconst 0, 1) := dk_get dk_d04_502 14 rfl
theorem dX12_goesBy_23 : decode cX12_goesBy 23 = .ok (.iaload, 1) := dk_get dk_d04_502 15 rfl
theorem dX12_goesBy_24 : decode cX12_goesBy 24 = .ok (.if_icmp .ne 25, 3) := dk_get dk_d04_502 16 rfl
theorem dX12_goesBy_27 : decode cX12_goesBy 27 = .ok (.aload_n 0, 1) := dk_get dk_d04_502 17 rfl
theorem dX12_goesBy_28 : decode cX12_goesBy 28 = .ok (.getfield 68, 3) := dk_get dk_d04_502 18 rfl
theorem dX12_goesBy_31 : decode cX12_goesBy 31 = .ok (.iload_n 1, 1) := dk_get dk_d04_502 19 rfl
theorem dX12_goesBy_32 : decode cX12_goesBy 32 = .ok (.iconst 1, 1) := dk_get dk_d04_502 20 rfl
theorem dX12_goesBy_33 : decode cX12_goesBy 33 = .ok (.iadd, 1) := dk_get dk_d04_502 21 rfl
theorem dX12_goesBy_34 : decode cX12_goesBy 34 = .ok (.iaload, 1) := dk_get dk_d04_502 22 rfl
theorem dX12_goesBy_35 : decode cX12_goesBy 35 = .ok (.aload_n 0, 1) := dk_get dk_d04_502 23 rfl
theorem dX12_goesBy_36 : decode cX12_goesBy 36 = .ok (.getfield 7, 3) := dk_get dk_d04_502 24 rfl
theorem dk_d04_503 : dkc cX12_goesBy [(39, .iconst 1, 1), (40, .iaload, 1), (41, .if_icmp .ne 8, 3), (44, .aload_n 0, 1), (45, .iload_n 1, 1), (46, .invokevirtual 390, 3), (49, .iload_n 1, 1), (50, .iconst 5, 1), (51, .iadd, 1), (52, .istore_n 1, 1), (53, .goto (-51), 3), (56, .iconst 0, 1), (57, .istore_n 1, 1), (58, .iconst 0, 1), (59, .istore_n 2, 1), (60, .iload_n 2, 1), (61, .iconst 3, 1), (62, .aload_n 0, 1), (63, .getfield 308, 3), (66, .imul, 1), (67, .if_icmp .ge 83, 3), (70, .aload_n 0, 1), (71, .getfield 65, 3), (74, .iload_n 2, 1), (75, .iconst 1, 1)] = true := by decide +kernel
theorem dX12_goesBy_39 : decode cX12_goesBy 39 = .ok (.iconst 1, 1) := dk_get dk_d04_503 0 rfl
theorem dX12_goesBy_40 : decode cX12_goesBy 40 = .ok (.iaload, 1) := dk_get dk_d04_503 1 rfl
theorem dX12_goesBy_41 : decode cX12_goesBy 41 = .ok (.if_icmp .ne 8, 3) := dk_get dk_d04_503 2 rfl
theorem dX12_goesBy_44 : decode cX12_goesBy 44 = .ok (.aload_n 0, 1) := dk_get dk_d04_503 3 rfl
theorem dX12_goesBy_45 : decode cX12_goesBy 45 = .ok (.iload_n 1, 1) := dk_get dk_d04_503 4 rfl
theorem dX12_goesBy_46 : decode cX12_goesBy 46 = .ok (.invokevirtual 390, 3) := dk_get dk_d04_503 5 rfl
theorem dX12_goesBy_49 : decode cX12_goesBy 49 = .ok (.iload_n 1, 1) := dk_get dk_d04_503 6 rfl
theorem dX12_goesBy_50 : decode cX12_goesBy 50 = .ok (.iconst 5, 1) := dk_get dk_d04_503 7 rfl
theorem dX12_goesBy_51 : decode cX12_goesBy 51 = .ok (.iadd, 1) := dk_get dk_d04_503 8 rfl
theorem dX12_goesBy_52 : decode cX12_goesBy 52 = .ok (.istore_n 1, 1) := dk_get dk_d04_503 9 rfl
theorem dX12_goesBy_53 : decode cX12_goesBy 53 = .ok (.goto (-51), 3) := dk_get dk_d04_503 10 rfl
theorem dX12_goesBy_56 : decode cX12_goesBy 56 = .ok (.iconst 0, 1) := dk_get dk_d04_503 11 rfl
theorem dX12_goesBy_57 : decode cX12_goesBy 57 = .ok (.istore_n 1, 1) := dk_get dk_d04_503 12 rfl
theorem dX12_goesBy_58 : decode cX12_goesBy 58 = .ok (.iconst 0, 1) := dk_get dk_d04_503 13 rfl
theorem dX12_goesBy_59 : decode cX12_goesBy 59 = .ok (.istore_n 2, 1) := dk_get dk_d04_503 14 rfl
theorem dX12_goesBy_60 : decode cX12_goesBy 60 = .ok (.iload_n 2, 1) := dk_get dk_d04_503 15 rfl
theorem dX12_goesBy_61 : decode cX12_goesBy 61 = .ok (.iconst 3, 1) := dk_get dk_d04_503 16 rfl
theorem dX12_goesBy_62 : decode cX12_goesBy 62 = .ok (.aload_n 0, 1) := dk_get dk_d04_503 17 rfl
theorem dX12_goesBy_63 : decode cX12_goesBy 63 = .ok (.getfield 308, 3) := dk_get dk_d04_503 18 rfl
theorem dX12_goesBy_66 : decode cX12_goesBy 66 = .ok (.imul, 1) := dk_get dk_d04_503 19 rfl
theorem dX12_goesBy_67 : decode cX12_goesBy 67 = .ok (.if_icmp .ge 83, 3) := dk_get dk_d04_503 20 rfl
theorem dX12_goesBy_70 : decode cX12_goesBy 70 = .ok (.aload_n 0, 1) := dk_get dk_d04_503 21 rfl
theorem dX12_goesBy_71 : decode cX12_goesBy 71 = .ok (.getfield 65, 3) := dk_get dk_d04_503 22 rfl
theorem dX12_goesBy_74 : decode cX12_goesBy 74 = .ok (.iload_n 2, 1) := dk_get dk_d04_503 23 rfl
theorem dX12_goesBy_75 : decode cX12_goesBy 75 = .ok (.iconst 1, 1) := dk_get dk_d04_503 24 rfl
theorem dk_d04_504 : dkc cX12_goesBy [(76, .iadd, 1), (77, .iaload, 1), (78, .aload_n 0, 1), (79, .getfield 7, 3), (82, .iconst 1, 1), (83, .iaload, 1), (84, .if_icmp .ne 59, 3), (87, .aload_n 0, 1), (88, .aload_n 0, 1), (89, .getfield 65, 3), (92, .iload_n 2, 1), (93, .iaload, 1), (94, .invokevirtual 366, 3), (97, .ifCond .eq 46, 3), (100, .aload_n 0, 1), (101, .aload_n 0, 1), (102, .aload_n 0, 1), (103, .getfield 65, 3), (106, .iload_n 2, 1), (107, .iaload, 1), (108, .invokevirtual 393, 3), (111, .invokevirtual 384, 3), (114, .ifCond .ne 6, 3), (117, .goto 26, 3), (120, .aload_n 0, 1)] = true := by decide +kernel
theorem dX12_goesBy_76 : decode cX12_goesBy 76 = .ok (.iadd, 1) := dk_get dk_d04_504 0 rfl
theorem dX12_goesBy_77 : decode cX12_goesBy 77 = .ok (.iaload, 1) := dk_get dk_d04_504 1 rfl
theorem dX12_goesBy_78 : decode cX12_goesBy 78 = .ok (.aload_n 0, 1) := dk_get dk_d04_504 2 rfl
theorem dX12_goesBy_79 : decode cX12_goesBy 79 = .ok (.getfield 7, 3) := dk_get dk_d04_504 3 rfl
theorem dX12_goesBy_82 : decode cX12_goesBy 82 = .ok (.iconst 1, 1) := dk_get dk_d04_504 4 rfl
theorem dX12_goesBy_83 : decode cX12_goesBy 83 = .ok (.iaload, 1) := dk_get dk_d04_504 5 rfl
theorem dX12_goesBy_84 : decode cX12_goesBy 84 = .ok (.if_icmp .ne 59, 3) := dk_get dk_d04_504 6 rfl
theorem dX12_goesBy_87 : decode cX12_goesBy 87 = .ok (.aload_n 0, 1) := dk_get dk_d04_504 7 rfl
theorem dX12_goesBy_88 : decode cX12_goesBy 88 = .ok (.aload_n 0, 1) := dk_get dk_d04_504 8 rfl
theorem dX12_goesBy_89 : decode cX12_goesBy 89 = .ok (.getfield 65, 3) := dk_get dk_d04_504 9 rfl
theorem dX12_goesBy_92 : decode cX12_goesBy 92 = .ok (.iload_n 2, 1) := dk_get dk_d04_504 10 rfl
theorem dX12_goesBy_93 : decode cX12_goesBy 93 = .ok (.iaload, 1) := dk_get dk_d04_504 11 rfl
theorem dX12_goesBy_94 : decode cX12_goesBy 94 = .ok (.invokevirtual 366, 3) := dk_get dk_d04_504 12 rfl
theorem dX12_goesBy_97 : decode cX12_goesBy 97 = .ok (.ifCond .eq 46, 3) := dk_get dk_d04_504 13 rfl
theorem dX12_goesBy_100 : decode cX12_goesBy 100 = .ok (.aload_n 0, 1) := dk_get dk_d04_504 14 rfl
theorem dX12_goesBy_101 : decode cX12_goesBy 101 = .ok (.aload_n 0, 1) := dk_get dk_d04_504 15 rfl
theorem dX12_goesBy_102 : decode cX12_goesBy 102 = .ok (.aload_n 0, 1) := dk_get dk_d04_504 16 rfl
theorem dX12_goesBy_103 : decode cX12_goesBy 103 = .ok (.getfield 65, 3) := dk_get dk_d04_504 17 rfl
theorem dX12_goesBy_106 : decode cX12_goesBy 106 = .ok (.iload_n 2, 1) := dk_get dk_d04_504 18 rfl
theorem dX12_goesBy_107 : decode cX12_goesBy 107 = .ok (.iaload, 1) := dk_get dk_d04_504 19 rfl
theorem dX12_goesBy_108 : decode cX12_goesBy 108 = .ok (.invokevirtual 393, 3) := dk_get dk_d04_504 20 rfl
theorem dX12_goesBy_111 : decode cX12_goesBy 111 = .ok (.invokevirtual 384, 3) := dk_get dk_d04_504 21 rfl
theorem dX12_goesBy_114 : decode cX12_goesBy 114 = .ok (.ifCond .ne 6, 3) := dk_get dk_d04_504 22 rfl
theorem dX12_goesBy_117 : decode cX12_goesBy 117 = .ok (.goto 26, 3) := dk_get dk_d04_504 23 rfl
theorem dX12_goesBy_120 : decode cX12_goesBy 120 = .ok (.aload_n 0, 1) := dk_get dk_d04_504 24 rfl
theorem dk_d04_505 : dkc cX12_goesBy [(121, .aload_n 0, 1), (122, .getfield 65, 3), (125, .iload_n 2, 1), (126, .iaload, 1), (127, .aload_n 0, 1), (128, .getfield 65, 3), (131, .iload_n 2, 1), (132, .iconst 2, 1), (133, .iadd, 1), (134, .iaload, 1), (135, .invokevirtual 372, 3), (138, .pop, 1), (139, .iload_n 1, 1), (140, .iconst 1, 1), (141, .iadd, 1), (142, .istore_n 1, 1), (143, .iload_n 2, 1), (144, .iconst 3, 1), (145, .iadd, 1), (146, .istore_n 2, 1), (147, .goto (-87), 3), (150, .iconst 0, 1), (151, .istore_n 2, 1), (152, .iload_n 2, 1), (153, .sipush 144, 3)] = true := by decide +kernel
theorem dX12_goesBy_121 : decode cX12_goesBy 121 = .ok (.aload_n 0, 1) := dk_get dk_d04_505 0 rfl
theorem dX12_goesBy_122 : decode cX12_goesBy 122 = .ok (.getfield 65, 3) := dk_get dk_d04_505 1 rfl
theorem dX12_goesBy_125 : decode cX12_goesBy 125 = .ok (.iload_n 2, 1) := dk_get dk_d04_505 2 rfl
theorem dX12_goesBy_126 : decode cX12_goesBy 126 = .ok (.iaload, 1) := dk_get dk_d04_505 3 rfl
theorem dX12_goesBy_127 : decode cX12_goesBy 127 = .ok (.aload_n 0, 1) := dk_get dk_d04_505 4 rfl
theorem dX12_goesBy_128 : decode cX12_goesBy 128 = .ok (.getfield 65, 3) := dk_get dk_d04_505 5 rfl
theorem dX12_goesBy_131 : decode cX12_goesBy 131 = .ok (.iload_n 2, 1) := dk_get dk_d04_505 6 rfl
theorem dX12_goesBy_132 : decode cX12_goesBy 132 = .ok (.iconst 2, 1) := dk_get dk_d04_505 7 rfl
theorem dX12_goesBy_133 : decode cX12_goesBy 133 = .ok (.iadd, 1) := dk_get dk_d04_505 8 rfl
theorem dX12_goesBy_134 : decode cX12_goesBy 134 = .ok (.iaload, 1) := dk_get dk_d04_505 9 rfl
theorem dX12_goesBy_135 : decode cX12_goesBy 135 = .ok (.invokevirtual 372, 3) := dk_get dk_d04_505 10 rfl
theorem dX12_goesBy_138 : decode cX12_goesBy 138 = .ok (.pop, 1) := dk_get dk_d04_505 11 rfl
theorem dX12_goesBy_139 : decode cX12_goesBy 139 = .ok (.iload_n 1, 1) := dk_get dk_d04_505 12 rfl
theorem dX12_goesBy_140 : decode cX12_goesBy 140 = .ok (.iconst 1, 1) := dk_get dk_d04_505 13 rfl
theorem dX12_goesBy_141 : decode cX12_goesBy 141 = .ok (.iadd, 1) := dk_get dk_d04_505 14 rfl
theorem dX12_goesBy_142 : decode cX12_goesBy 142 = .ok (.istore_n 1, 1) := dk_get dk_d04_505 15 rfl
theorem dX12_goesBy_143 : decode cX12_goesBy 143 = .ok (.iload_n 2, 1) := dk_get dk_d04_505 16 rfl
theorem dX12_goesBy_144 : decode cX12_goesBy 144 = .ok (.iconst 3, 1) := dk_get dk_d04_505 17 rfl
theorem dX12_goesBy_145 : decode cX12_goesBy 145 = .ok (.iadd, 1) := dk_get dk_d04_505 18 rfl
theorem dX12_goesBy_146 : decode cX12_goesBy 146 = .ok (.istore_n 2, 1) := dk_get dk_d04_505 19 rfl
theorem dX12_goesBy_147 : decode cX12_goesBy 147 = .ok (.goto (-87), 3) := dk_get dk_d04_505 20 rfl
theorem dX12_goesBy_150 : decode cX12_goesBy 150 = .ok (.iconst 0, 1) := dk_get dk_d04_505 21 rfl
theorem dX12_goesBy_151 : decode cX12_goesBy 151 = .ok (.istore_n 2, 1) := dk_get dk_d04_505 22 rfl
theorem dX12_goesBy_152 : decode cX12_goesBy 152 = .ok (.iload_n 2, 1) := dk_get dk_d04_505 23 rfl
theorem dX12_goesBy_153 : decode cX12_goesBy 153 = .ok (.sipush 144, 3) := dk_get dk_d04_505 24 rfl
theorem dk_d04_506 : dkc cX12_goesBy [(156, .if_icmp .ge 22, 3), (159, .aload_n 0, 1), (160, .iload_n 2, 1), (161, .invokevirtual 332, 3), (164, .ifCond .eq 8, 3), (167, .aload_n 0, 1), (168, .iload_n 2, 1), (169, .invokevirtual 396, 3), (172, .iinc 2 1, 3), (175, .goto (-23), 3), (178, .aload_n 0, 1), (179, .getfield 7, 3), (182, .iconst 1, 1), (183, .iaload, 1), (184, .bipush 11, 2), (186, .if_icmp .ne 10, 3), (189, .aload_n 0, 1), (190, .invokevirtual 399, 3), (193, .goto 17, 3), (196, .aload_n 0, 1), (197, .getfield 7, 3), (200, .iconst 1, 1), (201, .aload_n 0, 1), (202, .getfield 7, 3), (205, .iconst 1, 1)] = true := by decide +kernel
theorem dX12_goesBy_156 : decode cX12_goesBy 156 = .ok (.if_icmp .ge 22, 3) := dk_get dk_d04_506 0 rfl
theorem dX12_goesBy_159 : decode cX12_goesBy 159 = .ok (.aload_n 0, 1) := dk_get dk_d04_506 1 rfl
theorem dX12_goesBy_160 : decode cX12_goesBy 160 = .ok (.iload_n 2, 1) := dk_get dk_d04_506 2 rfl
theorem dX12_goesBy_161 : decode cX12_goesBy 161 = .ok (.invokevirtual 332, 3) := dk_get dk_d04_506 3 rfl
theorem dX12_goesBy_164 : decode cX12_goesBy 164 = .ok (.ifCond .eq 8, 3) := dk_get dk_d04_506 4 rfl
theorem dX12_goesBy_167 : decode cX12_goesBy 167 = .ok (.aload_n 0, 1) := dk_get dk_d04_506 5 rfl
theorem dX12_goesBy_168 : decode cX12_goesBy 168 = .ok (.iload_n 2, 1) := dk_get dk_d04_506 6 rfl
theorem dX12_goesBy_169 : decode cX12_goesBy 169 = .ok (.invokevirtual 396, 3) := dk_get dk_d04_506 7 rfl
theorem dX12_goesBy_172 : decode cX12_goesBy 172 = .ok (.iinc 2 1, 3) := dk_get dk_d04_506 8 rfl
theorem dX12_goesBy_175 : decode cX12_goesBy 175 = .ok (.goto (-23), 3) := dk_get dk_d04_506 9 rfl
theorem dX12_goesBy_178 : decode cX12_goesBy 178 = .ok (.aload_n 0, 1) := dk_get dk_d04_506 10 rfl
theorem dX12_goesBy_179 : decode cX12_goesBy 179 = .ok (.getfield 7, 3) := dk_get dk_d04_506 11 rfl
theorem dX12_goesBy_182 : decode cX12_goesBy 182 = .ok (.iconst 1, 1) := dk_get dk_d04_506 12 rfl
theorem dX12_goesBy_183 : decode cX12_goesBy 183 = .ok (.iaload, 1) := dk_get dk_d04_506 13 rfl
theorem dX12_goesBy_184 : decode cX12_goesBy 184 = .ok (.bipush 11, 2) := dk_get dk_d04_506 14 rfl
theorem dX12_goesBy_186 : decode cX12_goesBy 186 = .ok (.if_icmp .ne 10, 3) := dk_get dk_d04_506 15 rfl
theorem dX12_goesBy_189 : decode cX12_goesBy 189 = .ok (.aload_n 0, 1) := dk_get dk_d04_506 16 rfl
theorem dX12_goesBy_190 : decode cX12_goesBy 190 = .ok (.invokevirtual 399, 3) := dk_get dk_d04_506 17 rfl
theorem dX12_goesBy_193 : decode cX12_goesBy 193 = .ok (.goto 17, 3) := dk_get dk_d04_506 18 rfl
theorem dX12_goesBy_196 : decode cX12_goesBy 196 = .ok (.aload_n 0, 1) := dk_get dk_d04_506 19 rfl
theorem dX12_goesBy_197 : decode cX12_goesBy 197 = .ok (.getfield 7, 3) := dk_get dk_d04_506 20 rfl
theorem dX12_goesBy_200 : decode cX12_goesBy 200 = .ok (.iconst 1, 1) := dk_get dk_d04_506 21 rfl
theorem dX12_goesBy_201 : decode cX12_goesBy 201 = .ok (.aload_n 0, 1) := dk_get dk_d04_506 22 rfl
theorem dX12_goesBy_202 : decode cX12_goesBy 202 = .ok (.getfield 7, 3) := dk_get dk_d04_506 23 rfl
theorem dX12_goesBy_205 : decode cX12_goesBy 205 = .ok (.iconst 1, 1) := dk_get dk_d04_506 24 rfl
theorem dk_d04_507 : dkc cX12_goesBy [(206, .iaload, 1), (207, .iconst 1, 1), (208, .iadd, 1), (209, .iastore, 1), (210, .iload_n 1, 1), (211, .ireturn, 1)] = true := by decide +kernel
theorem dX12_goesBy_206 : decode cX12_goesBy 206 = .ok (.iaload, 1) := dk_get dk_d04_507 0 rfl
theorem dX12_goesBy_207 : decode cX12_goesBy 207 = .ok (.iconst 1, 1) := dk_get dk_d04_507 1 rfl
theorem dX12_goesBy_208 : decode cX12_goesBy 208 = .ok (.iadd, 1) := dk_get dk_d04_507 2 rfl
theorem dX12_goesBy_209 : decode cX12_goesBy 209 = .ok (.iastore, 1) := dk_get dk_d04_507 3 rfl
theorem dX12_goesBy_210 : decode cX12_goesBy 210 = .ok (.iload_n 1, 1) := dk_get dk_d04_507 4 rfl
theorem dX12_goesBy_211 : decode cX12_goesBy 211 = .ok (.ireturn, 1) := dk_get dk_d04_507 5 rfl
theorem dk_d04_508 : dkc cX12_hours [(0, .aload_n 0, 1), (1, .iconst 0, 1), (2, .putfield 140, 3), (5, .aload_n 0, 1), (6, .iload_n 1, 1), (7, .iconst 1, 1), (8, .bipush 60, 2), (10, .invokevirtual 155, 3), (13, .ifCond .eq 27, 3), (16, .aload_n 0, 1), (17, .getfield 7, 3), (20, .iconst 0, 1), (21, .iaload, 1), (22, .aload_n 0, 1), (23, .getfield 7, 3), (26, .iconst 1, 1), (27, .iaload, 1), (28, .iload_n 1, 1), (29, .iadd, 1), (30, .bipush 12, 2), (32, .idiv, 1), (33, .iadd, 1), (34, .sipush 9990, 3), (37, .if_icmp .le 5, 3), (40, .iconst (-1), 1)] = true := by decide +kernel
theorem dX12_hours_0 : decode cX12_hours 0 = .ok (.aload_n 0, 1) := dk_get dk_d04_508 0 rfl
theorem dX12_hours_1 : decode cX12_hours 1 = .ok (.iconst 0, 1) := dk_get dk_d04_508 1 rfl
theorem dX12_hours_2 : decode cX12_hours 2 = .ok (.putfield 140, 3) := dk_get dk_d04_508 2 rfl
theorem dX12_hours_5 : decode cX12_hours 5 = .ok (.aload_n 0, 1) := dk_get dk_d04_508 3 rfl
theorem dX12_hours_6 : decode cX12_hours 6 = .ok (.iload_n 1, 1) := dk_get dk_d04_508 4 rfl
theorem dX12_hours_7 : decode cX12_hours 7 = .ok (.iconst 1, 1) := dk_get dk_d04_508 5 rfl
theorem dX12_hours_8 : decode cX12_hours 8 = .ok (.bipush 60, 2) := dk_get dk_d04_508 6 rfl
theorem dX12_hours_10 : decode cX12_hours 10 = .ok (.invokevirtual 155, 3) := dk_get dk_d04_508 7 rfl
theorem dX12_hours_13 : decode cX12_hours 13 = .ok (.ifCond .eq 27, 3) := dk_get dk_d04_508 8 rfl
theorem dX12_hours_16 : decode cX12_hours 16 = .ok (.aload_n 0, 1) := dk_get dk_d04_508 9 rfl
theorem dX12_hours_17 : decode cX12_hours 17 = .ok (.getfield 7, 3) := dk_get dk_d04_508 10 rfl
theorem dX12_hours_20 : decode cX12_hours 20 = .ok (.iconst 0, 1) := dk_get dk_d04_508 11 rfl
theorem dX12_hours_21 : decode cX12_hours 21 = .ok (.iaload, 1) := dk_get dk_d04_508 12 rfl
theorem dX12_hours_22 : decode cX12_hours 22 = .ok (.aload_n 0, 1) := dk_get dk_d04_508 13 rfl
theorem dX12_hours_23 : decode cX12_hours 23 = .ok (.getfield 7, 3) := dk_get dk_d04_508 14 rfl
theorem dX12_hours_26 : decode cX12_hours 26 = .ok (.iconst 1, 1) := dk_get dk_d04_508 15 rfl
theorem dX12_hours_27 : decode cX12_hours 27 = .ok (.iaload, 1) := dk_get dk_d04_508 16 rfl
theorem dX12_hours_28 : decode cX12_hours 28 = .ok (.iload_n 1, 1) := dk_get dk_d04_508 17 rfl
theorem dX12_hours_29 : decode cX12_hours 29 = .ok (.iadd, 1) := dk_get dk_d04_508 18 rfl
theorem dX12_hours_30 : decode cX12_hours 30 = .ok (.bipush 12, 2) := dk_get dk_d04_508 19 rfl
theorem dX12_hours_32 : decode cX12_hours 32 = .ok (.idiv, 1) := dk_get dk_d04_508 20 rfl
theorem dX12_hours_33 : decode cX12_hours 33 = .ok (.iadd, 1) := dk_get dk_d04_508 21 rfl
theorem dX12_hours_34 : decode cX12_hours 34 = .ok (.sipush 9990, 3) := dk_get dk_d04_508 22 rfl
theorem dX12_hours_37 : decode cX12_hours 37 = .ok (.if_icmp .le 5, 3) := dk_get dk_d04_508 23 rfl
theorem dX12_hours_40 : decode cX12_hours 40 = .ok (.iconst (-1), 1) := dk_get dk_d04_508 24 rfl
theorem dk_d04_509 : dkc cX12_hours [(41, .ireturn, 1), (42, .iconst 0, 1), (43, .istore_n 2, 1), (44, .iconst 0, 1), (45, .istore_n 3, 1), (46, .iload_n 3, 1), (47, .iload_n 1, 1), (48, .if_icmp .ge 20, 3), (51, .aload_n 0, 1), (52, .invokevirtual 369, 3), (55, .iload_n 2, 1), (56, .aload_n 0, 1), (57, .invokevirtual 402, 3), (60, .iadd, 1), (61, .istore_n 2, 1), (62, .iinc 3 1, 3), (65, .goto (-19), 3), (68, .iload_n 2, 1), (69, .ireturn, 1)] = true := by decide +kernel
theorem dX12_hours_41 : decode cX12_hours 41 = .ok (.ireturn, 1) := dk_get dk_d04_509 0 rfl
theorem dX12_hours_42 : decode cX12_hours 42 = .ok (.iconst 0, 1) := dk_get dk_d04_509 1 rfl
theorem dX12_hours_43 : decode cX12_hours 43 = .ok (.istore_n 2, 1) := dk_get dk_d04_509 2 rfl
theorem dX12_hours_44 : decode cX12_hours 44 = .ok (.iconst 0, 1) := dk_get dk_d04_509 3 rfl
theorem dX12_hours_45 : decode cX12_hours 45 = .ok (.istore_n 3, 1) := dk_get dk_d04_509 4 rfl
theorem dX12_hours_46 : decode cX12_hours 46 = .ok (.iload_n 3, 1) := dk_get dk_d04_509 5 rfl
theorem dX12_hours_47 : decode cX12_hours 47 = .ok (.iload_n 1, 1) := dk_get dk_d04_509 6 rfl
theorem dX12_hours_48 : decode cX12_hours 48 = .ok (.if_icmp .ge 20, 3) := dk_get dk_d04_509 7 rfl
theorem dX12_hours_51 : decode cX12_hours 51 = .ok (.aload_n 0, 1) := dk_get dk_d04_509 8 rfl
theorem dX12_hours_52 : decode cX12_hours 52 = .ok (.invokevirtual 369, 3) := dk_get dk_d04_509 9 rfl
theorem dX12_hours_55 : decode cX12_hours 55 = .ok (.iload_n 2, 1) := dk_get dk_d04_509 10 rfl
theorem dX12_hours_56 : decode cX12_hours 56 = .ok (.aload_n 0, 1) := dk_get dk_d04_509 11 rfl
theorem dX12_hours_57 : decode cX12_hours 57 = .ok (.invokevirtual 402, 3) := dk_get dk_d04_509 12 rfl
theorem dX12_hours_60 : decode cX12_hours 60 = .ok (.iadd, 1) := dk_get dk_d04_509 13 rfl
theorem dX12_hours_61 : decode cX12_hours 61 = .ok (.istore_n 2, 1) := dk_get dk_d04_509 14 rfl
theorem dX12_hours_62 : decode cX12_hours 62 = .ok (.iinc 3 1, 3) := dk_get dk_d04_509 15 rfl
theorem dX12_hours_65 : decode cX12_hours 65 = .ok (.goto (-19), 3) := dk_get dk_d04_509 16 rfl
theorem dX12_hours_68 : decode cX12_hours 68 = .ok (.iload_n 2, 1) := dk_get dk_d04_509 17 rfl
theorem dX12_hours_69 : decode cX12_hours 69 = .ok (.ireturn, 1) := dk_get dk_d04_509 18 rfl
theorem dk_d04_510 : dkc cX12_of [(0, .aload_n 0, 1), (1, .iconst 0, 1), (2, .putfield 140, 3), (5, .aload_n 0, 1), (6, .iload_n 1, 1), (7, .invokevirtual 159, 3), (10, .ifCond .ne 6, 3), (13, .bipush (-2), 2), (15, .ireturn, 1), (16, .iload_n 2, 1), (17, .ifCond .ne 10, 3), (20, .aload_n 0, 1), (21, .getfield 19, 3), (24, .iload_n 1, 1), (25, .iaload, 1), (26, .ireturn, 1), (27, .iload_n 2, 1), (28, .iconst 1, 1), (29, .if_icmp .ne 13, 3), (32, .aload_n 0, 1), (33, .getfield 7, 3), (36, .bipush 7, 2), (38, .iload_n 1, 1), (39, .iadd, 1), (40, .iaload, 1)] = true := by decide +kernel
theorem dX12_of_0 : decode cX12_of 0 = .ok (.aload_n 0, 1) := dk_get dk_d04_510 0 rfl
theorem dX12_of_1 : decode cX12_of 1 = .ok (.iconst 0, 1) := dk_get dk_d04_510 1 rfl
theorem dX12_of_2 : decode cX12_of 2 = .ok (.putfield 140, 3) := dk_get dk_d04_510 2 rfl
theorem dX12_of_5 : decode cX12_of 5 = .ok (.aload_n 0, 1) := dk_get dk_d04_510 3 rfl
theorem dX12_of_6 : decode cX12_of 6 = .ok (.iload_n 1, 1) := dk_get dk_d04_510 4 rfl
theorem dX12_of_7 : decode cX12_of 7 = .ok (.invokevirtual 159, 3) := dk_get dk_d04_510 5 rfl
theorem dX12_of_10 : decode cX12_of 10 = .ok (.ifCond .ne 6, 3) := dk_get dk_d04_510 6 rfl
theorem dX12_of_13 : decode cX12_of 13 = .ok (.bipush (-2), 2) := dk_get dk_d04_510 7 rfl
theorem dX12_of_15 : decode cX12_of 15 = .ok (.ireturn, 1) := dk_get dk_d04_510 8 rfl
theorem dX12_of_16 : decode cX12_of 16 = .ok (.iload_n 2, 1) := dk_get dk_d04_510 9 rfl
theorem dX12_of_17 : decode cX12_of 17 = .ok (.ifCond .ne 10, 3) := dk_get dk_d04_510 10 rfl
theorem dX12_of_20 : decode cX12_of 20 = .ok (.aload_n 0, 1) := dk_get dk_d04_510 11 rfl
theorem dX12_of_21 : decode cX12_of 21 = .ok (.getfield 19, 3) := dk_get dk_d04_510 12 rfl
theorem dX12_of_24 : decode cX12_of 24 = .ok (.iload_n 1, 1) := dk_get dk_d04_510 13 rfl
theorem dX12_of_25 : decode cX12_of 25 = .ok (.iaload, 1) := dk_get dk_d04_510 14 rfl
theorem dX12_of_26 : decode cX12_of 26 = .ok (.ireturn, 1) := dk_get dk_d04_510 15 rfl
theorem dX12_of_27 : decode cX12_of 27 = .ok (.iload_n 2, 1) := dk_get dk_d04_510 16 rfl
theorem dX12_of_28 : decode cX12_of 28 = .ok (.iconst 1, 1) := dk_get dk_d04_510 17 rfl
theorem dX12_of_29 : decode cX12_of 29 = .ok (.if_icmp .ne 13, 3) := dk_get dk_d04_510 18 rfl
theorem dX12_of_32 : decode cX12_of 32 = .ok (.aload_n 0, 1) := dk_get dk_d04_510 19 rfl
theorem dX12_of_33 : decode cX12_of 33 = .ok (.getfield 7, 3) := dk_get dk_d04_510 20 rfl
theorem dX12_of_36 : decode cX12_of 36 = .ok (.bipush 7, 2) := dk_get dk_d04_510 21 rfl
theorem dX12_of_38 : decode cX12_of 38 = .ok (.iload_n 1, 1) := dk_get dk_d04_510 22 rfl
theorem dX12_of_39 : decode cX12_of 39 = .ok (.iadd, 1) := dk_get dk_d04_510 23 rfl
theorem dX12_of_40 : decode cX12_of 40 = .ok (.iaload, 1) := dk_get dk_d04_510 24 rfl
theorem dk_d04_511 : dkc cX12_of [(41, .ireturn, 1), (42, .iload_n 2, 1), (43, .iconst 2, 1), (44, .if_icmp .ne 10, 3), (47, .aload_n 0, 1), (48, .getfield 22, 3), (51, .iload_n 1, 1), (52, .iaload, 1), (53, .ireturn, 1), (54, .iload_n 2, 1), (55, .iconst 3, 1), (56, .if_icmp .ne 10, 3), (59, .aload_n 0, 1), (60, .getfield 25, 3), (63, .iload_n 1, 1), (64, .iaload, 1), (65, .ireturn, 1), (66, .iload_n 2, 1), (67, .iconst 4, 1), (68, .if_icmp .ne 13, 3), (71, .aload_n 0, 1), (72, .getfield 7, 3), (75, .bipush 27, 2), (77, .iload_n 1, 1), (78, .iadd, 1)] = true := by decide +kernel
theorem dX12_of_41 : decode cX12_of 41 = .ok (.ireturn, 1) := dk_get dk_d04_511 0 rfl
theorem dX12_of_42 : decode cX12_of 42 = .ok (.iload_n 2, 1) := dk_get dk_d04_511 1 rfl
theorem dX12_of_43 : decode cX12_of 43 = .ok (.iconst 2, 1) := dk_get dk_d04_511 2 rfl
theorem dX12_of_44 : decode cX12_of 44 = .ok (.if_icmp .ne 10, 3) := dk_get dk_d04_511 3 rfl
theorem dX12_of_47 : decode cX12_of 47 = .ok (.aload_n 0, 1) := dk_get dk_d04_511 4 rfl
theorem dX12_of_48 : decode cX12_of 48 = .ok (.getfield 22, 3) := dk_get dk_d04_511 5 rfl
theorem dX12_of_51 : decode cX12_of 51 = .ok (.iload_n 1, 1) := dk_get dk_d04_511 6 rfl
theorem dX12_of_52 : decode cX12_of 52 = .ok (.iaload, 1) := dk_get dk_d04_511 7 rfl
theorem dX12_of_53 : decode cX12_of 53 = .ok (.ireturn, 1) := dk_get dk_d04_511 8 rfl
theorem dX12_of_54 : decode cX12_of 54 = .ok (.iload_n 2, 1) := dk_get dk_d04_511 9 rfl
theorem dX12_of_55 : decode cX12_of 55 = .ok (.iconst 3, 1) := dk_get dk_d04_511 10 rfl
theorem dX12_of_56 : decode cX12_of 56 = .ok (.if_icmp .ne 10, 3) := dk_get dk_d04_511 11 rfl
theorem dX12_of_59 : decode cX12_of 59 = .ok (.aload_n 0, 1) := dk_get dk_d04_511 12 rfl
theorem dX12_of_60 : decode cX12_of 60 = .ok (.getfield 25, 3) := dk_get dk_d04_511 13 rfl
theorem dX12_of_63 : decode cX12_of 63 = .ok (.iload_n 1, 1) := dk_get dk_d04_511 14 rfl
theorem dX12_of_64 : decode cX12_of 64 = .ok (.iaload, 1) := dk_get dk_d04_511 15 rfl
theorem dX12_of_65 : decode cX12_of 65 = .ok (.ireturn, 1) := dk_get dk_d04_511 16 rfl
theorem dX12_of_66 : decode cX12_of 66 = .ok (.iload_n 2, 1) := dk_get dk_d04_511 17 rfl
theorem dX12_of_67 : decode cX12_of 67 = .ok (.iconst 4, 1) := dk_get dk_d04_511 18 rfl
theorem dX12_of_68 : decode cX12_of 68 = .ok (.if_icmp .ne 13, 3) := dk_get dk_d04_511 19 rfl
theorem dX12_of_71 : decode cX12_of 71 = .ok (.aload_n 0, 1) := dk_get dk_d04_511 20 rfl
theorem dX12_of_72 : decode cX12_of 72 = .ok (.getfield 7, 3) := dk_get dk_d04_511 21 rfl
theorem dX12_of_75 : decode cX12_of 75 = .ok (.bipush 27, 2) := dk_get dk_d04_511 22 rfl
theorem dX12_of_77 : decode cX12_of 77 = .ok (.iload_n 1, 1) := dk_get dk_d04_511 23 rfl
theorem dX12_of_78 : decode cX12_of 78 = .ok (.iadd, 1) := dk_get dk_d04_511 24 rfl
theorem dk_d04_512 : dkc cX12_of [(79, .iaload, 1), (80, .ireturn, 1), (81, .iload_n 2, 1), (82, .iconst 5, 1), (83, .if_icmp .ne 13, 3), (86, .aload_n 0, 1), (87, .getfield 7, 3), (90, .bipush 47, 2), (92, .iload_n 1, 1), (93, .iadd, 1), (94, .iaload, 1), (95, .ireturn, 1), (96, .iload_n 2, 1), (97, .bipush 6, 2), (99, .if_icmp .ne 11, 3), (102, .aload_n 0, 1), (103, .iload_n 1, 1), (104, .invokevirtual 393, 3), (107, .goto 20, 3), (110, .iload_n 2, 1), (111, .bipush 7, 2), (113, .if_icmp .ne 12, 3), (116, .aload_n 0, 1), (117, .getfield 71, 3), (120, .iload_n 1, 1)] = true := by decide +kernel
theorem dX12_of_79 : decode cX12_of 79 = .ok (.iaload, 1) := dk_get dk_d04_512 0 rfl
theorem dX12_of_80 : decode cX12_of 80 = .ok (.ireturn, 1) := dk_get dk_d04_512 1 rfl
theorem dX12_of_81 : decode cX12_of 81 = .ok (.iload_n 2, 1) := dk_get dk_d04_512 2 rfl
theorem dX12_of_82 : decode cX12_of 82 = .ok (.iconst 5, 1) := dk_get dk_d04_512 3 rfl
theorem dX12_of_83 : decode cX12_of 83 = .ok (.if_icmp .ne 13, 3) := dk_get dk_d04_512 4 rfl
theorem dX12_of_86 : decode cX12_of 86 = .ok (.aload_n 0, 1) := dk_get dk_d04_512 5 rfl
theorem dX12_of_87 : decode cX12_of 87 = .ok (.getfield 7, 3) := dk_get dk_d04_512 6 rfl
theorem dX12_of_90 : decode cX12_of 90 = .ok (.bipush 47, 2) := dk_get dk_d04_512 7 rfl
theorem dX12_of_92 : decode cX12_of 92 = .ok (.iload_n 1, 1) := dk_get dk_d04_512 8 rfl
theorem dX12_of_93 : decode cX12_of 93 = .ok (.iadd, 1) := dk_get dk_d04_512 9 rfl
theorem dX12_of_94 : decode cX12_of 94 = .ok (.iaload, 1) := dk_get dk_d04_512 10 rfl
theorem dX12_of_95 : decode cX12_of 95 = .ok (.ireturn, 1) := dk_get dk_d04_512 11 rfl
theorem dX12_of_96 : decode cX12_of 96 = .ok (.iload_n 2, 1) := dk_get dk_d04_512 12 rfl
theorem dX12_of_97 : decode cX12_of 97 = .ok (.bipush 6, 2) := dk_get dk_d04_512 13 rfl
theorem dX12_of_99 : decode cX12_of 99 = .ok (.if_icmp .ne 11, 3) := dk_get dk_d04_512 14 rfl
theorem dX12_of_102 : decode cX12_of 102 = .ok (.aload_n 0, 1) := dk_get dk_d04_512 15 rfl
theorem dX12_of_103 : decode cX12_of 103 = .ok (.iload_n 1, 1) := dk_get dk_d04_512 16 rfl
theorem dX12_of_104 : decode cX12_of 104 = .ok (.invokevirtual 393, 3) := dk_get dk_d04_512 17 rfl
theorem dX12_of_107 : decode cX12_of 107 = .ok (.goto 20, 3) := dk_get dk_d04_512 18 rfl
theorem dX12_of_110 : decode cX12_of 110 = .ok (.iload_n 2, 1) := dk_get dk_d04_512 19 rfl
theorem dX12_of_111 : decode cX12_of 111 = .ok (.bipush 7, 2) := dk_get dk_d04_512 20 rfl
theorem dX12_of_113 : decode cX12_of 113 = .ok (.if_icmp .ne 12, 3) := dk_get dk_d04_512 21 rfl
theorem dX12_of_116 : decode cX12_of 116 = .ok (.aload_n 0, 1) := dk_get dk_d04_512 22 rfl
theorem dX12_of_117 : decode cX12_of 117 = .ok (.getfield 71, 3) := dk_get dk_d04_512 23 rfl
theorem dX12_of_120 : decode cX12_of 120 = .ok (.iload_n 1, 1) := dk_get dk_d04_512 24 rfl
theorem dk_d04_513 : dkc cX12_of [(121, .iaload, 1), (122, .goto 5, 3), (125, .bipush (-2), 2), (127, .ireturn, 1)] = true := by decide +kernel
theorem dX12_of_121 : decode cX12_of 121 = .ok (.iaload, 1) := dk_get dk_d04_513 0 rfl
theorem dX12_of_122 : decode cX12_of 122 = .ok (.goto 5, 3) := dk_get dk_d04_513 1 rfl
theorem dX12_of_125 : decode cX12_of 125 = .ok (.bipush (-2), 2) := dk_get dk_d04_513 2 rfl
theorem dX12_of_127 : decode cX12_of 127 = .ok (.ireturn, 1) := dk_get dk_d04_513 3 rfl
theorem dk_d04_514 : dkc cX12_cell [(0, .aload_n 0, 1), (1, .iconst 0, 1), (2, .putfield 140, 3), (5, .aload_n 0, 1), (6, .iload_n 1, 1), (7, .iconst 0, 1), (8, .bipush 11, 2), (10, .invokevirtual 155, 3), (13, .ifCond .eq 24, 3), (16, .aload_n 0, 1), (17, .iload_n 2, 1), (18, .iconst 0, 1), (19, .bipush 11, 2), (21, .invokevirtual 155, 3), (24, .ifCond .eq 13, 3), (27, .aload_n 0, 1), (28, .iload_n 3, 1), (29, .iconst 0, 1), (30, .iconst 4, 1), (31, .invokevirtual 155, 3), (34, .ifCond .ne 6, 3), (37, .bipush (-2), 2), (39, .ireturn, 1), (40, .bipush 12, 2), (42, .iload_n 1, 1)] = true := by decide +kernel
theorem dX12_cell_0 : decode cX12_cell 0 = .ok (.aload_n 0, 1) := dk_get dk_d04_514 0 rfl
theorem dX12_cell_1 : decode cX12_cell 1 = .ok (.iconst 0, 1) := dk_get dk_d04_514 1 rfl
theorem dX12_cell_2 : decode cX12_cell 2 = .ok (.putfield 140, 3) := dk_get dk_d04_514 2 rfl
theorem dX12_cell_5 : decode cX12_cell 5 = .ok (.aload_n 0, 1) := dk_get dk_d04_514 3 rfl
theorem dX12_cell_6 : decode cX12_cell 6 = .ok (.iload_n 1, 1) := dk_get dk_d04_514 4 rfl
theorem dX12_cell_7 : decode cX12_cell 7 = .ok (.iconst 0, 1) := dk_get dk_d04_514 5 rfl
theorem dX12_cell_8 : decode cX12_cell 8 = .ok (.bipush 11, 2) := dk_get dk_d04_514 6 rfl
theorem dX12_cell_10 : decode cX12_cell 10 = .ok (.invokevirtual 155, 3) := dk_get dk_d04_514 7 rfl
theorem dX12_cell_13 : decode cX12_cell 13 = .ok (.ifCond .eq 24, 3) := dk_get dk_d04_514 8 rfl
theorem dX12_cell_16 : decode cX12_cell 16 = .ok (.aload_n 0, 1) := dk_get dk_d04_514 9 rfl
theorem dX12_cell_17 : decode cX12_cell 17 = .ok (.iload_n 2, 1) := dk_get dk_d04_514 10 rfl
theorem dX12_cell_18 : decode cX12_cell 18 = .ok (.iconst 0, 1) := dk_get dk_d04_514 11 rfl
theorem dX12_cell_19 : decode cX12_cell 19 = .ok (.bipush 11, 2) := dk_get dk_d04_514 12 rfl
theorem dX12_cell_21 : decode cX12_cell 21 = .ok (.invokevirtual 155, 3) := dk_get dk_d04_514 13 rfl
theorem dX12_cell_24 : decode cX12_cell 24 = .ok (.ifCond .eq 13, 3) := dk_get dk_d04_514 14 rfl
theorem dX12_cell_27 : decode cX12_cell 27 = .ok (.aload_n 0, 1) := dk_get dk_d04_514 15 rfl
theorem dX12_cell_28 : decode cX12_cell 28 = .ok (.iload_n 3, 1) := dk_get dk_d04_514 16 rfl
theorem dX12_cell_29 : decode cX12_cell 29 = .ok (.iconst 0, 1) := dk_get dk_d04_514 17 rfl
theorem dX12_cell_30 : decode cX12_cell 30 = .ok (.iconst 4, 1) := dk_get dk_d04_514 18 rfl
theorem dX12_cell_31 : decode cX12_cell 31 = .ok (.invokevirtual 155, 3) := dk_get dk_d04_514 19 rfl
theorem dX12_cell_34 : decode cX12_cell 34 = .ok (.ifCond .ne 6, 3) := dk_get dk_d04_514 20 rfl
theorem dX12_cell_37 : decode cX12_cell 37 = .ok (.bipush (-2), 2) := dk_get dk_d04_514 21 rfl
theorem dX12_cell_39 : decode cX12_cell 39 = .ok (.ireturn, 1) := dk_get dk_d04_514 22 rfl
theorem dX12_cell_40 : decode cX12_cell 40 = .ok (.bipush 12, 2) := dk_get dk_d04_514 23 rfl
theorem dX12_cell_42 : decode cX12_cell 42 = .ok (.iload_n 1, 1) := dk_get dk_d04_514 24 rfl
theorem dk_d04_515 : dkc cX12_cell [(43, .imul, 1), (44, .iload_n 2, 1), (45, .iadd, 1), (46, .istore 4, 2), (48, .iload_n 3, 1), (49, .ifCond .ne 16, 3), (52, .aload_n 0, 1), (53, .getfield 7, 3), (56, .bipush 67, 2), (58, .iload 4, 2), (60, .iadd, 1), (61, .iaload, 1), (62, .iconst 1, 1), (63, .isub, 1), (64, .ireturn, 1), (65, .iload_n 3, 1), (66, .iconst 1, 1), (67, .if_icmp .ne 15, 3), (70, .aload_n 0, 1), (71, .getfield 7, 3), (74, .sipush 211, 3), (77, .iload 4, 2), (79, .iadd, 1), (80, .iaload, 1), (81, .ireturn, 1)] = true := by decide +kernel
theorem dX12_cell_43 : decode cX12_cell 43 = .ok (.imul, 1) := dk_get dk_d04_515 0 rfl
theorem dX12_cell_44 : decode cX12_cell 44 = .ok (.iload_n 2, 1) := dk_get dk_d04_515 1 rfl
theorem dX12_cell_45 : decode cX12_cell 45 = .ok (.iadd, 1) := dk_get dk_d04_515 2 rfl
theorem dX12_cell_46 : decode cX12_cell 46 = .ok (.istore 4, 2) := dk_get dk_d04_515 3 rfl
theorem dX12_cell_48 : decode cX12_cell 48 = .ok (.iload_n 3, 1) := dk_get dk_d04_515 4 rfl
theorem dX12_cell_49 : decode cX12_cell 49 = .ok (.ifCond .ne 16, 3) := dk_get dk_d04_515 5 rfl
theorem dX12_cell_52 : decode cX12_cell 52 = .ok (.aload_n 0, 1) := dk_get dk_d04_515 6 rfl
theorem dX12_cell_53 : decode cX12_cell 53 = .ok (.getfield 7, 3) := dk_get dk_d04_515 7 rfl
theorem dX12_cell_56 : decode cX12_cell 56 = .ok (.bipush 67, 2) := dk_get dk_d04_515 8 rfl
theorem dX12_cell_58 : decode cX12_cell 58 = .ok (.iload 4, 2) := dk_get dk_d04_515 9 rfl
theorem dX12_cell_60 : decode cX12_cell 60 = .ok (.iadd, 1) := dk_get dk_d04_515 10 rfl
theorem dX12_cell_61 : decode cX12_cell 61 = .ok (.iaload, 1) := dk_get dk_d04_515 11 rfl
theorem dX12_cell_62 : decode cX12_cell 62 = .ok (.iconst 1, 1) := dk_get dk_d04_515 12 rfl
theorem dX12_cell_63 : decode cX12_cell 63 = .ok (.isub, 1) := dk_get dk_d04_515 13 rfl
theorem dX12_cell_64 : decode cX12_cell 64 = .ok (.ireturn, 1) := dk_get dk_d04_515 14 rfl
theorem dX12_cell_65 : decode cX12_cell 65 = .ok (.iload_n 3, 1) := dk_get dk_d04_515 15 rfl
theorem dX12_cell_66 : decode cX12_cell 66 = .ok (.iconst 1, 1) := dk_get dk_d04_515 16 rfl
theorem dX12_cell_67 : decode cX12_cell 67 = .ok (.if_icmp .ne 15, 3) := dk_get dk_d04_515 17 rfl
theorem dX12_cell_70 : decode cX12_cell 70 = .ok (.aload_n 0, 1) := dk_get dk_d04_515 18 rfl
theorem dX12_cell_71 : decode cX12_cell 71 = .ok (.getfield 7, 3) := dk_get dk_d04_515 19 rfl
theorem dX12_cell_74 : decode cX12_cell 74 = .ok (.sipush 211, 3) := dk_get dk_d04_515 20 rfl
theorem dX12_cell_77 : decode cX12_cell 77 = .ok (.iload 4, 2) := dk_get dk_d04_515 21 rfl
theorem dX12_cell_79 : decode cX12_cell 79 = .ok (.iadd, 1) := dk_get dk_d04_515 22 rfl
theorem dX12_cell_80 : decode cX12_cell 80 = .ok (.iaload, 1) := dk_get dk_d04_515 23 rfl
theorem dX12_cell_81 : decode cX12_cell 81 = .ok (.ireturn, 1) := dk_get dk_d04_515 24 rfl
theorem dk_d04_516 : dkc cX12_cell [(82, .iload_n 3, 1), (83, .iconst 2, 1), (84, .if_icmp .ne 15, 3), (87, .aload_n 0, 1), (88, .getfield 7, 3), (91, .sipush 355, 3), (94, .iload 4, 2), (96, .iadd, 1), (97, .iaload, 1), (98, .ireturn, 1), (99, .aload_n 0, 1), (100, .iload 4, 2), (102, .invokevirtual 332, 3), (105, .ifCond .ne 7, 3), (108, .iconst (-1), 1), (109, .goto 23, 3), (112, .iload_n 3, 1), (113, .iconst 3, 1), (114, .if_icmp .ne 12, 3), (117, .aload_n 0, 1), (118, .iload 4, 2), (120, .invokevirtual 381, 3), (123, .goto 9, 3)] = true := by decide +kernel
theorem dX12_cell_82 : decode cX12_cell 82 = .ok (.iload_n 3, 1) := dk_get dk_d04_516 0 rfl
theorem dX12_cell_83 : decode cX12_cell 83 = .ok (.iconst 2, 1) := dk_get dk_d04_516 1 rfl
theorem dX12_cell_84 : decode cX12_cell 84 = .ok (.if_icmp .ne 15, 3) := dk_get dk_d04_516 2 rfl
theorem dX12_cell_87 : decode cX12_cell 87 = .ok (.aload_n 0, 1) := dk_get dk_d04_516 3 rfl
theorem dX12_cell_88 : decode cX12_cell 88 = .ok (.getfield 7, 3) := dk_get dk_d04_516 4 rfl
theorem dX12_cell_91 : decode cX12_cell 91 = .ok (.sipush 355, 3) := dk_get dk_d04_516 5 rfl
theorem dX12_cell_94 : decode cX12_cell 94 = .ok (.iload 4, 2) := dk_get dk_d04_516 6 rfl
theorem dX12_cell_96 : decode cX12_cell 96 = .ok (.iadd, 1) := dk_get dk_d04_516 7 rfl
theorem dX12_cell_97 : decode cX12_cell 97 = .ok (.iaload, 1) := dk_get dk_d04_516 8 rfl
theorem dX12_cell_98 : decode cX12_cell 98 = .ok (.ireturn, 1) := dk_get dk_d04_516 9 rfl
theorem dX12_cell_99 : decode cX12_cell 99 = .ok (.aload_n 0, 1) := dk_get dk_d04_516 10 rfl
theorem dX12_cell_100 : decode cX12_cell 100 = .ok (.iload 4, 2) := dk_get dk_d04_516 11 rfl
theorem dX12_cell_102 : decode cX12_cell 102 = .ok (.invokevirtual 332, 3) := dk_get dk_d04_516 12 rfl
theorem dX12_cell_105 : decode cX12_cell 105 = .ok (.ifCond .ne 7, 3) := dk_get dk_d04_516 13 rfl
theorem dX12_cell_108 : decode cX12_cell 108 = .ok (.iconst (-1), 1) := dk_get dk_d04_516 14 rfl
theorem dX12_cell_109 : decode cX12_cell 109 = .ok (.goto 23, 3) := dk_get dk_d04_516 15 rfl
theorem dX12_cell_112 : decode cX12_cell 112 = .ok (.iload_n 3, 1) := dk_get dk_d04_516 16 rfl
theorem dX12_cell_113 : decode cX12_cell 113 = .ok (.iconst 3, 1) := dk_get dk_d04_516 17 rfl
theorem dX12_cell_114 : decode cX12_cell 114 = .ok (.if_icmp .ne 12, 3) := dk_get dk_d04_516 18 rfl
theorem dX12_cell_117 : decode cX12_cell 117 = .ok (.aload_n 0, 1) := dk_get dk_d04_516 19 rfl
theorem dX12_cell_118 : decode cX12_cell 118 = .ok (.iload 4, 2) := dk_get dk_d04_516 20 rfl
theorem dX12_cell_120 : decode cX12_cell 120 = .ok (.invokevirtual 381, 3) := dk_get dk_d04_516 21 rfl
theorem dX12_cell_123 : decode cX12_cell 123 = .ok (.goto 9, 3) := dk_get dk_d04_516 22 rfl

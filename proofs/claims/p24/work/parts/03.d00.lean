theorem dX0_init_0 : decode cX0_init 0 = .ok (.aload_n 0, 1) := by decide +kernel
theorem dX0_init_1 : decode cX0_init 1 = .ok (.invokespecial 3, 3) := by decide +kernel
theorem dX0_init_4 : decode cX0_init 4 = .ok (.aload_n 0, 1) := by decide +kernel
theorem dX0_init_5 : decode cX0_init 5 = .ok (.bipush 120, 2) := by decide +kernel
theorem dX0_init_7 : decode cX0_init 7 = .ok (.newarray .int, 2) := by decide +kernel
theorem dX0_init_9 : decode cX0_init 9 = .ok (.putfield 9, 3) := by decide +kernel
theorem dX0_init_12 : decode cX0_init 12 = .ok (.aload_n 0, 1) := by decide +kernel
theorem dX0_init_13 : decode cX0_init 13 = .ok (.sipush 144, 3) := by decide +kernel
theorem dX0_init_16 : decode cX0_init 16 = .ok (.newarray .int, 2) := by decide +kernel
theorem dX0_init_18 : decode cX0_init 18 = .ok (.putfield 15, 3) := by decide +kernel
theorem dX0_init_21 : decode cX0_init 21 = .ok (.aload_n 0, 1) := by decide +kernel
theorem dX0_init_22 : decode cX0_init 22 = .ok (.iconst 0, 1) := by decide +kernel
theorem dX0_init_23 : decode cX0_init 23 = .ok (.putfield 18, 3) := by decide +kernel
theorem dX0_init_26 : decode cX0_init 26 = .ok (.aload_n 0, 1) := by decide +kernel
theorem dX0_init_27 : decode cX0_init 27 = .ok (.iconst 0, 1) := by decide +kernel
theorem dX0_init_28 : decode cX0_init 28 = .ok (.putfield 22, 3) := by decide +kernel
theorem dX0_init_31 : decode cX0_init 31 = .ok (.aload_n 0, 1) := by decide +kernel
theorem dX0_init_32 : decode cX0_init 32 = .ok (.iconst 0, 1) := by decide +kernel
theorem dX0_init_33 : decode cX0_init 33 = .ok (.putfield 25, 3) := by decide +kernel
theorem dX0_init_36 : decode cX0_init 36 = .ok (.aload_n 0, 1) := by decide +kernel
theorem dX0_init_37 : decode cX0_init 37 = .ok (.iconst 0, 1) := by decide +kernel
theorem dX0_init_38 : decode cX0_init 38 = .ok (.putfield 28, 3) := by decide +kernel
theorem dX0_init_41 : decode cX0_init 41 = .ok (.aload_n 0, 1) := by decide +kernel
theorem dX0_init_42 : decode cX0_init 42 = .ok (.iconst 0, 1) := by decide +kernel
theorem dX0_init_43 : decode cX0_init 43 = .ok (.putfield 31, 3) := by decide +kernel
theorem dX0_init_46 : decode cX0_init 46 = .ok (.aload_n 0, 1) := by decide +kernel
theorem dX0_init_47 : decode cX0_init 47 = .ok (.iconst 0, 1) := by decide +kernel
theorem dX0_init_48 : decode cX0_init 48 = .ok (.putfield 34, 3) := by decide +kernel
theorem dX0_init_51 : decode cX0_init 51 = .ok (.aload_n 0, 1) := by decide +kernel
theorem dX0_init_52 : decode cX0_init 52 = .ok (.iconst 0, 1) := by decide +kernel
theorem dX0_init_53 : decode cX0_init 53 = .ok (.putfield 37, 3) := by decide +kernel
theorem dX0_init_56 : decode cX0_init 56 = .ok (.aload_n 0, 1) := by decide +kernel
theorem dX0_init_57 : decode cX0_init 57 = .ok (.iconst 0, 1) := by decide +kernel
theorem dX0_init_58 : decode cX0_init 58 = .ok (.putfield 40, 3) := by decide +kernel
theorem dX0_init_61 : decode cX0_init 61 = .ok (.return_, 1) := by decide +kernel
theorem dX0_takeOver_0 : decode cX0_takeOver 0 = .ok (.aload_n 1, 1) := by decide +kernel
theorem dX0_takeOver_1 : decode cX0_takeOver 1 = .ok (.getfield 9, 3) := by decide +kernel
theorem dX0_takeOver_4 : decode cX0_takeOver 4 = .ok (.iconst 0, 1) := by decide +kernel
theorem dX0_takeOver_5 : decode cX0_takeOver 5 = .ok (.aload_n 0, 1) := by decide +kernel
theorem dX0_takeOver_6 : decode cX0_takeOver 6 = .ok (.getfield 9, 3) := by decide +kernel
theorem dX0_takeOver_9 : decode cX0_takeOver 9 = .ok (.iconst 0, 1) := by decide +kernel
theorem dX0_takeOver_10 : decode cX0_takeOver 10 = .ok (.bipush 120, 2) := by decide +kernel
theorem dX0_takeOver_12 : decode cX0_takeOver 12 = .ok (.invokestatic 43, 3) := by decide +kernel
theorem dX0_takeOver_15 : decode cX0_takeOver 15 = .ok (.aload_n 1, 1) := by decide +kernel
theorem dX0_takeOver_16 : decode cX0_takeOver 16 = .ok (.getfield 15, 3) := by decide +kernel
theorem dX0_takeOver_19 : decode cX0_takeOver 19 = .ok (.iconst 0, 1) := by decide +kernel
theorem dX0_takeOver_20 : decode cX0_takeOver 20 = .ok (.aload_n 0, 1) := by decide +kernel
theorem dX0_takeOver_21 : decode cX0_takeOver 21 = .ok (.getfield 15, 3) := by decide +kernel
theorem dX0_takeOver_24 : decode cX0_takeOver 24 = .ok (.iconst 0, 1) := by decide +kernel
theorem dX0_takeOver_25 : decode cX0_takeOver 25 = .ok (.sipush 144, 3) := by decide +kernel
theorem dX0_takeOver_28 : decode cX0_takeOver 28 = .ok (.invokestatic 43, 3) := by decide +kernel
theorem dX0_takeOver_31 : decode cX0_takeOver 31 = .ok (.aload_n 0, 1) := by decide +kernel
theorem dX0_takeOver_32 : decode cX0_takeOver 32 = .ok (.aload_n 1, 1) := by decide +kernel
theorem dX0_takeOver_33 : decode cX0_takeOver 33 = .ok (.getfield 18, 3) := by decide +kernel
theorem dX0_takeOver_36 : decode cX0_takeOver 36 = .ok (.putfield 18, 3) := by decide +kernel
theorem dX0_takeOver_39 : decode cX0_takeOver 39 = .ok (.aload_n 0, 1) := by decide +kernel
theorem dX0_takeOver_40 : decode cX0_takeOver 40 = .ok (.aload_n 1, 1) := by decide +kernel
theorem dX0_takeOver_41 : decode cX0_takeOver 41 = .ok (.getfield 22, 3) := by decide +kernel
theorem dX0_takeOver_44 : decode cX0_takeOver 44 = .ok (.putfield 22, 3) := by decide +kernel
theorem dX0_takeOver_47 : decode cX0_takeOver 47 = .ok (.aload_n 0, 1) := by decide +kernel
theorem dX0_takeOver_48 : decode cX0_takeOver 48 = .ok (.aload_n 1, 1) := by decide +kernel
theorem dX0_takeOver_49 : decode cX0_takeOver 49 = .ok (.getfield 25, 3) := by decide +kernel
theorem dX0_takeOver_52 : decode cX0_takeOver 52 = .ok (.putfield 25, 3) := by decide +kernel
theorem dX0_takeOver_55 : decode cX0_takeOver 55 = .ok (.aload_n 0, 1) := by decide +kernel
theorem dX0_takeOver_56 : decode cX0_takeOver 56 = .ok (.aload_n 1, 1) := by decide +kernel
theorem dX0_takeOver_57 : decode cX0_takeOver 57 = .ok (.getfield 28, 3) := by decide +kernel
theorem dX0_takeOver_60 : decode cX0_takeOver 60 = .ok (.putfield 28, 3) := by decide +kernel
theorem dX0_takeOver_63 : decode cX0_takeOver 63 = .ok (.aload_n 0, 1) := by decide +kernel
theorem dX0_takeOver_64 : decode cX0_takeOver 64 = .ok (.aload_n 1, 1) := by decide +kernel
theorem dX0_takeOver_65 : decode cX0_takeOver 65 = .ok (.getfield 31, 3) := by decide +kernel
theorem dX0_takeOver_68 : decode cX0_takeOver 68 = .ok (.putfield 31, 3) := by decide +kernel
theorem dX0_takeOver_71 : decode cX0_takeOver 71 = .ok (.aload_n 0, 1) := by decide +kernel
theorem dX0_takeOver_72 : decode cX0_takeOver 72 = .ok (.aload_n 1, 1) := by decide +kernel
theorem dX0_takeOver_73 : decode cX0_takeOver 73 = .ok (.getfield 34, 3) := by decide +kernel
theorem dX0_takeOver_76 : decode cX0_takeOver 76 = .ok (.putfield 34, 3) := by decide +kernel
theorem dX0_takeOver_79 : decode cX0_takeOver 79 = .ok (.aload_n 0, 1) := by decide +kernel
theorem dX0_takeOver_80 : decode cX0_takeOver 80 = .ok (.aload_n 1, 1) := by decide +kernel
theorem dX0_takeOver_81 : decode cX0_takeOver 81 = .ok (.getfield 37, 3) := by decide +kernel
theorem dX0_takeOver_84 : decode cX0_takeOver 84 = .ok (.putfield 37, 3) := by decide +kernel
theorem dX0_takeOver_87 : decode cX0_takeOver 87 = .ok (.aload_n 0, 1) := by decide +kernel
theorem dX0_takeOver_88 : decode cX0_takeOver 88 = .ok (.aload_n 1, 1) := by decide +kernel
theorem dX0_takeOver_89 : decode cX0_takeOver 89 = .ok (.getfield 40, 3) := by decide +kernel
theorem dX0_takeOver_92 : decode cX0_takeOver 92 = .ok (.putfield 40, 3) := by decide +kernel
theorem dX0_takeOver_95 : decode cX0_takeOver 95 = .ok (.return_, 1) := by decide +kernel
theorem dX0_has_0 : decode cX0_has 0 = .ok (.iload_n 1, 1) := by decide +kernel
theorem dX0_has_1 : decode cX0_has 1 = .ok (.ifCond .lt 21, 3) := by decide +kernel
theorem dX0_has_4 : decode cX0_has 4 = .ok (.iload_n 1, 1) := by decide +kernel
theorem dX0_has_5 : decode cX0_has 5 = .ok (.aload_n 0, 1) := by decide +kernel
theorem dX0_has_6 : decode cX0_has 6 = .ok (.getfield 18, 3) := by decide +kernel
theorem dX0_has_9 : decode cX0_has 9 = .ok (.if_icmp .ge 13, 3) := by decide +kernel
theorem dX0_has_12 : decode cX0_has 12 = .ok (.iload_n 1, 1) := by decide +kernel
theorem dX0_has_13 : decode cX0_has 13 = .ok (.bipush 20, 2) := by decide +kernel
theorem dX0_has_15 : decode cX0_has 15 = .ok (.if_icmp .ge 7, 3) := by decide +kernel
theorem dX0_has_18 : decode cX0_has 18 = .ok (.iconst 1, 1) := by decide +kernel
theorem dX0_has_19 : decode cX0_has 19 = .ok (.goto 4, 3) := by decide +kernel
theorem dX0_has_22 : decode cX0_has 22 = .ok (.iconst 0, 1) := by decide +kernel
theorem dX0_has_23 : decode cX0_has 23 = .ok (.ireturn, 1) := by decide +kernel
theorem dX0_trait_0 : decode cX0_trait 0 = .ok (.aload_n 0, 1) := by decide +kernel
theorem dX0_trait_1 : decode cX0_trait 1 = .ok (.iload_n 1, 1) := by decide +kernel
theorem dX0_trait_2 : decode cX0_trait 2 = .ok (.invokevirtual 49, 3) := by decide +kernel
theorem dX0_trait_5 : decode cX0_trait 5 = .ok (.ifCond .eq 17, 3) := by decide +kernel
theorem dX0_trait_8 : decode cX0_trait 8 = .ok (.iload_n 2, 1) := by decide +kernel
theorem dX0_trait_9 : decode cX0_trait 9 = .ok (.ifCond .lt 13, 3) := by decide +kernel
theorem dX0_trait_12 : decode cX0_trait 12 = .ok (.iload_n 2, 1) := by decide +kernel
theorem dX0_trait_13 : decode cX0_trait 13 = .ok (.bipush 6, 2) := by decide +kernel
theorem dX0_trait_15 : decode cX0_trait 15 = .ok (.if_icmp .ge 7, 3) := by decide +kernel
theorem dX0_trait_18 : decode cX0_trait 18 = .ok (.iconst 1, 1) := by decide +kernel
theorem dX0_trait_19 : decode cX0_trait 19 = .ok (.goto 4, 3) := by decide +kernel
theorem dX0_trait_22 : decode cX0_trait 22 = .ok (.iconst 0, 1) := by decide +kernel
theorem dX0_trait_23 : decode cX0_trait 23 = .ok (.istore_n 3, 1) := by decide +kernel
theorem dX0_trait_24 : decode cX0_trait 24 = .ok (.iload_n 3, 1) := by decide +kernel
theorem dX0_trait_25 : decode cX0_trait 25 = .ok (.ifCond .eq 17, 3) := by decide +kernel
theorem dX0_trait_28 : decode cX0_trait 28 = .ok (.aload_n 0, 1) := by decide +kernel
theorem dX0_trait_29 : decode cX0_trait 29 = .ok (.getfield 9, 3) := by decide +kernel
theorem dX0_trait_32 : decode cX0_trait 32 = .ok (.iload_n 2, 1) := by decide +kernel
theorem dX0_trait_33 : decode cX0_trait 33 = .ok (.bipush 20, 2) := by decide +kernel
theorem dX0_trait_35 : decode cX0_trait 35 = .ok (.imul, 1) := by decide +kernel
theorem dX0_trait_36 : decode cX0_trait 36 = .ok (.iload_n 1, 1) := by decide +kernel
theorem dX0_trait_37 : decode cX0_trait 37 = .ok (.iadd, 1) := by decide +kernel
theorem dX0_trait_38 : decode cX0_trait 38 = .ok (.iaload, 1) := by decide +kernel
theorem dX0_trait_39 : decode cX0_trait 39 = .ok (.goto 4, 3) := by decide +kernel
theorem dX0_trait_42 : decode cX0_trait 42 = .ok (.iconst 0, 1) := by decide +kernel
theorem dX0_trait_43 : decode cX0_trait 43 = .ok (.ireturn, 1) := by decide +kernel
theorem dX0_setTrait_0 : decode cX0_setTrait 0 = .ok (.aload_n 0, 1) := by decide +kernel
theorem dX0_setTrait_1 : decode cX0_setTrait 1 = .ok (.iload_n 1, 1) := by decide +kernel
theorem dX0_setTrait_2 : decode cX0_setTrait 2 = .ok (.invokevirtual 49, 3) := by decide +kernel
theorem dX0_setTrait_5 : decode cX0_setTrait 5 = .ok (.ifCond .eq 25, 3) := by decide +kernel
theorem dX0_setTrait_8 : decode cX0_setTrait 8 = .ok (.iload_n 2, 1) := by decide +kernel
theorem dX0_setTrait_9 : decode cX0_setTrait 9 = .ok (.ifCond .lt 21, 3) := by decide +kernel
theorem dX0_setTrait_12 : decode cX0_setTrait 12 = .ok (.iload_n 2, 1) := by decide +kernel
theorem dX0_setTrait_13 : decode cX0_setTrait 13 = .ok (.bipush 6, 2) := by decide +kernel
theorem dX0_setTrait_15 : decode cX0_setTrait 15 = .ok (.if_icmp .ge 15, 3) := by decide +kernel
theorem dX0_setTrait_18 : decode cX0_setTrait 18 = .ok (.aload_n 0, 1) := by decide +kernel
theorem dX0_setTrait_19 : decode cX0_setTrait 19 = .ok (.getfield 9, 3) := by decide +kernel
theorem dX0_setTrait_22 : decode cX0_setTrait 22 = .ok (.iload_n 2, 1) := by decide +kernel
theorem dX0_setTrait_23 : decode cX0_setTrait 23 = .ok (.bipush 20, 2) := by decide +kernel
theorem dX0_setTrait_25 : decode cX0_setTrait 25 = .ok (.imul, 1) := by decide +kernel
theorem dX0_setTrait_26 : decode cX0_setTrait 26 = .ok (.iload_n 1, 1) := by decide +kernel
theorem dX0_setTrait_27 : decode cX0_setTrait 27 = .ok (.iadd, 1) := by decide +kernel
theorem dX0_setTrait_28 : decode cX0_setTrait 28 = .ok (.iload_n 3, 1) := by decide +kernel
theorem dX0_setTrait_29 : decode cX0_setTrait 29 = .ok (.iastore, 1) := by decide +kernel
theorem dX0_setTrait_30 : decode cX0_setTrait 30 = .ok (.return_, 1) := by decide +kernel
theorem dX0_mayPress_0 : decode cX0_mayPress 0 = .ok (.aload_n 0, 1) := by decide +kernel
theorem dX0_mayPress_1 : decode cX0_mayPress 1 = .ok (.iload_n 1, 1) := by decide +kernel
theorem dX0_mayPress_2 : decode cX0_mayPress 2 = .ok (.invokevirtual 49, 3) := by decide +kernel
theorem dX0_mayPress_5 : decode cX0_mayPress 5 = .ok (.ifCond .eq 25, 3) := by decide +kernel
theorem dX0_mayPress_8 : decode cX0_mayPress 8 = .ok (.aload_n 0, 1) := by decide +kernel
theorem dX0_mayPress_9 : decode cX0_mayPress 9 = .ok (.iload_n 1, 1) := by decide +kernel
theorem dX0_mayPress_10 : decode cX0_mayPress 10 = .ok (.iconst 4, 1) := by decide +kernel
theorem dX0_mayPress_11 : decode cX0_mayPress 11 = .ok (.invokevirtual 53, 3) := by decide +kernel
theorem dX0_mayPress_14 : decode cX0_mayPress 14 = .ok (.ifCond .ne 16, 3) := by decide +kernel
theorem dX0_mayPress_17 : decode cX0_mayPress 17 = .ok (.aload_n 0, 1) := by decide +kernel
theorem dX0_mayPress_18 : decode cX0_mayPress 18 = .ok (.iload_n 1, 1) := by decide +kernel
theorem dX0_mayPress_19 : decode cX0_mayPress 19 = .ok (.iconst 1, 1) := by decide +kernel
theorem dX0_mayPress_20 : decode cX0_mayPress 20 = .ok (.invokevirtual 53, 3) := by decide +kernel
theorem dX0_mayPress_23 : decode cX0_mayPress 23 = .ok (.ifCond .eq 7, 3) := by decide +kernel
theorem dX0_mayPress_26 : decode cX0_mayPress 26 = .ok (.iconst 1, 1) := by decide +kernel
theorem dX0_mayPress_27 : decode cX0_mayPress 27 = .ok (.goto 4, 3) := by decide +kernel
theorem dX0_mayPress_30 : decode cX0_mayPress 30 = .ok (.iconst 0, 1) := by decide +kernel
theorem dX0_mayPress_31 : decode cX0_mayPress 31 = .ok (.ireturn, 1) := by decide +kernel
theorem dX0_cameOfAll_0 : decode cX0_cameOfAll 0 = .ok (.iconst 0, 1) := by decide +kernel
theorem dX0_cameOfAll_1 : decode cX0_cameOfAll 1 = .ok (.istore_n 1, 1) := by decide +kernel
theorem dX0_cameOfAll_2 : decode cX0_cameOfAll 2 = .ok (.iconst 0, 1) := by decide +kernel
theorem dX0_cameOfAll_3 : decode cX0_cameOfAll 3 = .ok (.istore_n 2, 1) := by decide +kernel
theorem dX0_cameOfAll_4 : decode cX0_cameOfAll 4 = .ok (.iload_n 2, 1) := by decide +kernel
theorem dX0_cameOfAll_5 : decode cX0_cameOfAll 5 = .ok (.aload_n 0, 1) := by decide +kernel
theorem dX0_cameOfAll_6 : decode cX0_cameOfAll 6 = .ok (.getfield 18, 3) := by decide +kernel
theorem dX0_cameOfAll_9 : decode cX0_cameOfAll 9 = .ok (.if_icmp .ge 18, 3) := by decide +kernel
theorem dX0_cameOfAll_12 : decode cX0_cameOfAll 12 = .ok (.iload_n 1, 1) := by decide +kernel
theorem dX0_cameOfAll_13 : decode cX0_cameOfAll 13 = .ok (.aload_n 0, 1) := by decide +kernel
theorem dX0_cameOfAll_14 : decode cX0_cameOfAll 14 = .ok (.iload_n 2, 1) := by decide +kernel
theorem dX0_cameOfAll_15 : decode cX0_cameOfAll 15 = .ok (.iconst 5, 1) := by decide +kernel
theorem dX0_cameOfAll_16 : decode cX0_cameOfAll 16 = .ok (.invokevirtual 53, 3) := by decide +kernel
theorem dX0_cameOfAll_19 : decode cX0_cameOfAll 19 = .ok (.iadd, 1) := by decide +kernel
theorem dX0_cameOfAll_20 : decode cX0_cameOfAll 20 = .ok (.istore_n 1, 1) := by decide +kernel
theorem dX0_cameOfAll_21 : decode cX0_cameOfAll 21 = .ok (.iinc 2 1, 3) := by decide +kernel
theorem dX0_cameOfAll_24 : decode cX0_cameOfAll 24 = .ok (.goto (-20), 3) := by decide +kernel
theorem dX0_cameOfAll_27 : decode cX0_cameOfAll 27 = .ok (.iload_n 1, 1) := by decide +kernel
theorem dX0_cameOfAll_28 : decode cX0_cameOfAll 28 = .ok (.ireturn, 1) := by decide +kernel
theorem dX0_mark_0 : decode cX0_mark 0 = .ok (.iload_n 1, 1) := by decide +kernel
theorem dX0_mark_1 : decode cX0_mark 1 = .ok (.ifCond .lt 19, 3) := by decide +kernel
theorem dX0_mark_4 : decode cX0_mark 4 = .ok (.iload_n 1, 1) := by decide +kernel
theorem dX0_mark_5 : decode cX0_mark 5 = .ok (.sipush 144, 3) := by decide +kernel
theorem dX0_mark_8 : decode cX0_mark 8 = .ok (.if_icmp .ge 12, 3) := by decide +kernel
theorem dX0_mark_11 : decode cX0_mark 11 = .ok (.aload_n 0, 1) := by decide +kernel
theorem dX0_mark_12 : decode cX0_mark 12 = .ok (.getfield 15, 3) := by decide +kernel
theorem dX0_mark_15 : decode cX0_mark 15 = .ok (.iload_n 1, 1) := by decide +kernel
theorem dX0_mark_16 : decode cX0_mark 16 = .ok (.iaload, 1) := by decide +kernel
theorem dX0_mark_17 : decode cX0_mark 17 = .ok (.goto 4, 3) := by decide +kernel
theorem dX0_mark_20 : decode cX0_mark 20 = .ok (.iconst 0, 1) := by decide +kernel
theorem dX0_mark_21 : decode cX0_mark 21 = .ok (.ireturn, 1) := by decide +kernel
theorem dX0_marked_0 : decode cX0_marked 0 = .ok (.iload_n 1, 1) := by decide +kernel
theorem dX0_marked_1 : decode cX0_marked 1 = .ok (.ifCond .lt 23, 3) := by decide +kernel
theorem dX0_marked_4 : decode cX0_marked 4 = .ok (.iload_n 1, 1) := by decide +kernel
theorem dX0_marked_5 : decode cX0_marked 5 = .ok (.sipush 144, 3) := by decide +kernel
theorem dX0_marked_8 : decode cX0_marked 8 = .ok (.if_icmp .ge 16, 3) := by decide +kernel
theorem dX0_marked_11 : decode cX0_marked 11 = .ok (.aload_n 0, 1) := by decide +kernel
theorem dX0_marked_12 : decode cX0_marked 12 = .ok (.getfield 15, 3) := by decide +kernel
theorem dX0_marked_15 : decode cX0_marked 15 = .ok (.iload_n 1, 1) := by decide +kernel
theorem dX0_marked_16 : decode cX0_marked 16 = .ok (.iaload, 1) := by decide +kernel
theorem dX0_marked_17 : decode cX0_marked 17 = .ok (.ifCond .eq 7, 3) := by decide +kernel
theorem dX0_marked_20 : decode cX0_marked 20 = .ok (.iconst 1, 1) := by decide +kernel
theorem dX0_marked_21 : decode cX0_marked 21 = .ok (.goto 4, 3) := by decide +kernel
theorem dX0_marked_24 : decode cX0_marked 24 = .ok (.iconst 0, 1) := by decide +kernel
theorem dX0_marked_25 : decode cX0_marked 25 = .ok (.ireturn, 1) := by decide +kernel
theorem dX0_depth_0 : decode cX0_depth 0 = .ok (.aload_n 0, 1) := by decide +kernel
theorem dX0_depth_1 : decode cX0_depth 1 = .ok (.iload_n 1, 1) := by decide +kernel
theorem dX0_depth_2 : decode cX0_depth 2 = .ok (.invokevirtual 57, 3) := by decide +kernel
theorem dX0_depth_5 : decode cX0_depth 5 = .ok (.invokestatic 61, 3) := by decide +kernel
theorem dX0_depth_8 : decode cX0_depth 8 = .ok (.bipush 15, 2) := by decide +kernel
theorem dX0_depth_10 : decode cX0_depth 10 = .ok (.iand, 1) := by decide +kernel
theorem dX0_depth_11 : decode cX0_depth 11 = .ok (.ireturn, 1) := by decide +kernel
theorem dX0_way_0 : decode cX0_way 0 = .ok (.aload_n 0, 1) := by decide +kernel
theorem dX0_way_1 : decode cX0_way 1 = .ok (.iload_n 1, 1) := by decide +kernel
theorem dX0_way_2 : decode cX0_way 2 = .ok (.invokevirtual 57, 3) := by decide +kernel
theorem dX0_way_5 : decode cX0_way 5 = .ok (.iconst 0, 1) := by decide +kernel
theorem dX0_way_6 : decode cX0_way 6 = .ok (.invokestatic 66, 3) := by decide +kernel
theorem dX0_way_9 : decode cX0_way 9 = .ok (.ireturn, 1) := by decide +kernel
theorem dX0_owner_0 : decode cX0_owner 0 = .ok (.aload_n 0, 1) := by decide +kernel
theorem dX0_owner_1 : decode cX0_owner 1 = .ok (.iload_n 1, 1) := by decide +kernel
theorem dX0_owner_2 : decode cX0_owner 2 = .ok (.invokevirtual 57, 3) := by decide +kernel
theorem dX0_owner_5 : decode cX0_owner 5 = .ok (.istore_n 2, 1) := by decide +kernel
theorem dX0_owner_6 : decode cX0_owner 6 = .ok (.iload_n 2, 1) := by decide +kernel
theorem dX0_owner_7 : decode cX0_owner 7 = .ok (.ifCond .ne 7, 3) := by decide +kernel
theorem dX0_owner_10 : decode cX0_owner 10 = .ok (.iconst (-1), 1) := by decide +kernel
theorem dX0_owner_11 : decode cX0_owner 11 = .ok (.goto 9, 3) := by decide +kernel
theorem dX0_owner_14 : decode cX0_owner 14 = .ok (.iload_n 2, 1) := by decide +kernel
theorem dX0_owner_15 : decode cX0_owner 15 = .ok (.invokestatic 61, 3) := by decide +kernel
theorem dX0_owner_18 : decode cX0_owner 18 = .ok (.iconst 4, 1) := by decide +kernel
theorem dX0_owner_19 : decode cX0_owner 19 = .ok (.ishr, 1) := by decide +kernel
theorem dX0_owner_20 : decode cX0_owner 20 = .ok (.ireturn, 1) := by decide +kernel
theorem dX0_putMark_0 : decode cX0_putMark 0 = .ok (.iload_n 1, 1) := by decide +kernel
theorem dX0_putMark_1 : decode cX0_putMark 1 = .ok (.ifCond .lt 25, 3) := by decide +kernel
theorem dX0_putMark_4 : decode cX0_putMark 4 = .ok (.iload_n 1, 1) := by decide +kernel
theorem dX0_putMark_5 : decode cX0_putMark 5 = .ok (.sipush 144, 3) := by decide +kernel
theorem dX0_putMark_8 : decode cX0_putMark 8 = .ok (.if_icmp .ge 18, 3) := by decide +kernel
theorem dX0_putMark_11 : decode cX0_putMark 11 = .ok (.aload_n 0, 1) := by decide +kernel
theorem dX0_putMark_12 : decode cX0_putMark 12 = .ok (.getfield 15, 3) := by decide +kernel
theorem dX0_putMark_15 : decode cX0_putMark 15 = .ok (.iload_n 1, 1) := by decide +kernel
theorem dX0_putMark_16 : decode cX0_putMark 16 = .ok (.iload_n 3, 1) := by decide +kernel
theorem dX0_putMark_17 : decode cX0_putMark 17 = .ok (.iload_n 2, 1) := by decide +kernel
theorem dX0_putMark_18 : decode cX0_putMark 18 = .ok (.bipush 16, 2) := by decide +kernel
theorem dX0_putMark_20 : decode cX0_putMark 20 = .ok (.imul, 1) := by decide +kernel
theorem dX0_putMark_21 : decode cX0_putMark 21 = .ok (.iload 4, 2) := by decide +kernel
theorem dX0_putMark_23 : decode cX0_putMark 23 = .ok (.iadd, 1) := by decide +kernel
theorem dX0_putMark_24 : decode cX0_putMark 24 = .ok (.imul, 1) := by decide +kernel
theorem dX0_putMark_25 : decode cX0_putMark 25 = .ok (.iastore, 1) := by decide +kernel
theorem dX0_putMark_26 : decode cX0_putMark 26 = .ok (.return_, 1) := by decide +kernel
theorem dX0_takeMark_0 : decode cX0_takeMark 0 = .ok (.iload_n 1, 1) := by decide +kernel
theorem dX0_takeMark_1 : decode cX0_takeMark 1 = .ok (.ifCond .lt 17, 3) := by decide +kernel
theorem dX0_takeMark_4 : decode cX0_takeMark 4 = .ok (.iload_n 1, 1) := by decide +kernel
theorem dX0_takeMark_5 : decode cX0_takeMark 5 = .ok (.sipush 144, 3) := by decide +kernel
theorem dX0_takeMark_8 : decode cX0_takeMark 8 = .ok (.if_icmp .ge 10, 3) := by decide +kernel
theorem dX0_takeMark_11 : decode cX0_takeMark 11 = .ok (.aload_n 0, 1) := by decide +kernel
theorem dX0_takeMark_12 : decode cX0_takeMark 12 = .ok (.getfield 15, 3) := by decide +kernel
theorem dX0_takeMark_15 : decode cX0_takeMark 15 = .ok (.iload_n 1, 1) := by decide +kernel
theorem dX0_takeMark_16 : decode cX0_takeMark 16 = .ok (.iconst 0, 1) := by decide +kernel
theorem dX0_takeMark_17 : decode cX0_takeMark 17 = .ok (.iastore, 1) := by decide +kernel
theorem dX0_takeMark_18 : decode cX0_takeMark 18 = .ok (.return_, 1) := by decide +kernel
theorem dX0_thinMark_0 : decode cX0_thinMark 0 = .ok (.aload_n 0, 1) := by decide +kernel
theorem dX0_thinMark_1 : decode cX0_thinMark 1 = .ok (.iload_n 1, 1) := by decide +kernel
theorem dX0_thinMark_2 : decode cX0_thinMark 2 = .ok (.invokevirtual 71, 3) := by decide +kernel
theorem dX0_thinMark_5 : decode cX0_thinMark 5 = .ok (.ifCond .eq 26, 3) := by decide +kernel
theorem dX0_thinMark_8 : decode cX0_thinMark 8 = .ok (.aload_n 0, 1) := by decide +kernel
theorem dX0_thinMark_9 : decode cX0_thinMark 9 = .ok (.iload_n 1, 1) := by decide +kernel
theorem dX0_thinMark_10 : decode cX0_thinMark 10 = .ok (.invokevirtual 74, 3) := by decide +kernel
theorem dX0_thinMark_13 : decode cX0_thinMark 13 = .ok (.iconst 1, 1) := by decide +kernel
theorem dX0_thinMark_14 : decode cX0_thinMark 14 = .ok (.if_icmp .le 17, 3) := by decide +kernel
theorem dX0_thinMark_17 : decode cX0_thinMark 17 = .ok (.aload_n 0, 1) := by decide +kernel
theorem dX0_thinMark_18 : decode cX0_thinMark 18 = .ok (.getfield 15, 3) := by decide +kernel
theorem dX0_thinMark_21 : decode cX0_thinMark 21 = .ok (.iload_n 1, 1) := by decide +kernel
theorem dX0_thinMark_22 : decode cX0_thinMark 22 = .ok (.dup2, 1) := by decide +kernel
theorem dX0_thinMark_23 : decode cX0_thinMark 23 = .ok (.iaload, 1) := by decide +kernel
theorem dX0_thinMark_24 : decode cX0_thinMark 24 = .ok (.aload_n 0, 1) := by decide +kernel
theorem dX0_thinMark_25 : decode cX0_thinMark 25 = .ok (.iload_n 1, 1) := by decide +kernel
theorem dX0_thinMark_26 : decode cX0_thinMark 26 = .ok (.invokevirtual 77, 3) := by decide +kernel
theorem dX0_thinMark_29 : decode cX0_thinMark 29 = .ok (.isub, 1) := by decide +kernel
theorem dX0_thinMark_30 : decode cX0_thinMark 30 = .ok (.iastore, 1) := by decide +kernel
theorem dX0_thinMark_31 : decode cX0_thinMark 31 = .ok (.return_, 1) := by decide +kernel
theorem dX0_takeAllMarks_0 : decode cX0_takeAllMarks 0 = .ok (.aload_n 0, 1) := by decide +kernel
theorem dX0_takeAllMarks_1 : decode cX0_takeAllMarks 1 = .ok (.getfield 15, 3) := by decide +kernel
theorem dX0_takeAllMarks_4 : decode cX0_takeAllMarks 4 = .ok (.iconst 0, 1) := by decide +kernel
theorem dX0_takeAllMarks_5 : decode cX0_takeAllMarks 5 = .ok (.invokestatic 80, 3) := by decide +kernel
theorem dX0_takeAllMarks_8 : decode cX0_takeAllMarks 8 = .ok (.return_, 1) := by decide +kernel
theorem dX0_countMarks_0 : decode cX0_countMarks 0 = .ok (.iconst 0, 1) := by decide +kernel
theorem dX0_countMarks_1 : decode cX0_countMarks 1 = .ok (.istore_n 1, 1) := by decide +kernel
theorem dX0_countMarks_2 : decode cX0_countMarks 2 = .ok (.iconst 0, 1) := by decide +kernel
theorem dX0_countMarks_3 : decode cX0_countMarks 3 = .ok (.istore_n 2, 1) := by decide +kernel
theorem dX0_countMarks_4 : decode cX0_countMarks 4 = .ok (.iload_n 2, 1) := by decide +kernel
theorem dX0_countMarks_5 : decode cX0_countMarks 5 = .ok (.sipush 144, 3) := by decide +kernel
theorem dX0_countMarks_8 : decode cX0_countMarks 8 = .ok (.if_icmp .ge 26, 3) := by decide +kernel
theorem dX0_countMarks_11 : decode cX0_countMarks 11 = .ok (.iload_n 1, 1) := by decide +kernel
theorem dX0_countMarks_12 : decode cX0_countMarks 12 = .ok (.aload_n 0, 1) := by decide +kernel
theorem dX0_countMarks_13 : decode cX0_countMarks 13 = .ok (.getfield 15, 3) := by decide +kernel
theorem dX0_countMarks_16 : decode cX0_countMarks 16 = .ok (.iload_n 2, 1) := by decide +kernel
theorem dX0_countMarks_17 : decode cX0_countMarks 17 = .ok (.iaload, 1) := by decide +kernel
theorem dX0_countMarks_18 : decode cX0_countMarks 18 = .ok (.ifCond .ne 7, 3) := by decide +kernel
theorem dX0_countMarks_21 : decode cX0_countMarks 21 = .ok (.iconst 0, 1) := by decide +kernel
theorem dX0_countMarks_22 : decode cX0_countMarks 22 = .ok (.goto 4, 3) := by decide +kernel
theorem dX0_countMarks_25 : decode cX0_countMarks 25 = .ok (.iconst 1, 1) := by decide +kernel
theorem dX0_countMarks_26 : decode cX0_countMarks 26 = .ok (.iadd, 1) := by decide +kernel
theorem dX0_countMarks_27 : decode cX0_countMarks 27 = .ok (.istore_n 1, 1) := by decide +kernel
theorem dX0_countMarks_28 : decode cX0_countMarks 28 = .ok (.iinc 2 1, 3) := by decide +kernel
theorem dX0_countMarks_31 : decode cX0_countMarks 31 = .ok (.goto (-27), 3) := by decide +kernel
theorem dX0_countMarks_34 : decode cX0_countMarks 34 = .ok (.iload_n 1, 1) := by decide +kernel
theorem dX0_countMarks_35 : decode cX0_countMarks 35 = .ok (.ireturn, 1) := by decide +kernel
theorem dX0_besides_0 : decode cX0_besides 0 = .ok (.iload_n 1, 1) := by decide +kernel
theorem dX0_besides_1 : decode cX0_besides 1 = .ok (.bipush 12, 2) := by decide +kernel
theorem dX0_besides_3 : decode cX0_besides 3 = .ok (.irem, 1) := by decide +kernel
theorem dX0_besides_4 : decode cX0_besides 4 = .ok (.istore_n 2, 1) := by decide +kernel
theorem dX0_besides_5 : decode cX0_besides 5 = .ok (.aload_n 0, 1) := by decide +kernel
theorem dX0_besides_6 : decode cX0_besides 6 = .ok (.iload_n 1, 1) := by decide +kernel
theorem dX0_besides_7 : decode cX0_besides 7 = .ok (.bipush 12, 2) := by decide +kernel
theorem dX0_besides_9 : decode cX0_besides 9 = .ok (.iadd, 1) := by decide +kernel
theorem dX0_besides_10 : decode cX0_besides 10 = .ok (.invokevirtual 71, 3) := by decide +kernel
theorem dX0_besides_13 : decode cX0_besides 13 = .ok (.ifCond .eq 7, 3) := by decide +kernel
theorem dX0_besides_16 : decode cX0_besides 16 = .ok (.iconst 1, 1) := by decide +kernel
theorem dX0_besides_17 : decode cX0_besides 17 = .ok (.goto 4, 3) := by decide +kernel
theorem dX0_besides_20 : decode cX0_besides 20 = .ok (.iconst 0, 1) := by decide +kernel
theorem dX0_besides_21 : decode cX0_besides 21 = .ok (.istore_n 3, 1) := by decide +kernel
theorem dX0_besides_22 : decode cX0_besides 22 = .ok (.iload_n 3, 1) := by decide +kernel
theorem dX0_besides_23 : decode cX0_besides 23 = .ok (.aload_n 0, 1) := by decide +kernel
theorem dX0_besides_24 : decode cX0_besides 24 = .ok (.iload_n 1, 1) := by decide +kernel
theorem dX0_besides_25 : decode cX0_besides 25 = .ok (.bipush 12, 2) := by decide +kernel
theorem dX0_besides_27 : decode cX0_besides 27 = .ok (.isub, 1) := by decide +kernel
theorem dX0_besides_28 : decode cX0_besides 28 = .ok (.invokevirtual 71, 3) := by decide +kernel
theorem dX0_besides_31 : decode cX0_besides 31 = .ok (.ifCond .eq 7, 3) := by decide +kernel
theorem dX0_besides_34 : decode cX0_besides 34 = .ok (.iconst 1, 1) := by decide +kernel
theorem dX0_besides_35 : decode cX0_besides 35 = .ok (.goto 4, 3) := by decide +kernel
theorem dX0_besides_38 : decode cX0_besides 38 = .ok (.iconst 0, 1) := by decide +kernel
theorem dX0_besides_39 : decode cX0_besides 39 = .ok (.iadd, 1) := by decide +kernel
theorem dX0_besides_40 : decode cX0_besides 40 = .ok (.istore_n 3, 1) := by decide +kernel
theorem dX0_besides_41 : decode cX0_besides 41 = .ok (.iload_n 3, 1) := by decide +kernel
theorem dX0_besides_42 : decode cX0_besides 42 = .ok (.iload_n 2, 1) := by decide +kernel
theorem dX0_besides_43 : decode cX0_besides 43 = .ok (.ifCond .le 17, 3) := by decide +kernel
theorem dX0_besides_46 : decode cX0_besides 46 = .ok (.aload_n 0, 1) := by decide +kernel
theorem dX0_besides_47 : decode cX0_besides 47 = .ok (.iload_n 1, 1) := by decide +kernel
theorem dX0_besides_48 : decode cX0_besides 48 = .ok (.iconst 1, 1) := by decide +kernel
theorem dX0_besides_49 : decode cX0_besides 49 = .ok (.isub, 1) := by decide +kernel
theorem dX0_besides_50 : decode cX0_besides 50 = .ok (.invokevirtual 71, 3) := by decide +kernel
theorem dX0_besides_53 : decode cX0_besides 53 = .ok (.ifCond .eq 7, 3) := by decide +kernel
theorem dX0_besides_56 : decode cX0_besides 56 = .ok (.iconst 1, 1) := by decide +kernel
theorem dX0_besides_57 : decode cX0_besides 57 = .ok (.goto 4, 3) := by decide +kernel
theorem dX0_besides_60 : decode cX0_besides 60 = .ok (.iconst 0, 1) := by decide +kernel
theorem dX0_besides_61 : decode cX0_besides 61 = .ok (.iadd, 1) := by decide +kernel
theorem dX0_besides_62 : decode cX0_besides 62 = .ok (.istore_n 3, 1) := by decide +kernel
theorem dX0_besides_63 : decode cX0_besides 63 = .ok (.iload_n 3, 1) := by decide +kernel
theorem dX0_besides_64 : decode cX0_besides 64 = .ok (.iload_n 2, 1) := by decide +kernel
theorem dX0_besides_65 : decode cX0_besides 65 = .ok (.bipush 11, 2) := by decide +kernel
theorem dX0_besides_67 : decode cX0_besides 67 = .ok (.if_icmp .ge 17, 3) := by decide +kernel
theorem dX0_besides_70 : decode cX0_besides 70 = .ok (.aload_n 0, 1) := by decide +kernel
theorem dX0_besides_71 : decode cX0_besides 71 = .ok (.iload_n 1, 1) := by decide +kernel
theorem dX0_besides_72 : decode cX0_besides 72 = .ok (.iconst 1, 1) := by decide +kernel
theorem dX0_besides_73 : decode cX0_besides 73 = .ok (.iadd, 1) := by decide +kernel
theorem dX0_besides_74 : decode cX0_besides 74 = .ok (.invokevirtual 71, 3) := by decide +kernel
theorem dX0_besides_77 : decode cX0_besides 77 = .ok (.ifCond .eq 7, 3) := by decide +kernel
theorem dX0_besides_80 : decode cX0_besides 80 = .ok (.iconst 1, 1) := by decide +kernel
theorem dX0_besides_81 : decode cX0_besides 81 = .ok (.goto 4, 3) := by decide +kernel
theorem dX0_besides_84 : decode cX0_besides 84 = .ok (.iconst 0, 1) := by decide +kernel
theorem dX0_besides_85 : decode cX0_besides 85 = .ok (.iadd, 1) := by decide +kernel
theorem dX0_besides_86 : decode cX0_besides 86 = .ok (.istore_n 3, 1) := by decide +kernel
theorem dX0_besides_87 : decode cX0_besides 87 = .ok (.iload_n 3, 1) := by decide +kernel
theorem dX0_besides_88 : decode cX0_besides 88 = .ok (.ireturn, 1) := by decide +kernel
theorem dX0_drawThousand_0 : decode cX0_drawThousand 0 = .ok (.aload_n 0, 1) := by decide +kernel
theorem dX0_drawThousand_1 : decode cX0_drawThousand 1 = .ok (.ldc 86, 2) := by decide +kernel
theorem dX0_drawThousand_3 : decode cX0_drawThousand 3 = .ok (.aload_n 0, 1) := by decide +kernel
theorem dX0_drawThousand_4 : decode cX0_drawThousand 4 = .ok (.getfield 37, 3) := by decide +kernel
theorem dX0_drawThousand_7 : decode cX0_drawThousand 7 = .ok (.imul, 1) := by decide +kernel
theorem dX0_drawThousand_8 : decode cX0_drawThousand 8 = .ok (.ldc 87, 2) := by decide +kernel
theorem dX0_drawThousand_10 : decode cX0_drawThousand 10 = .ok (.iadd, 1) := by decide +kernel
theorem dX0_drawThousand_11 : decode cX0_drawThousand 11 = .ok (.putfield 37, 3) := by decide +kernel
theorem dX0_drawThousand_14 : decode cX0_drawThousand 14 = .ok (.aload_n 0, 1) := by decide +kernel
theorem dX0_drawThousand_15 : decode cX0_drawThousand 15 = .ok (.getfield 37, 3) := by decide +kernel
theorem dX0_drawThousand_18 : decode cX0_drawThousand 18 = .ok (.bipush 8, 2) := by decide +kernel
theorem dX0_drawThousand_20 : decode cX0_drawThousand 20 = .ok (.iushr, 1) := by decide +kernel
theorem dX0_drawThousand_21 : decode cX0_drawThousand 21 = .ok (.sipush 1000, 3) := by decide +kernel
theorem dX0_drawThousand_24 : decode cX0_drawThousand 24 = .ok (.irem, 1) := by decide +kernel
theorem dX0_drawThousand_25 : decode cX0_drawThousand 25 = .ok (.ireturn, 1) := by decide +kernel
theorem dX0_alike_0 : decode cX0_alike 0 = .ok (.iconst 0, 1) := by decide +kernel
theorem dX0_alike_1 : decode cX0_alike 1 = .ok (.istore_n 3, 1) := by decide +kernel
theorem dX0_alike_2 : decode cX0_alike 2 = .ok (.iconst 0, 1) := by decide +kernel
theorem dX0_alike_3 : decode cX0_alike 3 = .ok (.istore 4, 2) := by decide +kernel
theorem dX0_alike_5 : decode cX0_alike 5 = .ok (.iload 4, 2) := by decide +kernel
theorem dX0_alike_7 : decode cX0_alike 7 = .ok (.aload_n 0, 1) := by decide +kernel
theorem dX0_alike_8 : decode cX0_alike 8 = .ok (.getfield 18, 3) := by decide +kernel
theorem dX0_alike_11 : decode cX0_alike 11 = .ok (.if_icmp .ge 32, 3) := by decide +kernel
theorem dX0_alike_14 : decode cX0_alike 14 = .ok (.aload_n 0, 1) := by decide +kernel
theorem dX0_alike_15 : decode cX0_alike 15 = .ok (.iload 4, 2) := by decide +kernel
theorem dX0_alike_17 : decode cX0_alike 17 = .ok (.iconst 0, 1) := by decide +kernel
theorem dX0_alike_18 : decode cX0_alike 18 = .ok (.invokevirtual 53, 3) := by decide +kernel
theorem dX0_alike_21 : decode cX0_alike 21 = .ok (.iload_n 1, 1) := by decide +kernel
theorem dX0_alike_22 : decode cX0_alike 22 = .ok (.ixor, 1) := by decide +kernel
theorem dX0_alike_23 : decode cX0_alike 23 = .ok (.invokestatic 88, 3) := by decide +kernel
theorem dX0_alike_26 : decode cX0_alike 26 = .ok (.iload_n 2, 1) := by decide +kernel
theorem dX0_alike_27 : decode cX0_alike 27 = .ok (.if_icmp .gt 10, 3) := by decide +kernel
theorem dX0_alike_30 : decode cX0_alike 30 = .ok (.iload_n 3, 1) := by decide +kernel
theorem dX0_alike_31 : decode cX0_alike 31 = .ok (.iconst 1, 1) := by decide +kernel
theorem dX0_alike_32 : decode cX0_alike 32 = .ok (.iload 4, 2) := by decide +kernel
theorem dX0_alike_34 : decode cX0_alike 34 = .ok (.ishl, 1) := by decide +kernel
theorem dX0_alike_35 : decode cX0_alike 35 = .ok (.ior, 1) := by decide +kernel
theorem dX0_alike_36 : decode cX0_alike 36 = .ok (.istore_n 3, 1) := by decide +kernel
theorem dX0_alike_37 : decode cX0_alike 37 = .ok (.iinc 4 1, 3) := by decide +kernel
theorem dX0_alike_40 : decode cX0_alike 40 = .ok (.goto (-35), 3) := by decide +kernel
theorem dX0_alike_43 : decode cX0_alike 43 = .ok (.iload_n 3, 1) := by decide +kernel
theorem dX0_alike_44 : decode cX0_alike 44 = .ok (.ireturn, 1) := by decide +kernel
theorem dX0_nearest_0 : decode cX0_nearest 0 = .ok (.iconst (-1), 1) := by decide +kernel
theorem dX0_nearest_1 : decode cX0_nearest 1 = .ok (.istore_n 2, 1) := by decide +kernel
theorem dX0_nearest_2 : decode cX0_nearest 2 = .ok (.bipush 9, 2) := by decide +kernel
theorem dX0_nearest_4 : decode cX0_nearest 4 = .ok (.istore_n 3, 1) := by decide +kernel
theorem dX0_nearest_5 : decode cX0_nearest 5 = .ok (.iconst 0, 1) := by decide +kernel
theorem dX0_nearest_6 : decode cX0_nearest 6 = .ok (.istore 4, 2) := by decide +kernel
theorem dX0_nearest_8 : decode cX0_nearest 8 = .ok (.iload 4, 2) := by decide +kernel
theorem dX0_nearest_10 : decode cX0_nearest 10 = .ok (.aload_n 0, 1) := by decide +kernel
theorem dX0_nearest_11 : decode cX0_nearest 11 = .ok (.getfield 18, 3) := by decide +kernel
theorem dX0_nearest_14 : decode cX0_nearest 14 = .ok (.if_icmp .ge 35, 3) := by decide +kernel
theorem dX0_nearest_17 : decode cX0_nearest 17 = .ok (.aload_n 0, 1) := by decide +kernel
theorem dX0_nearest_18 : decode cX0_nearest 18 = .ok (.iload 4, 2) := by decide +kernel
theorem dX0_nearest_20 : decode cX0_nearest 20 = .ok (.iconst 0, 1) := by decide +kernel
theorem dX0_nearest_21 : decode cX0_nearest 21 = .ok (.invokevirtual 53, 3) := by decide +kernel
theorem dX0_nearest_24 : decode cX0_nearest 24 = .ok (.iload_n 1, 1) := by decide +kernel
theorem dX0_nearest_25 : decode cX0_nearest 25 = .ok (.ixor, 1) := by decide +kernel
theorem dX0_nearest_26 : decode cX0_nearest 26 = .ok (.invokestatic 88, 3) := by decide +kernel
theorem dX0_nearest_29 : decode cX0_nearest 29 = .ok (.istore 5, 2) := by decide +kernel
theorem dX0_nearest_31 : decode cX0_nearest 31 = .ok (.iload 5, 2) := by decide +kernel
theorem dX0_nearest_33 : decode cX0_nearest 33 = .ok (.iload_n 3, 1) := by decide +kernel
theorem dX0_nearest_34 : decode cX0_nearest 34 = .ok (.if_icmp .ge 9, 3) := by decide +kernel
theorem dX0_nearest_37 : decode cX0_nearest 37 = .ok (.iload 5, 2) := by decide +kernel
theorem dX0_nearest_39 : decode cX0_nearest 39 = .ok (.istore_n 3, 1) := by decide +kernel
theorem dX0_nearest_40 : decode cX0_nearest 40 = .ok (.iload 4, 2) := by decide +kernel
theorem dX0_nearest_42 : decode cX0_nearest 42 = .ok (.istore_n 2, 1) := by decide +kernel
theorem dX0_nearest_43 : decode cX0_nearest 43 = .ok (.iinc 4 1, 3) := by decide +kernel
theorem dX0_nearest_46 : decode cX0_nearest 46 = .ok (.goto (-38), 3) := by decide +kernel
theorem dX0_nearest_49 : decode cX0_nearest 49 = .ok (.iload_n 2, 1) := by decide +kernel
theorem dX0_nearest_50 : decode cX0_nearest 50 = .ok (.ireturn, 1) := by decide +kernel
theorem dX1_init_0 : decode cX1_init 0 = .ok (.aload_n 0, 1) := by decide +kernel
theorem dX1_init_1 : decode cX1_init 1 = .ok (.invokespecial 3, 3) := by decide +kernel
theorem dX1_init_4 : decode cX1_init 4 = .ok (.aload_n 0, 1) := by decide +kernel
theorem dX1_init_5 : decode cX1_init 5 = .ok (.bipush 10, 2) := by decide +kernel
theorem dX1_init_7 : decode cX1_init 7 = .ok (.newarray .int, 2) := by decide +kernel
theorem dX1_init_9 : decode cX1_init 9 = .ok (.putfield 9, 3) := by decide +kernel
theorem dX1_init_12 : decode cX1_init 12 = .ok (.aload_n 0, 1) := by decide +kernel
theorem dX1_init_13 : decode cX1_init 13 = .ok (.bipush 32, 2) := by decide +kernel
theorem dX1_init_15 : decode cX1_init 15 = .ok (.newarray .int, 2) := by decide +kernel
theorem dX1_init_17 : decode cX1_init 17 = .ok (.putfield 15, 3) := by decide +kernel
theorem dX1_init_20 : decode cX1_init 20 = .ok (.aload_n 0, 1) := by decide +kernel
theorem dX1_init_21 : decode cX1_init 21 = .ok (.bipush 100, 2) := by decide +kernel
theorem dX1_init_23 : decode cX1_init 23 = .ok (.newarray .int, 2) := by decide +kernel
theorem dX1_init_25 : decode cX1_init 25 = .ok (.putfield 18, 3) := by decide +kernel
theorem dX1_init_28 : decode cX1_init 28 = .ok (.aload_n 0, 1) := by decide +kernel
theorem dX1_init_29 : decode cX1_init 29 = .ok (.aload_n 1, 1) := by decide +kernel
theorem dX1_init_30 : decode cX1_init 30 = .ok (.putfield 21, 3) := by decide +kernel
theorem dX1_init_33 : decode cX1_init 33 = .ok (.aload_n 0, 1) := by decide +kernel
theorem dX1_init_34 : decode cX1_init 34 = .ok (.aload_n 2, 1) := by decide +kernel
theorem dX1_init_35 : decode cX1_init 35 = .ok (.putfield 25, 3) := by decide +kernel
theorem dX1_init_38 : decode cX1_init 38 = .ok (.aload_n 0, 1) := by decide +kernel
theorem dX1_init_39 : decode cX1_init 39 = .ok (.aload_n 3, 1) := by decide +kernel
theorem dX1_init_40 : decode cX1_init 40 = .ok (.putfield 29, 3) := by decide +kernel
theorem dX1_init_43 : decode cX1_init 43 = .ok (.return_, 1) := by decide +kernel
theorem dX1_comes_0 : decode cX1_comes 0 = .ok (.aload_n 0, 1) := by decide +kernel
theorem dX1_comes_1 : decode cX1_comes 1 = .ok (.iload_n 1, 1) := by decide +kernel
theorem dX1_comes_2 : decode cX1_comes 2 = .ok (.iconst (-1), 1) := by decide +kernel
theorem dX1_comes_3 : decode cX1_comes 3 = .ok (.invokevirtual 33, 3) := by decide +kernel
theorem dX1_comes_6 : decode cX1_comes 6 = .ok (.sipush 500, 3) := by decide +kernel
theorem dX1_comes_9 : decode cX1_comes 9 = .ok (.bipush 50, 2) := by decide +kernel
theorem dX1_comes_11 : decode cX1_comes 11 = .ok (.aload_n 0, 1) := by decide +kernel
theorem dX1_comes_12 : decode cX1_comes 12 = .ok (.getfield 21, 3) := by decide +kernel
theorem dX1_comes_15 : decode cX1_comes 15 = .ok (.iload_n 1, 1) := by decide +kernel
theorem dX1_comes_16 : decode cX1_comes 16 = .ok (.iconst 3, 1) := by decide +kernel
theorem dX1_comes_17 : decode cX1_comes 17 = .ok (.invokevirtual 37, 3) := by decide +kernel
theorem dX1_comes_20 : decode cX1_comes 20 = .ok (.imul, 1) := by decide +kernel
theorem dX1_comes_21 : decode cX1_comes 21 = .ok (.iadd, 1) := by decide +kernel
theorem dX1_comes_22 : decode cX1_comes 22 = .ok (.istore_n 2, 1) := by decide +kernel
theorem dX1_comes_23 : decode cX1_comes 23 = .ok (.aload_n 0, 1) := by decide +kernel
theorem dX1_comes_24 : decode cX1_comes 24 = .ok (.getfield 25, 3) := by decide +kernel
theorem dX1_comes_27 : decode cX1_comes 27 = .ok (.iconst 0, 1) := by decide +kernel
theorem dX1_comes_28 : decode cX1_comes 28 = .ok (.aaload, 1) := by decide +kernel
theorem dX1_comes_29 : decode cX1_comes 29 = .ok (.sipush 300, 3) := by decide +kernel
theorem dX1_comes_32 : decode cX1_comes 32 = .ok (.iload_n 2, 1) := by decide +kernel
theorem dX1_comes_33 : decode cX1_comes 33 = .ok (.aload_n 0, 1) := by decide +kernel
theorem dX1_comes_34 : decode cX1_comes 34 = .ok (.getfield 9, 3) := by decide +kernel
theorem dX1_comes_37 : decode cX1_comes 37 = .ok (.aload_n 0, 1) := by decide +kernel
theorem dX1_comes_38 : decode cX1_comes 38 = .ok (.getfield 15, 3) := by decide +kernel
theorem dX1_comes_41 : decode cX1_comes 41 = .ok (.invokevirtual 43, 3) := by decide +kernel
theorem dX1_comes_44 : decode cX1_comes 44 = .ok (.sipush 1000, 3) := by decide +kernel
theorem dX1_comes_47 : decode cX1_comes 47 = .ok (.invokestatic 49, 3) := by decide +kernel
theorem dX1_comes_50 : decode cX1_comes 50 = .ok (.ireturn, 1) := by decide +kernel
theorem dX1_melts_0 : decode cX1_melts 0 = .ok (.aload_n 0, 1) := by decide +kernel
theorem dX1_melts_1 : decode cX1_melts 1 = .ok (.aload_n 0, 1) := by decide +kernel
theorem dX1_melts_2 : decode cX1_melts 2 = .ok (.getfield 21, 3) := by decide +kernel
theorem dX1_melts_5 : decode cX1_melts 5 = .ok (.iload_n 1, 1) := by decide +kernel
theorem dX1_melts_6 : decode cX1_melts 6 = .ok (.invokevirtual 52, 3) := by decide +kernel
theorem dX1_melts_9 : decode cX1_melts 9 = .ok (.iload_n 1, 1) := by decide +kernel
theorem dX1_melts_10 : decode cX1_melts 10 = .ok (.invokevirtual 33, 3) := by decide +kernel
theorem dX1_melts_13 : decode cX1_melts 13 = .ok (.bipush 100, 2) := by decide +kernel
theorem dX1_melts_15 : decode cX1_melts 15 = .ok (.aload_n 0, 1) := by decide +kernel
theorem dX1_melts_16 : decode cX1_melts 16 = .ok (.getfield 21, 3) := by decide +kernel
theorem dX1_melts_19 : decode cX1_melts 19 = .ok (.getfield 56, 3) := by decide +kernel
theorem dX1_melts_22 : decode cX1_melts 22 = .ok (.imul, 1) := by decide +kernel
theorem dX1_melts_23 : decode cX1_melts 23 = .ok (.bipush 50, 2) := by decide +kernel
theorem dX1_melts_25 : decode cX1_melts 25 = .ok (.aload_n 0, 1) := by decide +kernel
theorem dX1_melts_26 : decode cX1_melts 26 = .ok (.getfield 21, 3) := by decide +kernel
theorem dX1_melts_29 : decode cX1_melts 29 = .ok (.iload_n 1, 1) := by decide +kernel
theorem dX1_melts_30 : decode cX1_melts 30 = .ok (.invokevirtual 60, 3) := by decide +kernel
theorem dX1_melts_33 : decode cX1_melts 33 = .ok (.imul, 1) := by decide +kernel
theorem dX1_melts_34 : decode cX1_melts 34 = .ok (.isub, 1) := by decide +kernel
theorem dX1_melts_35 : decode cX1_melts 35 = .ok (.istore_n 2, 1) := by decide +kernel
theorem dX1_melts_36 : decode cX1_melts 36 = .ok (.aload_n 0, 1) := by decide +kernel
theorem dX1_melts_37 : decode cX1_melts 37 = .ok (.getfield 25, 3) := by decide +kernel
theorem dX1_melts_40 : decode cX1_melts 40 = .ok (.iconst 0, 1) := by decide +kernel
theorem dX1_melts_41 : decode cX1_melts 41 = .ok (.aaload, 1) := by decide +kernel
theorem dX1_melts_42 : decode cX1_melts 42 = .ok (.sipush 301, 3) := by decide +kernel
theorem dX1_melts_45 : decode cX1_melts 45 = .ok (.iload_n 2, 1) := by decide +kernel
theorem dX1_melts_46 : decode cX1_melts 46 = .ok (.aload_n 0, 1) := by decide +kernel
theorem dX1_melts_47 : decode cX1_melts 47 = .ok (.getfield 9, 3) := by decide +kernel
theorem dX1_melts_50 : decode cX1_melts 50 = .ok (.aload_n 0, 1) := by decide +kernel
theorem dX1_melts_51 : decode cX1_melts 51 = .ok (.getfield 15, 3) := by decide +kernel
theorem dX1_melts_54 : decode cX1_melts 54 = .ok (.invokevirtual 43, 3) := by decide +kernel
theorem dX1_melts_57 : decode cX1_melts 57 = .ok (.sipush 1000, 3) := by decide +kernel
theorem dX1_melts_60 : decode cX1_melts 60 = .ok (.invokestatic 49, 3) := by decide +kernel
theorem dX1_melts_63 : decode cX1_melts 63 = .ok (.ireturn, 1) := by decide +kernel
theorem dX1_weighs_0 : decode cX1_weighs 0 = .ok (.aload_n 0, 1) := by decide +kernel
theorem dX1_weighs_1 : decode cX1_weighs 1 = .ok (.aload_n 0, 1) := by decide +kernel
theorem dX1_weighs_2 : decode cX1_weighs 2 = .ok (.getfield 21, 3) := by decide +kernel
theorem dX1_weighs_5 : decode cX1_weighs 5 = .ok (.iload_n 1, 1) := by decide +kernel
theorem dX1_weighs_6 : decode cX1_weighs 6 = .ok (.invokevirtual 52, 3) := by decide +kernel
theorem dX1_weighs_9 : decode cX1_weighs 9 = .ok (.iload_n 1, 1) := by decide +kernel
theorem dX1_weighs_10 : decode cX1_weighs 10 = .ok (.invokevirtual 33, 3) := by decide +kernel
theorem dX1_weighs_13 : decode cX1_weighs 13 = .ok (.aload_n 0, 1) := by decide +kernel
theorem dX1_weighs_14 : decode cX1_weighs 14 = .ok (.getfield 25, 3) := by decide +kernel
theorem dX1_weighs_17 : decode cX1_weighs 17 = .ok (.iconst 0, 1) := by decide +kernel
theorem dX1_weighs_18 : decode cX1_weighs 18 = .ok (.aaload, 1) := by decide +kernel
theorem dX1_weighs_19 : decode cX1_weighs 19 = .ok (.sipush 302, 3) := by decide +kernel
theorem dX1_weighs_22 : decode cX1_weighs 22 = .ok (.aload_n 0, 1) := by decide +kernel
theorem dX1_weighs_23 : decode cX1_weighs 23 = .ok (.getfield 21, 3) := by decide +kernel
theorem dX1_weighs_26 : decode cX1_weighs 26 = .ok (.iload_n 1, 1) := by decide +kernel
theorem dX1_weighs_27 : decode cX1_weighs 27 = .ok (.invokevirtual 60, 3) := by decide +kernel
theorem dX1_weighs_30 : decode cX1_weighs 30 = .ok (.aload_n 0, 1) := by decide +kernel
theorem dX1_weighs_31 : decode cX1_weighs 31 = .ok (.getfield 9, 3) := by decide +kernel
theorem dX1_weighs_34 : decode cX1_weighs 34 = .ok (.aload_n 0, 1) := by decide +kernel
theorem dX1_weighs_35 : decode cX1_weighs 35 = .ok (.getfield 15, 3) := by decide +kernel
theorem dX1_weighs_38 : decode cX1_weighs 38 = .ok (.invokevirtual 43, 3) := by decide +kernel
theorem dX1_weighs_41 : decode cX1_weighs 41 = .ok (.bipush 99, 2) := by decide +kernel
theorem dX1_weighs_43 : decode cX1_weighs 43 = .ok (.invokestatic 49, 3) := by decide +kernel
theorem dX1_weighs_46 : decode cX1_weighs 46 = .ok (.ireturn, 1) := by decide +kernel
theorem dX1_layValues_0 : decode cX1_layValues 0 = .ok (.iload_n 2, 1) := by decide +kernel
theorem dX1_layValues_1 : decode cX1_layValues 1 = .ok (.iconst (-1), 1) := by decide +kernel
theorem dX1_layValues_2 : decode cX1_layValues 2 = .ok (.if_icmp .eq 7, 3) := by decide +kernel
theorem dX1_layValues_5 : decode cX1_layValues 5 = .ok (.iconst 1, 1) := by decide +kernel
theorem dX1_layValues_6 : decode cX1_layValues 6 = .ok (.goto 4, 3) := by decide +kernel
theorem dX1_layValues_9 : decode cX1_layValues 9 = .ok (.iconst 0, 1) := by decide +kernel
theorem dX1_layValues_10 : decode cX1_layValues 10 = .ok (.istore_n 3, 1) := by decide +kernel
theorem dX1_layValues_11 : decode cX1_layValues 11 = .ok (.aload_n 0, 1) := by decide +kernel
theorem dX1_layValues_12 : decode cX1_layValues 12 = .ok (.getfield 9, 3) := by decide +kernel
theorem dX1_layValues_15 : decode cX1_layValues 15 = .ok (.iconst 0, 1) := by decide +kernel
theorem dX1_layValues_16 : decode cX1_layValues 16 = .ok (.iload_n 3, 1) := by decide +kernel
theorem dX1_layValues_17 : decode cX1_layValues 17 = .ok (.ifCond .eq 14, 3) := by decide +kernel
theorem dX1_layValues_20 : decode cX1_layValues 20 = .ok (.aload_n 0, 1) := by decide +kernel
theorem dX1_layValues_21 : decode cX1_layValues 21 = .ok (.getfield 21, 3) := by decide +kernel
theorem dX1_layValues_24 : decode cX1_layValues 24 = .ok (.iload_n 2, 1) := by decide +kernel
theorem dX1_layValues_25 : decode cX1_layValues 25 = .ok (.invokevirtual 63, 3) := by decide +kernel
theorem dX1_layValues_28 : decode cX1_layValues 28 = .ok (.goto 12, 3) := by decide +kernel
theorem dX1_layValues_31 : decode cX1_layValues 31 = .ok (.aload_n 0, 1) := by decide +kernel
theorem dX1_layValues_32 : decode cX1_layValues 32 = .ok (.getfield 21, 3) := by decide +kernel
theorem dX1_layValues_35 : decode cX1_layValues 35 = .ok (.iload_n 1, 1) := by decide +kernel
theorem dX1_layValues_36 : decode cX1_layValues 36 = .ok (.iconst 1, 1) := by decide +kernel
theorem dX1_layValues_37 : decode cX1_layValues 37 = .ok (.invokevirtual 37, 3) := by decide +kernel
theorem dX1_layValues_40 : decode cX1_layValues 40 = .ok (.iastore, 1) := by decide +kernel
theorem dX1_layValues_41 : decode cX1_layValues 41 = .ok (.aload_n 0, 1) := by decide +kernel
theorem dX1_layValues_42 : decode cX1_layValues 42 = .ok (.getfield 9, 3) := by decide +kernel
theorem dX1_layValues_45 : decode cX1_layValues 45 = .ok (.iconst 1, 1) := by decide +kernel
theorem dX1_layValues_46 : decode cX1_layValues 46 = .ok (.aload_n 0, 1) := by decide +kernel
theorem dX1_layValues_47 : decode cX1_layValues 47 = .ok (.getfield 21, 3) := by decide +kernel
theorem dX1_layValues_50 : decode cX1_layValues 50 = .ok (.iload_n 1, 1) := by decide +kernel
theorem dX1_layValues_51 : decode cX1_layValues 51 = .ok (.iconst 3, 1) := by decide +kernel
theorem dX1_layValues_52 : decode cX1_layValues 52 = .ok (.invokevirtual 37, 3) := by decide +kernel
theorem dX1_layValues_55 : decode cX1_layValues 55 = .ok (.iastore, 1) := by decide +kernel
theorem dX1_layValues_56 : decode cX1_layValues 56 = .ok (.aload_n 0, 1) := by decide +kernel
theorem dX1_layValues_57 : decode cX1_layValues 57 = .ok (.getfield 9, 3) := by decide +kernel
theorem dX1_layValues_60 : decode cX1_layValues 60 = .ok (.iconst 2, 1) := by decide +kernel
theorem dX1_layValues_61 : decode cX1_layValues 61 = .ok (.aload_n 0, 1) := by decide +kernel
theorem dX1_layValues_62 : decode cX1_layValues 62 = .ok (.getfield 21, 3) := by decide +kernel
theorem dX1_layValues_65 : decode cX1_layValues 65 = .ok (.iload_n 1, 1) := by decide +kernel
theorem dX1_layValues_66 : decode cX1_layValues 66 = .ok (.iconst 2, 1) := by decide +kernel
theorem dX1_layValues_67 : decode cX1_layValues 67 = .ok (.invokevirtual 37, 3) := by decide +kernel
theorem dX1_layValues_70 : decode cX1_layValues 70 = .ok (.iastore, 1) := by decide +kernel
theorem dX1_layValues_71 : decode cX1_layValues 71 = .ok (.aload_n 0, 1) := by decide +kernel
theorem dX1_layValues_72 : decode cX1_layValues 72 = .ok (.getfield 9, 3) := by decide +kernel
theorem dX1_layValues_75 : decode cX1_layValues 75 = .ok (.iconst 3, 1) := by decide +kernel
theorem dX1_layValues_76 : decode cX1_layValues 76 = .ok (.iload_n 3, 1) := by decide +kernel
theorem dX1_layValues_77 : decode cX1_layValues 77 = .ok (.ifCond .eq 14, 3) := by decide +kernel
theorem dX1_layValues_80 : decode cX1_layValues 80 = .ok (.aload_n 0, 1) := by decide +kernel
theorem dX1_layValues_81 : decode cX1_layValues 81 = .ok (.getfield 21, 3) := by decide +kernel
theorem dX1_layValues_84 : decode cX1_layValues 84 = .ok (.iload_n 2, 1) := by decide +kernel
theorem dX1_layValues_85 : decode cX1_layValues 85 = .ok (.invokevirtual 60, 3) := by decide +kernel
theorem dX1_layValues_88 : decode cX1_layValues 88 = .ok (.goto 4, 3) := by decide +kernel
theorem dX1_layValues_91 : decode cX1_layValues 91 = .ok (.iconst 0, 1) := by decide +kernel
theorem dX1_layValues_92 : decode cX1_layValues 92 = .ok (.iastore, 1) := by decide +kernel
theorem dX1_layValues_93 : decode cX1_layValues 93 = .ok (.aload_n 0, 1) := by decide +kernel
theorem dX1_layValues_94 : decode cX1_layValues 94 = .ok (.getfield 9, 3) := by decide +kernel
theorem dX1_layValues_97 : decode cX1_layValues 97 = .ok (.iconst 4, 1) := by decide +kernel
theorem dX1_layValues_98 : decode cX1_layValues 98 = .ok (.aload_n 0, 1) := by decide +kernel
theorem dX1_layValues_99 : decode cX1_layValues 99 = .ok (.getfield 21, 3) := by decide +kernel
theorem dX1_layValues_102 : decode cX1_layValues 102 = .ok (.getfield 56, 3) := by decide +kernel
theorem dX1_layValues_105 : decode cX1_layValues 105 = .ok (.iastore, 1) := by decide +kernel
theorem dX1_layValues_106 : decode cX1_layValues 106 = .ok (.aload_n 0, 1) := by decide +kernel
theorem dX1_layValues_107 : decode cX1_layValues 107 = .ok (.getfield 9, 3) := by decide +kernel
theorem dX1_layValues_110 : decode cX1_layValues 110 = .ok (.iconst 5, 1) := by decide +kernel
theorem dX1_layValues_111 : decode cX1_layValues 111 = .ok (.aload_n 0, 1) := by decide +kernel
theorem dX1_layValues_112 : decode cX1_layValues 112 = .ok (.getfield 21, 3) := by decide +kernel
theorem dX1_layValues_115 : decode cX1_layValues 115 = .ok (.getfield 66, 3) := by decide +kernel
theorem dX1_layValues_118 : decode cX1_layValues 118 = .ok (.iastore, 1) := by decide +kernel
theorem dX1_layValues_119 : decode cX1_layValues 119 = .ok (.aload_n 0, 1) := by decide +kernel
theorem dX1_layValues_120 : decode cX1_layValues 120 = .ok (.getfield 9, 3) := by decide +kernel
theorem dX1_layValues_123 : decode cX1_layValues 123 = .ok (.bipush 6, 2) := by decide +kernel
theorem dX1_layValues_125 : decode cX1_layValues 125 = .ok (.iload_n 3, 1) := by decide +kernel
theorem dX1_layValues_126 : decode cX1_layValues 126 = .ok (.ifCond .eq 10, 3) := by decide +kernel
theorem dX1_layValues_129 : decode cX1_layValues 129 = .ok (.iload_n 2, 1) := by decide +kernel
theorem dX1_layValues_130 : decode cX1_layValues 130 = .ok (.bipush 12, 2) := by decide +kernel
theorem dX1_layValues_132 : decode cX1_layValues 132 = .ok (.idiv, 1) := by decide +kernel
theorem dX1_layValues_133 : decode cX1_layValues 133 = .ok (.goto 4, 3) := by decide +kernel
theorem dX1_layValues_136 : decode cX1_layValues 136 = .ok (.iconst 0, 1) := by decide +kernel
theorem dX1_layValues_137 : decode cX1_layValues 137 = .ok (.iastore, 1) := by decide +kernel
theorem dX1_layValues_138 : decode cX1_layValues 138 = .ok (.aload_n 0, 1) := by decide +kernel
theorem dX1_layValues_139 : decode cX1_layValues 139 = .ok (.getfield 9, 3) := by decide +kernel
theorem dX1_layValues_142 : decode cX1_layValues 142 = .ok (.bipush 7, 2) := by decide +kernel
theorem dX1_layValues_144 : decode cX1_layValues 144 = .ok (.iload_n 3, 1) := by decide +kernel
theorem dX1_layValues_145 : decode cX1_layValues 145 = .ok (.ifCond .eq 14, 3) := by decide +kernel
theorem dX1_layValues_148 : decode cX1_layValues 148 = .ok (.aload_n 0, 1) := by decide +kernel
theorem dX1_layValues_149 : decode cX1_layValues 149 = .ok (.getfield 21, 3) := by decide +kernel
theorem dX1_layValues_152 : decode cX1_layValues 152 = .ok (.iload_n 2, 1) := by decide +kernel
theorem dX1_layValues_153 : decode cX1_layValues 153 = .ok (.invokevirtual 69, 3) := by decide +kernel
theorem dX1_layValues_156 : decode cX1_layValues 156 = .ok (.goto 4, 3) := by decide +kernel
theorem dX1_layValues_159 : decode cX1_layValues 159 = .ok (.iconst 0, 1) := by decide +kernel
theorem dX1_layValues_160 : decode cX1_layValues 160 = .ok (.iastore, 1) := by decide +kernel
theorem dX1_layValues_161 : decode cX1_layValues 161 = .ok (.aload_n 0, 1) := by decide +kernel
theorem dX1_layValues_162 : decode cX1_layValues 162 = .ok (.getfield 9, 3) := by decide +kernel
theorem dX1_layValues_165 : decode cX1_layValues 165 = .ok (.bipush 8, 2) := by decide +kernel
theorem dX1_layValues_167 : decode cX1_layValues 167 = .ok (.aload_n 0, 1) := by decide +kernel
theorem dX1_layValues_168 : decode cX1_layValues 168 = .ok (.getfield 21, 3) := by decide +kernel
theorem dX1_layValues_171 : decode cX1_layValues 171 = .ok (.iload_n 1, 1) := by decide +kernel
theorem dX1_layValues_172 : decode cX1_layValues 172 = .ok (.iconst 5, 1) := by decide +kernel
theorem dX1_layValues_173 : decode cX1_layValues 173 = .ok (.invokevirtual 37, 3) := by decide +kernel
theorem dX1_layValues_176 : decode cX1_layValues 176 = .ok (.iastore, 1) := by decide +kernel
theorem dX1_layValues_177 : decode cX1_layValues 177 = .ok (.aload_n 0, 1) := by decide +kernel
theorem dX1_layValues_178 : decode cX1_layValues 178 = .ok (.getfield 9, 3) := by decide +kernel
theorem dX1_layValues_181 : decode cX1_layValues 181 = .ok (.bipush 9, 2) := by decide +kernel
theorem dX1_layValues_183 : decode cX1_layValues 183 = .ok (.aload_n 0, 1) := by decide +kernel
theorem dX1_layValues_184 : decode cX1_layValues 184 = .ok (.getfield 21, 3) := by decide +kernel
theorem dX1_layValues_187 : decode cX1_layValues 187 = .ok (.getfield 72, 3) := by decide +kernel
theorem dX1_layValues_190 : decode cX1_layValues 190 = .ok (.iastore, 1) := by decide +kernel
theorem dX1_layValues_191 : decode cX1_layValues 191 = .ok (.return_, 1) := by decide +kernel
theorem dX1_held_0 : decode cX1_held 0 = .ok (.iconst 0, 1) := by decide +kernel
theorem dX1_held_1 : decode cX1_held 1 = .ok (.iload_n 1, 1) := by decide +kernel
theorem dX1_held_2 : decode cX1_held 2 = .ok (.iload_n 0, 1) := by decide +kernel
theorem dX1_held_3 : decode cX1_held 3 = .ok (.invokestatic 75, 3) := by decide +kernel
theorem dX1_held_6 : decode cX1_held 6 = .ok (.invokestatic 80, 3) := by decide +kernel
theorem dX1_held_9 : decode cX1_held 9 = .ok (.ireturn, 1) := by decide +kernel
theorem dX1_sum_0 : decode cX1_sum 0 = .ok (.iconst 0, 1) := by decide +kernel
theorem dX1_sum_1 : decode cX1_sum 1 = .ok (.istore_n 1, 1) := by decide +kernel
theorem dX1_sum_2 : decode cX1_sum 2 = .ok (.iconst 0, 1) := by decide +kernel
theorem dX1_sum_3 : decode cX1_sum 3 = .ok (.istore_n 2, 1) := by decide +kernel
theorem dX1_sum_4 : decode cX1_sum 4 = .ok (.iload_n 2, 1) := by decide +kernel
theorem dX1_sum_5 : decode cX1_sum 5 = .ok (.sipush 144, 3) := by decide +kernel
theorem dX1_sum_8 : decode cX1_sum 8 = .ok (.if_icmp .ge 37, 3) := by decide +kernel
theorem dX1_sum_11 : decode cX1_sum 11 = .ok (.aload_n 0, 1) := by decide +kernel
theorem dX1_sum_12 : decode cX1_sum 12 = .ok (.getfield 21, 3) := by decide +kernel
theorem dX1_sum_15 : decode cX1_sum 15 = .ok (.iload_n 2, 1) := by decide +kernel
theorem dX1_sum_16 : decode cX1_sum 16 = .ok (.invokevirtual 83, 3) := by decide +kernel
theorem dX1_sum_19 : decode cX1_sum 19 = .ok (.ifCond .eq 20, 3) := by decide +kernel
theorem dX1_sum_22 : decode cX1_sum 22 = .ok (.iload_n 1, 1) := by decide +kernel
theorem dX1_sum_23 : decode cX1_sum 23 = .ok (.aload_n 0, 1) := by decide +kernel
theorem dX1_sum_24 : decode cX1_sum 24 = .ok (.getfield 21, 3) := by decide +kernel
theorem dX1_sum_27 : decode cX1_sum 27 = .ok (.iload_n 2, 1) := by decide +kernel
theorem dX1_sum_28 : decode cX1_sum 28 = .ok (.invokevirtual 63, 3) := by decide +kernel
theorem dX1_sum_31 : decode cX1_sum 31 = .ok (.aload_n 0, 1) := by decide +kernel
theorem dX1_sum_32 : decode cX1_sum 32 = .ok (.iload_n 2, 1) := by decide +kernel
theorem dX1_sum_33 : decode cX1_sum 33 = .ok (.invokevirtual 87, 3) := by decide +kernel
theorem dX1_sum_36 : decode cX1_sum 36 = .ok (.imul, 1) := by decide +kernel
theorem dX1_sum_37 : decode cX1_sum 37 = .ok (.iadd, 1) := by decide +kernel
theorem dX1_sum_38 : decode cX1_sum 38 = .ok (.istore_n 1, 1) := by decide +kernel
theorem dX1_sum_39 : decode cX1_sum 39 = .ok (.iinc 2 1, 3) := by decide +kernel
theorem dX1_sum_42 : decode cX1_sum 42 = .ok (.goto (-38), 3) := by decide +kernel
theorem dX1_sum_45 : decode cX1_sum 45 = .ok (.iload_n 1, 1) := by decide +kernel
theorem dX1_sum_46 : decode cX1_sum 46 = .ok (.ireturn, 1) := by decide +kernel
theorem dX1_turned_0 : decode cX1_turned 0 = .ok (.aload_n 0, 1) := by decide +kernel
theorem dX1_turned_1 : decode cX1_turned 1 = .ok (.getfield 18, 3) := by decide +kernel
theorem dX1_turned_4 : decode cX1_turned 4 = .ok (.iconst 0, 1) := by decide +kernel
theorem dX1_turned_5 : decode cX1_turned 5 = .ok (.invokestatic 90, 3) := by decide +kernel
theorem dX1_turned_8 : decode cX1_turned 8 = .ok (.iconst 0, 1) := by decide +kernel
theorem dX1_turned_9 : decode cX1_turned 9 = .ok (.istore_n 1, 1) := by decide +kernel
theorem dX1_turned_10 : decode cX1_turned 10 = .ok (.iconst 0, 1) := by decide +kernel
theorem dX1_turned_11 : decode cX1_turned 11 = .ok (.istore_n 2, 1) := by decide +kernel
theorem dX1_turned_12 : decode cX1_turned 12 = .ok (.iload_n 2, 1) := by decide +kernel
theorem dX1_turned_13 : decode cX1_turned 13 = .ok (.sipush 144, 3) := by decide +kernel
theorem dX1_turned_16 : decode cX1_turned 16 = .ok (.if_icmp .ge 73, 3) := by decide +kernel
theorem dX1_turned_19 : decode cX1_turned 19 = .ok (.aload_n 0, 1) := by decide +kernel
theorem dX1_turned_20 : decode cX1_turned 20 = .ok (.getfield 21, 3) := by decide +kernel
theorem dX1_turned_23 : decode cX1_turned 23 = .ok (.iload_n 2, 1) := by decide +kernel
theorem dX1_turned_24 : decode cX1_turned 24 = .ok (.invokevirtual 83, 3) := by decide +kernel
theorem dX1_turned_27 : decode cX1_turned 27 = .ok (.ifCond .eq 56, 3) := by decide +kernel
theorem dX1_turned_30 : decode cX1_turned 30 = .ok (.aload_n 0, 1) := by decide +kernel
theorem dX1_turned_31 : decode cX1_turned 31 = .ok (.iload_n 2, 1) := by decide +kernel
theorem dX1_turned_32 : decode cX1_turned 32 = .ok (.invokevirtual 87, 3) := by decide +kernel
theorem dX1_turned_35 : decode cX1_turned 35 = .ok (.istore_n 3, 1) := by decide +kernel
theorem dX1_turned_36 : decode cX1_turned 36 = .ok (.iload_n 1, 1) := by decide +kernel
theorem dX1_turned_37 : decode cX1_turned 37 = .ok (.aload_n 0, 1) := by decide +kernel
theorem dX1_turned_38 : decode cX1_turned 38 = .ok (.getfield 21, 3) := by decide +kernel
theorem dX1_turned_41 : decode cX1_turned 41 = .ok (.iload_n 2, 1) := by decide +kernel
theorem dX1_turned_42 : decode cX1_turned 42 = .ok (.invokevirtual 63, 3) := by decide +kernel
theorem dX1_turned_45 : decode cX1_turned 45 = .ok (.iload_n 3, 1) := by decide +kernel
theorem dX1_turned_46 : decode cX1_turned 46 = .ok (.imul, 1) := by decide +kernel
theorem dX1_turned_47 : decode cX1_turned 47 = .ok (.iadd, 1) := by decide +kernel
theorem dX1_turned_48 : decode cX1_turned 48 = .ok (.istore_n 1, 1) := by decide +kernel
theorem dX1_turned_49 : decode cX1_turned 49 = .ok (.aload_n 0, 1) := by decide +kernel
theorem dX1_turned_50 : decode cX1_turned 50 = .ok (.getfield 21, 3) := by decide +kernel
theorem dX1_turned_53 : decode cX1_turned 53 = .ok (.iload_n 2, 1) := by decide +kernel
theorem dX1_turned_54 : decode cX1_turned 54 = .ok (.invokevirtual 63, 3) := by decide +kernel
theorem dX1_turned_57 : decode cX1_turned 57 = .ok (.ifCond .ge 26, 3) := by decide +kernel
theorem dX1_turned_60 : decode cX1_turned 60 = .ok (.iload_n 3, 1) := by decide +kernel
theorem dX1_turned_61 : decode cX1_turned 61 = .ok (.ifCond .lt 22, 3) := by decide +kernel
theorem dX1_turned_64 : decode cX1_turned 64 = .ok (.iload_n 3, 1) := by decide +kernel
theorem dX1_turned_65 : decode cX1_turned 65 = .ok (.aload_n 0, 1) := by decide +kernel
theorem dX1_turned_66 : decode cX1_turned 66 = .ok (.getfield 18, 3) := by decide +kernel
theorem dX1_turned_69 : decode cX1_turned 69 = .ok (.arraylength, 1) := by decide +kernel
theorem dX1_turned_70 : decode cX1_turned 70 = .ok (.if_icmp .ge 13, 3) := by decide +kernel
theorem dX1_turned_73 : decode cX1_turned 73 = .ok (.aload_n 0, 1) := by decide +kernel
theorem dX1_turned_74 : decode cX1_turned 74 = .ok (.getfield 18, 3) := by decide +kernel
theorem dX1_turned_77 : decode cX1_turned 77 = .ok (.iload_n 3, 1) := by decide +kernel
theorem dX1_turned_78 : decode cX1_turned 78 = .ok (.dup2, 1) := by decide +kernel
theorem dX1_turned_79 : decode cX1_turned 79 = .ok (.iaload, 1) := by decide +kernel
theorem dX1_turned_80 : decode cX1_turned 80 = .ok (.iconst 1, 1) := by decide +kernel
theorem dX1_turned_81 : decode cX1_turned 81 = .ok (.iadd, 1) := by decide +kernel
theorem dX1_turned_82 : decode cX1_turned 82 = .ok (.iastore, 1) := by decide +kernel
theorem dX1_turned_83 : decode cX1_turned 83 = .ok (.iinc 2 1, 3) := by decide +kernel
theorem dX1_turned_86 : decode cX1_turned 86 = .ok (.goto (-74), 3) := by decide +kernel
theorem dX1_turned_89 : decode cX1_turned 89 = .ok (.iconst 0, 1) := by decide +kernel
theorem dX1_turned_90 : decode cX1_turned 90 = .ok (.istore_n 2, 1) := by decide +kernel
theorem dX1_turned_91 : decode cX1_turned 91 = .ok (.bipush 99, 2) := by decide +kernel
theorem dX1_turned_93 : decode cX1_turned 93 = .ok (.istore_n 3, 1) := by decide +kernel
theorem dX1_turned_94 : decode cX1_turned 94 = .ok (.iload_n 3, 1) := by decide +kernel
theorem dX1_turned_95 : decode cX1_turned 95 = .ok (.ifCond .le 40, 3) := by decide +kernel
theorem dX1_turned_98 : decode cX1_turned 98 = .ok (.iconst 0, 1) := by decide +kernel
theorem dX1_turned_99 : decode cX1_turned 99 = .ok (.istore 4, 2) := by decide +kernel
theorem dX1_turned_101 : decode cX1_turned 101 = .ok (.iload 4, 2) := by decide +kernel
theorem dX1_turned_103 : decode cX1_turned 103 = .ok (.aload_n 0, 1) := by decide +kernel
theorem dX1_turned_104 : decode cX1_turned 104 = .ok (.getfield 18, 3) := by decide +kernel
theorem dX1_turned_107 : decode cX1_turned 107 = .ok (.iload_n 3, 1) := by decide +kernel
theorem dX1_turned_108 : decode cX1_turned 108 = .ok (.iaload, 1) := by decide +kernel
theorem dX1_turned_109 : decode cX1_turned 109 = .ok (.if_icmp .ge 20, 3) := by decide +kernel
theorem dX1_turned_112 : decode cX1_turned 112 = .ok (.iload_n 1, 1) := by decide +kernel
theorem dX1_turned_113 : decode cX1_turned 113 = .ok (.ifCond .gt 16, 3) := by decide +kernel
theorem dX1_turned_116 : decode cX1_turned 116 = .ok (.iload_n 1, 1) := by decide +kernel
theorem dX1_turned_117 : decode cX1_turned 117 = .ok (.iload_n 3, 1) := by decide +kernel
theorem dX1_turned_118 : decode cX1_turned 118 = .ok (.iadd, 1) := by decide +kernel
theorem dX1_turned_119 : decode cX1_turned 119 = .ok (.istore_n 1, 1) := by decide +kernel
theorem dX1_turned_120 : decode cX1_turned 120 = .ok (.iinc 2 1, 3) := by decide +kernel
theorem dX1_turned_123 : decode cX1_turned 123 = .ok (.iinc 4 1, 3) := by decide +kernel
theorem dX1_turned_126 : decode cX1_turned 126 = .ok (.goto (-25), 3) := by decide +kernel
theorem dX1_turned_129 : decode cX1_turned 129 = .ok (.iinc 3 (-1), 3) := by decide +kernel
theorem dX1_turned_132 : decode cX1_turned 132 = .ok (.goto (-38), 3) := by decide +kernel
theorem dX1_turned_135 : decode cX1_turned 135 = .ok (.iload_n 1, 1) := by decide +kernel
theorem dX1_turned_136 : decode cX1_turned 136 = .ok (.ifCond .le 7, 3) := by decide +kernel
theorem dX1_turned_139 : decode cX1_turned 139 = .ok (.iload_n 2, 1) := by decide +kernel
theorem dX1_turned_140 : decode cX1_turned 140 = .ok (.goto 4, 3) := by decide +kernel
theorem dX1_turned_143 : decode cX1_turned 143 = .ok (.iconst (-1), 1) := by decide +kernel
theorem dX1_turned_144 : decode cX1_turned 144 = .ok (.ireturn, 1) := by decide +kernel
theorem dX1_oneHour_0 : decode cX1_oneHour 0 = .ok (.aload_n 0, 1) := by decide +kernel
theorem dX1_oneHour_1 : decode cX1_oneHour 1 = .ok (.invokevirtual 96, 3) := by decide +kernel
theorem dX1_oneHour_4 : decode cX1_oneHour 4 = .ok (.aload_n 0, 1) := by decide +kernel
theorem dX1_oneHour_5 : decode cX1_oneHour 5 = .ok (.invokevirtual 99, 3) := by decide +kernel
theorem dX1_oneHour_8 : decode cX1_oneHour 8 = .ok (.istore_n 1, 1) := by decide +kernel
theorem dX1_oneHour_9 : decode cX1_oneHour 9 = .ok (.aload_n 0, 1) := by decide +kernel
theorem dX1_oneHour_10 : decode cX1_oneHour 10 = .ok (.invokevirtual 103, 3) := by decide +kernel
theorem dX1_oneHour_13 : decode cX1_oneHour 13 = .ok (.aload_n 0, 1) := by decide +kernel
theorem dX1_oneHour_14 : decode cX1_oneHour 14 = .ok (.getfield 21, 3) := by decide +kernel
theorem dX1_oneHour_17 : decode cX1_oneHour 17 = .ok (.getfield 66, 3) := by decide +kernel
theorem dX1_oneHour_20 : decode cX1_oneHour 20 = .ok (.bipush 11, 2) := by decide +kernel
theorem dX1_oneHour_22 : decode cX1_oneHour 22 = .ok (.if_icmp .ge 19, 3) := by decide +kernel
theorem dX1_oneHour_25 : decode cX1_oneHour 25 = .ok (.aload_n 0, 1) := by decide +kernel
theorem dX1_oneHour_26 : decode cX1_oneHour 26 = .ok (.getfield 21, 3) := by decide +kernel
theorem dX1_oneHour_29 : decode cX1_oneHour 29 = .ok (.dup, 1) := by decide +kernel
theorem dX1_oneHour_30 : decode cX1_oneHour 30 = .ok (.getfield 66, 3) := by decide +kernel
theorem dX1_oneHour_33 : decode cX1_oneHour 33 = .ok (.iconst 1, 1) := by decide +kernel
theorem dX1_oneHour_34 : decode cX1_oneHour 34 = .ok (.iadd, 1) := by decide +kernel
theorem dX1_oneHour_35 : decode cX1_oneHour 35 = .ok (.putfield 66, 3) := by decide +kernel
theorem dX1_oneHour_38 : decode cX1_oneHour 38 = .ok (.goto 7, 3) := by decide +kernel
theorem dX1_oneHour_41 : decode cX1_oneHour 41 = .ok (.aload_n 0, 1) := by decide +kernel
theorem dX1_oneHour_42 : decode cX1_oneHour 42 = .ok (.invokevirtual 106, 3) := by decide +kernel
theorem dX1_oneHour_45 : decode cX1_oneHour 45 = .ok (.iload_n 1, 1) := by decide +kernel
theorem dX1_oneHour_46 : decode cX1_oneHour 46 = .ok (.ireturn, 1) := by decide +kernel
theorem dX1_skyOfHour_0 : decode cX1_skyOfHour 0 = .ok (.aload_n 0, 1) := by decide +kernel
theorem dX1_skyOfHour_1 : decode cX1_skyOfHour 1 = .ok (.getfield 25, 3) := by decide +kernel
theorem dX1_skyOfHour_4 : decode cX1_skyOfHour 4 = .ok (.iconst 2, 1) := by decide +kernel
theorem dX1_skyOfHour_5 : decode cX1_skyOfHour 5 = .ok (.aaload, 1) := by decide +kernel
theorem dX1_skyOfHour_6 : decode cX1_skyOfHour 6 = .ok (.astore_n 1, 1) := by decide +kernel
theorem dX1_skyOfHour_7 : decode cX1_skyOfHour 7 = .ok (.iconst 0, 1) := by decide +kernel
theorem dX1_skyOfHour_8 : decode cX1_skyOfHour 8 = .ok (.istore_n 2, 1) := by decide +kernel
theorem dX1_skyOfHour_9 : decode cX1_skyOfHour 9 = .ok (.iload_n 2, 1) := by decide +kernel
theorem dX1_skyOfHour_10 : decode cX1_skyOfHour 10 = .ok (.aload_n 1, 1) := by decide +kernel
theorem dX1_skyOfHour_11 : decode cX1_skyOfHour 11 = .ok (.getfield 109, 3) := by decide +kernel
theorem dX1_skyOfHour_14 : decode cX1_skyOfHour 14 = .ok (.if_icmp .ge 122, 3) := by decide +kernel
theorem dX1_skyOfHour_17 : decode cX1_skyOfHour 17 = .ok (.aload_n 1, 1) := by decide +kernel
theorem dX1_skyOfHour_18 : decode cX1_skyOfHour 18 = .ok (.iload_n 2, 1) := by decide +kernel
theorem dX1_skyOfHour_19 : decode cX1_skyOfHour 19 = .ok (.iconst 0, 1) := by decide +kernel
theorem dX1_skyOfHour_20 : decode cX1_skyOfHour 20 = .ok (.invokevirtual 112, 3) := by decide +kernel
theorem dX1_skyOfHour_23 : decode cX1_skyOfHour 23 = .ok (.aload_n 0, 1) := by decide +kernel
theorem dX1_skyOfHour_24 : decode cX1_skyOfHour 24 = .ok (.getfield 21, 3) := by decide +kernel
theorem dX1_skyOfHour_27 : decode cX1_skyOfHour 27 = .ok (.getfield 72, 3) := by decide +kernel
theorem dX1_skyOfHour_30 : decode cX1_skyOfHour 30 = .ok (.if_icmp .ne 100, 3) := by decide +kernel
theorem dX1_skyOfHour_33 : decode cX1_skyOfHour 33 = .ok (.aload_n 1, 1) := by decide +kernel
theorem dX1_skyOfHour_34 : decode cX1_skyOfHour 34 = .ok (.iload_n 2, 1) := by decide +kernel
theorem dX1_skyOfHour_35 : decode cX1_skyOfHour 35 = .ok (.iconst 2, 1) := by decide +kernel
theorem dX1_skyOfHour_36 : decode cX1_skyOfHour 36 = .ok (.invokevirtual 112, 3) := by decide +kernel
theorem dX1_skyOfHour_39 : decode cX1_skyOfHour 39 = .ok (.aload_n 0, 1) := by decide +kernel
theorem dX1_skyOfHour_40 : decode cX1_skyOfHour 40 = .ok (.getfield 21, 3) := by decide +kernel
theorem dX1_skyOfHour_43 : decode cX1_skyOfHour 43 = .ok (.getfield 66, 3) := by decide +kernel
theorem dX1_skyOfHour_46 : decode cX1_skyOfHour 46 = .ok (.if_icmp .ne 84, 3) := by decide +kernel
theorem dX1_skyOfHour_49 : decode cX1_skyOfHour 49 = .ok (.aload_n 1, 1) := by decide +kernel
theorem dX1_skyOfHour_50 : decode cX1_skyOfHour 50 = .ok (.iload_n 2, 1) := by decide +kernel
theorem dX1_skyOfHour_51 : decode cX1_skyOfHour 51 = .ok (.iconst 1, 1) := by decide +kernel
theorem dX1_skyOfHour_52 : decode cX1_skyOfHour 52 = .ok (.invokevirtual 112, 3) := by decide +kernel
theorem dX1_skyOfHour_55 : decode cX1_skyOfHour 55 = .ok (.istore_n 3, 1) := by decide +kernel
theorem dX1_skyOfHour_56 : decode cX1_skyOfHour 56 = .ok (.iload_n 3, 1) := by decide +kernel
theorem dX1_skyOfHour_57 : decode cX1_skyOfHour 57 = .ok (.sipush 303, 3) := by decide +kernel
theorem dX1_skyOfHour_60 : decode cX1_skyOfHour 60 = .ok (.if_icmp .ne 26, 3) := by decide +kernel
theorem dX1_skyOfHour_63 : decode cX1_skyOfHour 63 = .ok (.aload_n 0, 1) := by decide +kernel
theorem dX1_skyOfHour_64 : decode cX1_skyOfHour 64 = .ok (.getfield 21, 3) := by decide +kernel
theorem dX1_skyOfHour_67 : decode cX1_skyOfHour 67 = .ok (.aload_n 1, 1) := by decide +kernel
theorem dX1_skyOfHour_68 : decode cX1_skyOfHour 68 = .ok (.iload_n 2, 1) := by decide +kernel
theorem dX1_skyOfHour_69 : decode cX1_skyOfHour 69 = .ok (.iconst 3, 1) := by decide +kernel
theorem dX1_skyOfHour_70 : decode cX1_skyOfHour 70 = .ok (.invokevirtual 112, 3) := by decide +kernel
theorem dX1_skyOfHour_73 : decode cX1_skyOfHour 73 = .ok (.iconst 1, 1) := by decide +kernel
theorem dX1_skyOfHour_74 : decode cX1_skyOfHour 74 = .ok (.aload_n 1, 1) := by decide +kernel
theorem dX1_skyOfHour_75 : decode cX1_skyOfHour 75 = .ok (.iload_n 2, 1) := by decide +kernel
theorem dX1_skyOfHour_76 : decode cX1_skyOfHour 76 = .ok (.iconst 4, 1) := by decide +kernel
theorem dX1_skyOfHour_77 : decode cX1_skyOfHour 77 = .ok (.invokevirtual 112, 3) := by decide +kernel
theorem dX1_skyOfHour_80 : decode cX1_skyOfHour 80 = .ok (.invokevirtual 115, 3) := by decide +kernel
theorem dX1_skyOfHour_83 : decode cX1_skyOfHour 83 = .ok (.goto 47, 3) := by decide +kernel
theorem dX1_skyOfHour_86 : decode cX1_skyOfHour 86 = .ok (.iload_n 3, 1) := by decide +kernel
theorem dX1_skyOfHour_87 : decode cX1_skyOfHour 87 = .ok (.sipush 307, 3) := by decide +kernel
theorem dX1_skyOfHour_90 : decode cX1_skyOfHour 90 = .ok (.if_icmp .ne 19, 3) := by decide +kernel
theorem dX1_skyOfHour_93 : decode cX1_skyOfHour 93 = .ok (.aload_n 0, 1) := by decide +kernel
theorem dX1_skyOfHour_94 : decode cX1_skyOfHour 94 = .ok (.getfield 21, 3) := by decide +kernel
theorem dX1_skyOfHour_97 : decode cX1_skyOfHour 97 = .ok (.aload_n 1, 1) := by decide +kernel
theorem dX1_skyOfHour_98 : decode cX1_skyOfHour 98 = .ok (.iload_n 2, 1) := by decide +kernel
theorem dX1_skyOfHour_99 : decode cX1_skyOfHour 99 = .ok (.iconst 3, 1) := by decide +kernel
theorem dX1_skyOfHour_100 : decode cX1_skyOfHour 100 = .ok (.invokevirtual 112, 3) := by decide +kernel
theorem dX1_skyOfHour_103 : decode cX1_skyOfHour 103 = .ok (.putfield 56, 3) := by decide +kernel
theorem dX1_skyOfHour_106 : decode cX1_skyOfHour 106 = .ok (.goto 24, 3) := by decide +kernel
theorem dX1_skyOfHour_109 : decode cX1_skyOfHour 109 = .ok (.aload_n 0, 1) := by decide +kernel
theorem dX1_skyOfHour_110 : decode cX1_skyOfHour 110 = .ok (.aload_n 1, 1) := by decide +kernel
theorem dX1_skyOfHour_111 : decode cX1_skyOfHour 111 = .ok (.iload_n 2, 1) := by decide +kernel
theorem dX1_skyOfHour_112 : decode cX1_skyOfHour 112 = .ok (.iconst 4, 1) := by decide +kernel
theorem dX1_skyOfHour_113 : decode cX1_skyOfHour 113 = .ok (.invokevirtual 112, 3) := by decide +kernel
theorem dX1_skyOfHour_116 : decode cX1_skyOfHour 116 = .ok (.bipush 12, 2) := by decide +kernel
theorem dX1_skyOfHour_118 : decode cX1_skyOfHour 118 = .ok (.imul, 1) := by decide +kernel
theorem dX1_skyOfHour_119 : decode cX1_skyOfHour 119 = .ok (.aload_n 1, 1) := by decide +kernel
theorem dX1_skyOfHour_120 : decode cX1_skyOfHour 120 = .ok (.iload_n 2, 1) := by decide +kernel
theorem dX1_skyOfHour_121 : decode cX1_skyOfHour 121 = .ok (.iconst 3, 1) := by decide +kernel
theorem dX1_skyOfHour_122 : decode cX1_skyOfHour 122 = .ok (.invokevirtual 112, 3) := by decide +kernel
theorem dX1_skyOfHour_125 : decode cX1_skyOfHour 125 = .ok (.iadd, 1) := by decide +kernel
theorem dX1_skyOfHour_126 : decode cX1_skyOfHour 126 = .ok (.iconst 3, 1) := by decide +kernel
theorem dX1_skyOfHour_127 : decode cX1_skyOfHour 127 = .ok (.invokevirtual 119, 3) := by decide +kernel
theorem dX1_skyOfHour_130 : decode cX1_skyOfHour 130 = .ok (.iinc 2 1, 3) := by decide +kernel
theorem dX1_skyOfHour_133 : decode cX1_skyOfHour 133 = .ok (.goto (-124), 3) := by decide +kernel
theorem dX1_skyOfHour_136 : decode cX1_skyOfHour 136 = .ok (.return_, 1) := by decide +kernel
theorem dX1_thumbsOfHour_0 : decode cX1_thumbsOfHour 0 = .ok (.aload_n 0, 1) := by decide +kernel
theorem dX1_thumbsOfHour_1 : decode cX1_thumbsOfHour 1 = .ok (.getfield 25, 3) := by decide +kernel
theorem dX1_thumbsOfHour_4 : decode cX1_thumbsOfHour 4 = .ok (.iconst 1, 1) := by decide +kernel
theorem dX1_thumbsOfHour_5 : decode cX1_thumbsOfHour 5 = .ok (.aaload, 1) := by decide +kernel
theorem dX1_thumbsOfHour_6 : decode cX1_thumbsOfHour 6 = .ok (.astore_n 1, 1) := by decide +kernel
theorem dX1_thumbsOfHour_7 : decode cX1_thumbsOfHour 7 = .ok (.iconst 0, 1) := by decide +kernel
theorem dX1_thumbsOfHour_8 : decode cX1_thumbsOfHour 8 = .ok (.istore_n 2, 1) := by decide +kernel
theorem dX1_thumbsOfHour_9 : decode cX1_thumbsOfHour 9 = .ok (.iconst 0, 1) := by decide +kernel
theorem dX1_thumbsOfHour_10 : decode cX1_thumbsOfHour 10 = .ok (.istore_n 3, 1) := by decide +kernel
theorem dX1_thumbsOfHour_11 : decode cX1_thumbsOfHour 11 = .ok (.iload_n 3, 1) := by decide +kernel
theorem dX1_thumbsOfHour_12 : decode cX1_thumbsOfHour 12 = .ok (.aload_n 1, 1) := by decide +kernel
theorem dX1_thumbsOfHour_13 : decode cX1_thumbsOfHour 13 = .ok (.getfield 109, 3) := by decide +kernel
theorem dX1_thumbsOfHour_16 : decode cX1_thumbsOfHour 16 = .ok (.if_icmp .ge 74, 3) := by decide +kernel
theorem dX1_thumbsOfHour_19 : decode cX1_thumbsOfHour 19 = .ok (.aload_n 1, 1) := by decide +kernel
theorem dX1_thumbsOfHour_20 : decode cX1_thumbsOfHour 20 = .ok (.iload_n 3, 1) := by decide +kernel
theorem dX1_thumbsOfHour_21 : decode cX1_thumbsOfHour 21 = .ok (.iconst 0, 1) := by decide +kernel
theorem dX1_thumbsOfHour_22 : decode cX1_thumbsOfHour 22 = .ok (.invokevirtual 112, 3) := by decide +kernel
theorem dX1_thumbsOfHour_25 : decode cX1_thumbsOfHour 25 = .ok (.istore 4, 2) := by decide +kernel
theorem dX1_thumbsOfHour_27 : decode cX1_thumbsOfHour 27 = .ok (.aload_n 1, 1) := by decide +kernel
theorem dX1_thumbsOfHour_28 : decode cX1_thumbsOfHour 28 = .ok (.iload_n 3, 1) := by decide +kernel
theorem dX1_thumbsOfHour_29 : decode cX1_thumbsOfHour 29 = .ok (.iconst 1, 1) := by decide +kernel
theorem dX1_thumbsOfHour_30 : decode cX1_thumbsOfHour 30 = .ok (.invokevirtual 112, 3) := by decide +kernel
theorem dX1_thumbsOfHour_33 : decode cX1_thumbsOfHour 33 = .ok (.aload_n 0, 1) := by decide +kernel
theorem dX1_thumbsOfHour_34 : decode cX1_thumbsOfHour 34 = .ok (.getfield 21, 3) := by decide +kernel
theorem dX1_thumbsOfHour_37 : decode cX1_thumbsOfHour 37 = .ok (.getfield 66, 3) := by decide +kernel
theorem dX1_thumbsOfHour_40 : decode cX1_thumbsOfHour 40 = .ok (.if_icmp .ne 44, 3) := by decide +kernel
theorem dX1_thumbsOfHour_43 : decode cX1_thumbsOfHour 43 = .ok (.aload_n 0, 1) := by decide +kernel
theorem dX1_thumbsOfHour_44 : decode cX1_thumbsOfHour 44 = .ok (.getfield 21, 3) := by decide +kernel
theorem dX1_thumbsOfHour_47 : decode cX1_thumbsOfHour 47 = .ok (.iload 4, 2) := by decide +kernel
theorem dX1_thumbsOfHour_49 : decode cX1_thumbsOfHour 49 = .ok (.invokevirtual 122, 3) := by decide +kernel
theorem dX1_thumbsOfHour_52 : decode cX1_thumbsOfHour 52 = .ok (.ifCond .eq 32, 3) := by decide +kernel
theorem dX1_thumbsOfHour_55 : decode cX1_thumbsOfHour 55 = .ok (.aload_n 0, 1) := by decide +kernel
theorem dX1_thumbsOfHour_56 : decode cX1_thumbsOfHour 56 = .ok (.aload_n 0, 1) := by decide +kernel
theorem dX1_thumbsOfHour_57 : decode cX1_thumbsOfHour 57 = .ok (.iload 4, 2) := by decide +kernel
theorem dX1_thumbsOfHour_59 : decode cX1_thumbsOfHour 59 = .ok (.invokevirtual 125, 3) := by decide +kernel
theorem dX1_thumbsOfHour_62 : decode cX1_thumbsOfHour 62 = .ok (.invokevirtual 128, 3) := by decide +kernel
theorem dX1_thumbsOfHour_65 : decode cX1_thumbsOfHour 65 = .ok (.ifCond .eq 19, 3) := by decide +kernel
theorem dX1_thumbsOfHour_68 : decode cX1_thumbsOfHour 68 = .ok (.aload_n 0, 1) := by decide +kernel
theorem dX1_thumbsOfHour_69 : decode cX1_thumbsOfHour 69 = .ok (.iload 4, 2) := by decide +kernel
theorem dX1_thumbsOfHour_71 : decode cX1_thumbsOfHour 71 = .ok (.aload_n 1, 1) := by decide +kernel
theorem dX1_thumbsOfHour_72 : decode cX1_thumbsOfHour 72 = .ok (.iload_n 3, 1) := by decide +kernel
theorem dX1_thumbsOfHour_73 : decode cX1_thumbsOfHour 73 = .ok (.iconst 2, 1) := by decide +kernel
theorem dX1_thumbsOfHour_74 : decode cX1_thumbsOfHour 74 = .ok (.invokevirtual 112, 3) := by decide +kernel
theorem dX1_thumbsOfHour_77 : decode cX1_thumbsOfHour 77 = .ok (.invokevirtual 131, 3) := by decide +kernel
theorem dX1_thumbsOfHour_80 : decode cX1_thumbsOfHour 80 = .ok (.pop, 1) := by decide +kernel
theorem dX1_thumbsOfHour_81 : decode cX1_thumbsOfHour 81 = .ok (.iinc 2 1, 3) := by decide +kernel
theorem dX1_thumbsOfHour_84 : decode cX1_thumbsOfHour 84 = .ok (.iinc 3 1, 3) := by decide +kernel
theorem dX1_thumbsOfHour_87 : decode cX1_thumbsOfHour 87 = .ok (.goto (-76), 3) := by decide +kernel
theorem dX1_thumbsOfHour_90 : decode cX1_thumbsOfHour 90 = .ok (.iload_n 2, 1) := by decide +kernel
theorem dX1_thumbsOfHour_91 : decode cX1_thumbsOfHour 91 = .ok (.ireturn, 1) := by decide +kernel
theorem dX1_meltAll_0 : decode cX1_meltAll 0 = .ok (.iconst 0, 1) := by decide +kernel
theorem dX1_meltAll_1 : decode cX1_meltAll 1 = .ok (.istore_n 1, 1) := by decide +kernel
theorem dX1_meltAll_2 : decode cX1_meltAll 2 = .ok (.iload_n 1, 1) := by decide +kernel
theorem dX1_meltAll_3 : decode cX1_meltAll 3 = .ok (.sipush 144, 3) := by decide +kernel
theorem dX1_meltAll_6 : decode cX1_meltAll 6 = .ok (.if_icmp .ge 61, 3) := by decide +kernel
theorem dX1_meltAll_9 : decode cX1_meltAll 9 = .ok (.aload_n 0, 1) := by decide +kernel
theorem dX1_meltAll_10 : decode cX1_meltAll 10 = .ok (.getfield 21, 3) := by decide +kernel
theorem dX1_meltAll_13 : decode cX1_meltAll 13 = .ok (.iload_n 1, 1) := by decide +kernel
theorem dX1_meltAll_14 : decode cX1_meltAll 14 = .ok (.invokevirtual 83, 3) := by decide +kernel
theorem dX1_meltAll_17 : decode cX1_meltAll 17 = .ok (.ifCond .eq 44, 3) := by decide +kernel
theorem dX1_meltAll_20 : decode cX1_meltAll 20 = .ok (.aload_n 0, 1) := by decide +kernel
theorem dX1_meltAll_21 : decode cX1_meltAll 21 = .ok (.aload_n 0, 1) := by decide +kernel
theorem dX1_meltAll_22 : decode cX1_meltAll 22 = .ok (.iload_n 1, 1) := by decide +kernel
theorem dX1_meltAll_23 : decode cX1_meltAll 23 = .ok (.invokevirtual 134, 3) := by decide +kernel
theorem dX1_meltAll_26 : decode cX1_meltAll 26 = .ok (.invokevirtual 128, 3) := by decide +kernel
theorem dX1_meltAll_29 : decode cX1_meltAll 29 = .ok (.ifCond .eq 32, 3) := by decide +kernel
theorem dX1_meltAll_32 : decode cX1_meltAll 32 = .ok (.aload_n 0, 1) := by decide +kernel
theorem dX1_meltAll_33 : decode cX1_meltAll 33 = .ok (.getfield 21, 3) := by decide +kernel
theorem dX1_meltAll_36 : decode cX1_meltAll 36 = .ok (.iload_n 1, 1) := by decide +kernel
theorem dX1_meltAll_37 : decode cX1_meltAll 37 = .ok (.invokevirtual 60, 3) := by decide +kernel
theorem dX1_meltAll_40 : decode cX1_meltAll 40 = .ok (.iconst 1, 1) := by decide +kernel
theorem dX1_meltAll_41 : decode cX1_meltAll 41 = .ok (.if_icmp .le 14, 3) := by decide +kernel
theorem dX1_meltAll_44 : decode cX1_meltAll 44 = .ok (.aload_n 0, 1) := by decide +kernel
theorem dX1_meltAll_45 : decode cX1_meltAll 45 = .ok (.getfield 21, 3) := by decide +kernel
theorem dX1_meltAll_48 : decode cX1_meltAll 48 = .ok (.iload_n 1, 1) := by decide +kernel
theorem dX1_meltAll_49 : decode cX1_meltAll 49 = .ok (.invokevirtual 137, 3) := by decide +kernel
theorem dX1_meltAll_52 : decode cX1_meltAll 52 = .ok (.goto 9, 3) := by decide +kernel
theorem dX1_meltAll_55 : decode cX1_meltAll 55 = .ok (.aload_n 0, 1) := by decide +kernel
theorem dX1_meltAll_56 : decode cX1_meltAll 56 = .ok (.iload_n 1, 1) := by decide +kernel
theorem dX1_meltAll_57 : decode cX1_meltAll 57 = .ok (.iconst 2, 1) := by decide +kernel
theorem dX1_meltAll_58 : decode cX1_meltAll 58 = .ok (.invokevirtual 119, 3) := by decide +kernel
theorem dX1_meltAll_61 : decode cX1_meltAll 61 = .ok (.iinc 1 1, 3) := by decide +kernel
theorem dX1_meltAll_64 : decode cX1_meltAll 64 = .ok (.goto (-62), 3) := by decide +kernel
theorem dX1_meltAll_67 : decode cX1_meltAll 67 = .ok (.return_, 1) := by decide +kernel
theorem dX1_readDoor_0 : decode cX1_readDoor 0 = .ok (.aload_n 0, 1) := by decide +kernel
theorem dX1_readDoor_1 : decode cX1_readDoor 1 = .ok (.invokevirtual 141, 3) := by decide +kernel
theorem dX1_readDoor_4 : decode cX1_readDoor 4 = .ok (.istore_n 1, 1) := by decide +kernel
theorem dX1_readDoor_5 : decode cX1_readDoor 5 = .ok (.iload_n 1, 1) := by decide +kernel
theorem dX1_readDoor_6 : decode cX1_readDoor 6 = .ok (.ifCond .le 19, 3) := by decide +kernel
theorem dX1_readDoor_9 : decode cX1_readDoor 9 = .ok (.aload_n 0, 1) := by decide +kernel
theorem dX1_readDoor_10 : decode cX1_readDoor 10 = .ok (.getfield 21, 3) := by decide +kernel
theorem dX1_readDoor_13 : decode cX1_readDoor 13 = .ok (.dup, 1) := by decide +kernel
theorem dX1_readDoor_14 : decode cX1_readDoor 14 = .ok (.getfield 144, 3) := by decide +kernel
theorem dX1_readDoor_17 : decode cX1_readDoor 17 = .ok (.iconst 1, 1) := by decide +kernel
theorem dX1_readDoor_18 : decode cX1_readDoor 18 = .ok (.iadd, 1) := by decide +kernel
theorem dX1_readDoor_19 : decode cX1_readDoor 19 = .ok (.putfield 144, 3) := by decide +kernel
theorem dX1_readDoor_22 : decode cX1_readDoor 22 = .ok (.goto 16, 3) := by decide +kernel
theorem dX1_readDoor_25 : decode cX1_readDoor 25 = .ok (.aload_n 0, 1) := by decide +kernel
theorem dX1_readDoor_26 : decode cX1_readDoor 26 = .ok (.getfield 21, 3) := by decide +kernel
theorem dX1_readDoor_29 : decode cX1_readDoor 29 = .ok (.dup, 1) := by decide +kernel
theorem dX1_readDoor_30 : decode cX1_readDoor 30 = .ok (.getfield 147, 3) := by decide +kernel
theorem dX1_readDoor_33 : decode cX1_readDoor 33 = .ok (.iconst 1, 1) := by decide +kernel
theorem dX1_readDoor_34 : decode cX1_readDoor 34 = .ok (.iadd, 1) := by decide +kernel
theorem dX1_readDoor_35 : decode cX1_readDoor 35 = .ok (.putfield 147, 3) := by decide +kernel
theorem dX1_readDoor_38 : decode cX1_readDoor 38 = .ok (.aload_n 0, 1) := by decide +kernel
theorem dX1_readDoor_39 : decode cX1_readDoor 39 = .ok (.iconst 4, 1) := by decide +kernel
theorem dX1_readDoor_40 : decode cX1_readDoor 40 = .ok (.iconst (-1), 1) := by decide +kernel
theorem dX1_readDoor_41 : decode cX1_readDoor 41 = .ok (.iload_n 1, 1) := by decide +kernel
theorem dX1_readDoor_42 : decode cX1_readDoor 42 = .ok (.invokevirtual 150, 3) := by decide +kernel
theorem dX1_readDoor_45 : decode cX1_readDoor 45 = .ok (.aload_n 0, 1) := by decide +kernel
theorem dX1_readDoor_46 : decode cX1_readDoor 46 = .ok (.getfield 21, 3) := by decide +kernel
theorem dX1_readDoor_49 : decode cX1_readDoor 49 = .ok (.invokevirtual 153, 3) := by decide +kernel
theorem dX1_readDoor_52 : decode cX1_readDoor 52 = .ok (.aload_n 0, 1) := by decide +kernel
theorem dX1_readDoor_53 : decode cX1_readDoor 53 = .ok (.getfield 21, 3) := by decide +kernel
theorem dX1_readDoor_56 : decode cX1_readDoor 56 = .ok (.iconst 0, 1) := by decide +kernel
theorem dX1_readDoor_57 : decode cX1_readDoor 57 = .ok (.putfield 66, 3) := by decide +kernel
theorem dX1_readDoor_60 : decode cX1_readDoor 60 = .ok (.aload_n 0, 1) := by decide +kernel
theorem dX1_readDoor_61 : decode cX1_readDoor 61 = .ok (.getfield 21, 3) := by decide +kernel
theorem dX1_readDoor_64 : decode cX1_readDoor 64 = .ok (.dup, 1) := by decide +kernel
theorem dX1_readDoor_65 : decode cX1_readDoor 65 = .ok (.getfield 72, 3) := by decide +kernel
theorem dX1_readDoor_68 : decode cX1_readDoor 68 = .ok (.iconst 1, 1) := by decide +kernel
theorem dX1_readDoor_69 : decode cX1_readDoor 69 = .ok (.iadd, 1) := by decide +kernel
theorem dX1_readDoor_70 : decode cX1_readDoor 70 = .ok (.putfield 72, 3) := by decide +kernel
theorem dX1_readDoor_73 : decode cX1_readDoor 73 = .ok (.return_, 1) := by decide +kernel
theorem dX1_happens_0 : decode cX1_happens 0 = .ok (.aload_n 0, 1) := by decide +kernel
theorem dX1_happens_1 : decode cX1_happens 1 = .ok (.getfield 29, 3) := by decide +kernel
theorem dX1_happens_4 : decode cX1_happens 4 = .ok (.ifnonnull 16, 3) := by decide +kernel
theorem dX1_happens_7 : decode cX1_happens 7 = .ok (.iload_n 1, 1) := by decide +kernel
theorem dX1_happens_8 : decode cX1_happens 8 = .ok (.sipush 500, 3) := by decide +kernel
theorem dX1_happens_11 : decode cX1_happens 11 = .ok (.if_icmp .lt 7, 3) := by decide +kernel
theorem dX1_happens_14 : decode cX1_happens 14 = .ok (.iconst 1, 1) := by decide +kernel
theorem dX1_happens_15 : decode cX1_happens 15 = .ok (.goto 4, 3) := by decide +kernel
theorem dX1_happens_18 : decode cX1_happens 18 = .ok (.iconst 0, 1) := by decide +kernel
theorem dX1_happens_19 : decode cX1_happens 19 = .ok (.ireturn, 1) := by decide +kernel
theorem dX1_happens_20 : decode cX1_happens 20 = .ok (.iload_n 1, 1) := by decide +kernel
theorem dX1_happens_21 : decode cX1_happens 21 = .ok (.ifCond .le 18, 3) := by decide +kernel
theorem dX1_happens_24 : decode cX1_happens 24 = .ok (.aload_n 0, 1) := by decide +kernel
theorem dX1_happens_25 : decode cX1_happens 25 = .ok (.getfield 21, 3) := by decide +kernel
theorem dX1_happens_28 : decode cX1_happens 28 = .ok (.invokevirtual 156, 3) := by decide +kernel
theorem dX1_happens_31 : decode cX1_happens 31 = .ok (.iload_n 1, 1) := by decide +kernel
theorem dX1_happens_32 : decode cX1_happens 32 = .ok (.if_icmp .ge 7, 3) := by decide +kernel
theorem dX1_happens_35 : decode cX1_happens 35 = .ok (.iconst 1, 1) := by decide +kernel
theorem dX1_happens_36 : decode cX1_happens 36 = .ok (.goto 4, 3) := by decide +kernel
theorem dX1_happens_39 : decode cX1_happens 39 = .ok (.iconst 0, 1) := by decide +kernel
theorem dX1_happens_40 : decode cX1_happens 40 = .ok (.ireturn, 1) := by decide +kernel
theorem dX1_leaveThumb_0 : decode cX1_leaveThumb 0 = .ok (.aload_n 0, 1) := by decide +kernel
theorem dX1_leaveThumb_1 : decode cX1_leaveThumb 1 = .ok (.getfield 21, 3) := by decide +kernel
theorem dX1_leaveThumb_4 : decode cX1_leaveThumb 4 = .ok (.iload_n 1, 1) := by decide +kernel
theorem dX1_leaveThumb_5 : decode cX1_leaveThumb 5 = .ok (.iconst 2, 1) := by decide +kernel
theorem dX1_leaveThumb_6 : decode cX1_leaveThumb 6 = .ok (.invokevirtual 37, 3) := by decide +kernel
theorem dX1_leaveThumb_9 : decode cX1_leaveThumb 9 = .ok (.istore_n 3, 1) := by decide +kernel
theorem dX1_leaveThumb_10 : decode cX1_leaveThumb 10 = .ok (.iconst 0, 1) := by decide +kernel
theorem dX1_leaveThumb_11 : decode cX1_leaveThumb 11 = .ok (.istore 4, 2) := by decide +kernel
theorem dX1_leaveThumb_13 : decode cX1_leaveThumb 13 = .ok (.iload 4, 2) := by decide +kernel
theorem dX1_leaveThumb_15 : decode cX1_leaveThumb 15 = .ok (.iload_n 3, 1) := by decide +kernel
theorem dX1_leaveThumb_16 : decode cX1_leaveThumb 16 = .ok (.if_icmp .ge 33, 3) := by decide +kernel
theorem dX1_leaveThumb_19 : decode cX1_leaveThumb 19 = .ok (.iload 4, 2) := by decide +kernel
theorem dX1_leaveThumb_21 : decode cX1_leaveThumb 21 = .ok (.bipush 11, 2) := by decide +kernel
theorem dX1_leaveThumb_23 : decode cX1_leaveThumb 23 = .ok (.if_icmp .ge 26, 3) := by decide +kernel
theorem dX1_leaveThumb_26 : decode cX1_leaveThumb 26 = .ok (.aload_n 0, 1) := by decide +kernel
theorem dX1_leaveThumb_27 : decode cX1_leaveThumb 27 = .ok (.getfield 21, 3) := by decide +kernel
theorem dX1_leaveThumb_30 : decode cX1_leaveThumb 30 = .ok (.iload 4, 2) := by decide +kernel
theorem dX1_leaveThumb_32 : decode cX1_leaveThumb 32 = .ok (.bipush 12, 2) := by decide +kernel
theorem dX1_leaveThumb_34 : decode cX1_leaveThumb 34 = .ok (.imul, 1) := by decide +kernel
theorem dX1_leaveThumb_35 : decode cX1_leaveThumb 35 = .ok (.iload_n 2, 1) := by decide +kernel
theorem dX1_leaveThumb_36 : decode cX1_leaveThumb 36 = .ok (.iadd, 1) := by decide +kernel
theorem dX1_leaveThumb_37 : decode cX1_leaveThumb 37 = .ok (.invokevirtual 83, 3) := by decide +kernel
theorem dX1_leaveThumb_40 : decode cX1_leaveThumb 40 = .ok (.ifCond .eq 9, 3) := by decide +kernel
theorem dX1_leaveThumb_43 : decode cX1_leaveThumb 43 = .ok (.iinc 4 1, 3) := by decide +kernel
theorem dX1_leaveThumb_46 : decode cX1_leaveThumb 46 = .ok (.goto (-33), 3) := by decide +kernel
theorem dX1_leaveThumb_49 : decode cX1_leaveThumb 49 = .ok (.iload 4, 2) := by decide +kernel
theorem dX1_leaveThumb_51 : decode cX1_leaveThumb 51 = .ok (.bipush 12, 2) := by decide +kernel
theorem dX1_leaveThumb_53 : decode cX1_leaveThumb 53 = .ok (.imul, 1) := by decide +kernel
theorem dX1_leaveThumb_54 : decode cX1_leaveThumb 54 = .ok (.iload_n 2, 1) := by decide +kernel
theorem dX1_leaveThumb_55 : decode cX1_leaveThumb 55 = .ok (.iadd, 1) := by decide +kernel
theorem dX1_leaveThumb_56 : decode cX1_leaveThumb 56 = .ok (.istore 5, 2) := by decide +kernel
theorem dX1_leaveThumb_58 : decode cX1_leaveThumb 58 = .ok (.aload_n 0, 1) := by decide +kernel
theorem dX1_leaveThumb_59 : decode cX1_leaveThumb 59 = .ok (.getfield 21, 3) := by decide +kernel
theorem dX1_leaveThumb_62 : decode cX1_leaveThumb 62 = .ok (.iload 5, 2) := by decide +kernel
theorem dX1_leaveThumb_64 : decode cX1_leaveThumb 64 = .ok (.invokevirtual 83, 3) := by decide +kernel
theorem dX1_leaveThumb_67 : decode cX1_leaveThumb 67 = .ok (.ifCond .eq 7, 3) := by decide +kernel
theorem dX1_leaveThumb_70 : decode cX1_leaveThumb 70 = .ok (.iconst 1, 1) := by decide +kernel
theorem dX1_leaveThumb_71 : decode cX1_leaveThumb 71 = .ok (.goto 4, 3) := by decide +kernel
theorem dX1_leaveThumb_74 : decode cX1_leaveThumb 74 = .ok (.iconst 0, 1) := by decide +kernel
theorem dX1_leaveThumb_75 : decode cX1_leaveThumb 75 = .ok (.istore 6, 2) := by decide +kernel
theorem dX1_leaveThumb_77 : decode cX1_leaveThumb 77 = .ok (.iconst 1, 1) := by decide +kernel
theorem dX1_leaveThumb_78 : decode cX1_leaveThumb 78 = .ok (.aload_n 0, 1) := by decide +kernel
theorem dX1_leaveThumb_79 : decode cX1_leaveThumb 79 = .ok (.getfield 21, 3) := by decide +kernel
theorem dX1_leaveThumb_82 : decode cX1_leaveThumb 82 = .ok (.iload_n 1, 1) := by decide +kernel
theorem dX1_leaveThumb_83 : decode cX1_leaveThumb 83 = .ok (.iconst 3, 1) := by decide +kernel
theorem dX1_leaveThumb_84 : decode cX1_leaveThumb 84 = .ok (.invokevirtual 37, 3) := by decide +kernel
theorem dX1_leaveThumb_87 : decode cX1_leaveThumb 87 = .ok (.iconst 2, 1) := by decide +kernel
theorem dX1_leaveThumb_88 : decode cX1_leaveThumb 88 = .ok (.idiv, 1) := by decide +kernel
theorem dX1_leaveThumb_89 : decode cX1_leaveThumb 89 = .ok (.iadd, 1) := by decide +kernel
theorem dX1_leaveThumb_90 : decode cX1_leaveThumb 90 = .ok (.bipush 9, 2) := by decide +kernel
theorem dX1_leaveThumb_92 : decode cX1_leaveThumb 92 = .ok (.invokestatic 75, 3) := by decide +kernel
theorem dX1_leaveThumb_95 : decode cX1_leaveThumb 95 = .ok (.istore 7, 2) := by decide +kernel
theorem dX1_leaveThumb_97 : decode cX1_leaveThumb 97 = .ok (.aload_n 0, 1) := by decide +kernel
theorem dX1_leaveThumb_98 : decode cX1_leaveThumb 98 = .ok (.getfield 21, 3) := by decide +kernel
theorem dX1_leaveThumb_101 : decode cX1_leaveThumb 101 = .ok (.iload 5, 2) := by decide +kernel
theorem dX1_leaveThumb_103 : decode cX1_leaveThumb 103 = .ok (.iload_n 1, 1) := by decide +kernel
theorem dX1_leaveThumb_104 : decode cX1_leaveThumb 104 = .ok (.aload_n 0, 1) := by decide +kernel
theorem dX1_leaveThumb_105 : decode cX1_leaveThumb 105 = .ok (.getfield 21, 3) := by decide +kernel
theorem dX1_leaveThumb_108 : decode cX1_leaveThumb 108 = .ok (.iload_n 1, 1) := by decide +kernel
theorem dX1_leaveThumb_109 : decode cX1_leaveThumb 109 = .ok (.iconst 1, 1) := by decide +kernel
theorem dX1_leaveThumb_110 : decode cX1_leaveThumb 110 = .ok (.invokevirtual 37, 3) := by decide +kernel
theorem dX1_leaveThumb_113 : decode cX1_leaveThumb 113 = .ok (.iload 7, 2) := by decide +kernel
theorem dX1_leaveThumb_115 : decode cX1_leaveThumb 115 = .ok (.invokevirtual 159, 3) := by decide +kernel
theorem dX1_leaveThumb_118 : decode cX1_leaveThumb 118 = .ok (.aload_n 0, 1) := by decide +kernel
theorem dX1_leaveThumb_119 : decode cX1_leaveThumb 119 = .ok (.getfield 21, 3) := by decide +kernel
theorem dX1_leaveThumb_122 : decode cX1_leaveThumb 122 = .ok (.iload_n 1, 1) := by decide +kernel
theorem dX1_leaveThumb_123 : decode cX1_leaveThumb 123 = .ok (.iconst 5, 1) := by decide +kernel
theorem dX1_leaveThumb_124 : decode cX1_leaveThumb 124 = .ok (.aload_n 0, 1) := by decide +kernel
theorem dX1_leaveThumb_125 : decode cX1_leaveThumb 125 = .ok (.getfield 21, 3) := by decide +kernel
theorem dX1_leaveThumb_128 : decode cX1_leaveThumb 128 = .ok (.iload_n 1, 1) := by decide +kernel
theorem dX1_leaveThumb_129 : decode cX1_leaveThumb 129 = .ok (.iconst 5, 1) := by decide +kernel
theorem dX1_leaveThumb_130 : decode cX1_leaveThumb 130 = .ok (.invokevirtual 37, 3) := by decide +kernel
theorem dX1_leaveThumb_133 : decode cX1_leaveThumb 133 = .ok (.iconst 1, 1) := by decide +kernel
theorem dX1_leaveThumb_134 : decode cX1_leaveThumb 134 = .ok (.iadd, 1) := by decide +kernel
theorem dX1_leaveThumb_135 : decode cX1_leaveThumb 135 = .ok (.invokevirtual 115, 3) := by decide +kernel
theorem dX1_leaveThumb_138 : decode cX1_leaveThumb 138 = .ok (.aload_n 0, 1) := by decide +kernel
theorem dX1_leaveThumb_139 : decode cX1_leaveThumb 139 = .ok (.iload 6, 2) := by decide +kernel
theorem dX1_leaveThumb_141 : decode cX1_leaveThumb 141 = .ok (.iload_n 1, 1) := by decide +kernel
theorem dX1_leaveThumb_142 : decode cX1_leaveThumb 142 = .ok (.iload 5, 2) := by decide +kernel
theorem dX1_leaveThumb_144 : decode cX1_leaveThumb 144 = .ok (.invokevirtual 150, 3) := by decide +kernel
theorem dX1_leaveThumb_147 : decode cX1_leaveThumb 147 = .ok (.iload 5, 2) := by decide +kernel
theorem dX1_leaveThumb_149 : decode cX1_leaveThumb 149 = .ok (.ireturn, 1) := by decide +kernel
theorem dX1_takeAway_0 : decode cX1_takeAway 0 = .ok (.aload_n 0, 1) := by decide +kernel
theorem dX1_takeAway_1 : decode cX1_takeAway 1 = .ok (.getfield 21, 3) := by decide +kernel
theorem dX1_takeAway_4 : decode cX1_takeAway 4 = .ok (.iload_n 1, 1) := by decide +kernel
theorem dX1_takeAway_5 : decode cX1_takeAway 5 = .ok (.invokevirtual 83, 3) := by decide +kernel
theorem dX1_takeAway_8 : decode cX1_takeAway 8 = .ok (.ifCond .eq 27, 3) := by decide +kernel
theorem dX1_takeAway_11 : decode cX1_takeAway 11 = .ok (.aload_n 0, 1) := by decide +kernel
theorem dX1_takeAway_12 : decode cX1_takeAway 12 = .ok (.getfield 21, 3) := by decide +kernel
theorem dX1_takeAway_15 : decode cX1_takeAway 15 = .ok (.iload_n 1, 1) := by decide +kernel
theorem dX1_takeAway_16 : decode cX1_takeAway 16 = .ok (.invokevirtual 52, 3) := by decide +kernel
theorem dX1_takeAway_19 : decode cX1_takeAway 19 = .ok (.istore_n 3, 1) := by decide +kernel
theorem dX1_takeAway_20 : decode cX1_takeAway 20 = .ok (.aload_n 0, 1) := by decide +kernel
theorem dX1_takeAway_21 : decode cX1_takeAway 21 = .ok (.getfield 21, 3) := by decide +kernel
theorem dX1_takeAway_24 : decode cX1_takeAway 24 = .ok (.iload_n 1, 1) := by decide +kernel
theorem dX1_takeAway_25 : decode cX1_takeAway 25 = .ok (.invokevirtual 163, 3) := by decide +kernel
theorem dX1_takeAway_28 : decode cX1_takeAway 28 = .ok (.aload_n 0, 1) := by decide +kernel
theorem dX1_takeAway_29 : decode cX1_takeAway 29 = .ok (.iload_n 2, 1) := by decide +kernel
theorem dX1_takeAway_30 : decode cX1_takeAway 30 = .ok (.iload_n 3, 1) := by decide +kernel
theorem dX1_takeAway_31 : decode cX1_takeAway 31 = .ok (.iload_n 1, 1) := by decide +kernel
theorem dX1_takeAway_32 : decode cX1_takeAway 32 = .ok (.invokevirtual 150, 3) := by decide +kernel
theorem dX1_takeAway_35 : decode cX1_takeAway 35 = .ok (.return_, 1) := by decide +kernel
theorem dX1_note_0 : decode cX1_note 0 = .ok (.aload_n 0, 1) := by decide +kernel
theorem dX1_note_1 : decode cX1_note 1 = .ok (.getfield 29, 3) := by decide +kernel
theorem dX1_note_4 : decode cX1_note 4 = .ok (.ifnull 31, 3) := by decide +kernel
theorem dX1_note_7 : decode cX1_note 7 = .ok (.aload_n 0, 1) := by decide +kernel
theorem dX1_note_8 : decode cX1_note 8 = .ok (.getfield 21, 3) := by decide +kernel
theorem dX1_note_11 : decode cX1_note 11 = .ok (.aload_n 0, 1) := by decide +kernel
theorem dX1_note_12 : decode cX1_note 12 = .ok (.getfield 29, 3) := by decide +kernel
theorem dX1_note_15 : decode cX1_note 15 = .ok (.aload_n 0, 1) := by decide +kernel
theorem dX1_note_16 : decode cX1_note 16 = .ok (.getfield 21, 3) := by decide +kernel
theorem dX1_note_19 : decode cX1_note 19 = .ok (.getfield 166, 3) := by decide +kernel
theorem dX1_note_22 : decode cX1_note 22 = .ok (.aload_n 0, 1) := by decide +kernel
theorem dX1_note_23 : decode cX1_note 23 = .ok (.getfield 21, 3) := by decide +kernel
theorem dX1_note_26 : decode cX1_note 26 = .ok (.iload_n 1, 1) := by decide +kernel
theorem dX1_note_27 : decode cX1_note 27 = .ok (.iload_n 2, 1) := by decide +kernel
theorem dX1_note_28 : decode cX1_note 28 = .ok (.iload_n 3, 1) := by decide +kernel
theorem dX1_note_29 : decode cX1_note 29 = .ok (.invokevirtual 167, 3) := by decide +kernel
theorem dX1_note_32 : decode cX1_note 32 = .ok (.putfield 166, 3) := by decide +kernel
theorem dX1_note_35 : decode cX1_note 35 = .ok (.return_, 1) := by decide +kernel
theorem dX2_init_0 : decode cX2_init 0 = .ok (.aload_n 0, 1) := by decide +kernel
theorem dX2_init_1 : decode cX2_init 1 = .ok (.invokespecial 3, 3) := by decide +kernel
theorem dX2_init_4 : decode cX2_init 4 = .ok (.aload_n 0, 1) := by decide +kernel
theorem dX2_init_5 : decode cX2_init 5 = .ok (.sipush 1231, 3) := by decide +kernel
theorem dX2_init_8 : decode cX2_init 8 = .ok (.newarray .int, 2) := by decide +kernel
theorem dX2_init_10 : decode cX2_init 10 = .ok (.putfield 11, 3) := by decide +kernel
theorem dX2_init_13 : decode cX2_init 13 = .ok (.aload_n 0, 1) := by decide +kernel
theorem dX2_init_14 : decode cX2_init 14 = .ok (.bipush 9, 2) := by decide +kernel
theorem dX2_init_16 : decode cX2_init 16 = .ok (.newarray .int, 2) := by decide +kernel
theorem dX2_init_18 : decode cX2_init 18 = .ok (.putfield 15, 3) := by decide +kernel
theorem dX2_init_21 : decode cX2_init 21 = .ok (.aload_n 0, 1) := by decide +kernel
theorem dX2_init_22 : decode cX2_init 22 = .ok (.iconst 0, 1) := by decide +kernel
theorem dX2_init_23 : decode cX2_init 23 = .ok (.putfield 18, 3) := by decide +kernel
theorem dX2_init_26 : decode cX2_init 26 = .ok (.aload_n 0, 1) := by decide +kernel
theorem dX2_init_27 : decode cX2_init 27 = .ok (.iconst 0, 1) := by decide +kernel
theorem dX2_init_28 : decode cX2_init 28 = .ok (.putfield 22, 3) := by decide +kernel
theorem dX2_init_31 : decode cX2_init 31 = .ok (.return_, 1) := by decide +kernel
theorem dX2_lay_0 : decode cX2_lay 0 = .ok (.iload_n 1, 1) := by decide +kernel
theorem dX2_lay_1 : decode cX2_lay 1 = .ok (.ifCond .lt 9, 3) := by decide +kernel
theorem dX2_lay_4 : decode cX2_lay 4 = .ok (.iload_n 1, 1) := by decide +kernel
theorem dX2_lay_5 : decode cX2_lay 5 = .ok (.ldc 25, 2) := by decide +kernel
theorem dX2_lay_7 : decode cX2_lay 7 = .ok (.if_icmp .le 5, 3) := by decide +kernel
theorem dX2_lay_10 : decode cX2_lay 10 = .ok (.iconst 0, 1) := by decide +kernel
theorem dX2_lay_11 : decode cX2_lay 11 = .ok (.ireturn, 1) := by decide +kernel
theorem dX2_lay_12 : decode cX2_lay 12 = .ok (.iload_n 1, 1) := by decide +kernel
theorem dX2_lay_13 : decode cX2_lay 13 = .ok (.istore_n 2, 1) := by decide +kernel
theorem dX2_lay_14 : decode cX2_lay 14 = .ok (.iconst 0, 1) := by decide +kernel
theorem dX2_lay_15 : decode cX2_lay 15 = .ok (.istore_n 3, 1) := by decide +kernel
theorem dX2_lay_16 : decode cX2_lay 16 = .ok (.iconst 0, 1) := by decide +kernel
theorem dX2_lay_17 : decode cX2_lay 17 = .ok (.istore 4, 2) := by decide +kernel
theorem dX2_lay_19 : decode cX2_lay 19 = .ok (.aload_n 0, 1) := by decide +kernel
theorem dX2_lay_20 : decode cX2_lay 20 = .ok (.iconst 0, 1) := by decide +kernel
theorem dX2_lay_21 : decode cX2_lay 21 = .ok (.putfield 18, 3) := by decide +kernel
theorem dX2_lay_24 : decode cX2_lay 24 = .ok (.bipush 8, 2) := by decide +kernel
theorem dX2_lay_26 : decode cX2_lay 26 = .ok (.istore 5, 2) := by decide +kernel
theorem dX2_lay_28 : decode cX2_lay 28 = .ok (.iload 5, 2) := by decide +kernel
theorem dX2_lay_30 : decode cX2_lay 30 = .ok (.ifCond .lt 85, 3) := by decide +kernel
theorem dX2_lay_33 : decode cX2_lay 33 = .ok (.iload_n 2, 1) := by decide +kernel
theorem dX2_lay_34 : decode cX2_lay 34 = .ok (.bipush 10, 2) := by decide +kernel
theorem dX2_lay_36 : decode cX2_lay 36 = .ok (.irem, 1) := by decide +kernel
theorem dX2_lay_37 : decode cX2_lay 37 = .ok (.istore 6, 2) := by decide +kernel
theorem dX2_lay_39 : decode cX2_lay 39 = .ok (.iload_n 2, 1) := by decide +kernel
theorem dX2_lay_40 : decode cX2_lay 40 = .ok (.bipush 10, 2) := by decide +kernel
theorem dX2_lay_42 : decode cX2_lay 42 = .ok (.idiv, 1) := by decide +kernel
theorem dX2_lay_43 : decode cX2_lay 43 = .ok (.istore_n 2, 1) := by decide +kernel
theorem dX2_lay_44 : decode cX2_lay 44 = .ok (.iload 6, 2) := by decide +kernel
theorem dX2_lay_46 : decode cX2_lay 46 = .ok (.iconst 2, 1) := by decide +kernel
theorem dX2_lay_47 : decode cX2_lay 47 = .ok (.if_icmp .le 5, 3) := by decide +kernel
theorem dX2_lay_50 : decode cX2_lay 50 = .ok (.iconst 0, 1) := by decide +kernel
theorem dX2_lay_51 : decode cX2_lay 51 = .ok (.ireturn, 1) := by decide +kernel
theorem dX2_lay_52 : decode cX2_lay 52 = .ok (.aload_n 0, 1) := by decide +kernel
theorem dX2_lay_53 : decode cX2_lay 53 = .ok (.getfield 15, 3) := by decide +kernel
theorem dX2_lay_56 : decode cX2_lay 56 = .ok (.iload 5, 2) := by decide +kernel
theorem dX2_lay_58 : decode cX2_lay 58 = .ok (.iload 6, 2) := by decide +kernel
theorem dX2_lay_60 : decode cX2_lay 60 = .ok (.iastore, 1) := by decide +kernel
theorem dX2_lay_61 : decode cX2_lay 61 = .ok (.aload_n 0, 1) := by decide +kernel
theorem dX2_lay_62 : decode cX2_lay 62 = .ok (.dup, 1) := by decide +kernel
theorem dX2_lay_63 : decode cX2_lay 63 = .ok (.getfield 18, 3) := by decide +kernel
theorem dX2_lay_66 : decode cX2_lay 66 = .ok (.iload 6, 2) := by decide +kernel
theorem dX2_lay_68 : decode cX2_lay 68 = .ok (.getstatic 26, 3) := by decide +kernel
theorem dX2_lay_71 : decode cX2_lay 71 = .ok (.iload 5, 2) := by decide +kernel
theorem dX2_lay_73 : decode cX2_lay 73 = .ok (.iaload, 1) := by decide +kernel
theorem dX2_lay_74 : decode cX2_lay 74 = .ok (.imul, 1) := by decide +kernel
theorem dX2_lay_75 : decode cX2_lay 75 = .ok (.iadd, 1) := by decide +kernel
theorem dX2_lay_76 : decode cX2_lay 76 = .ok (.putfield 18, 3) := by decide +kernel
theorem dX2_lay_79 : decode cX2_lay 79 = .ok (.iload_n 3, 1) := by decide +kernel
theorem dX2_lay_80 : decode cX2_lay 80 = .ok (.iload 6, 2) := by decide +kernel
theorem dX2_lay_82 : decode cX2_lay 82 = .ok (.iconst 1, 1) := by decide +kernel
theorem dX2_lay_83 : decode cX2_lay 83 = .ok (.if_icmp .ne 7, 3) := by decide +kernel
theorem dX2_lay_86 : decode cX2_lay 86 = .ok (.iconst 1, 1) := by decide +kernel
theorem dX2_lay_87 : decode cX2_lay 87 = .ok (.goto 4, 3) := by decide +kernel
theorem dX2_lay_90 : decode cX2_lay 90 = .ok (.iconst 0, 1) := by decide +kernel
theorem dX2_lay_91 : decode cX2_lay 91 = .ok (.iadd, 1) := by decide +kernel
theorem dX2_lay_92 : decode cX2_lay 92 = .ok (.istore_n 3, 1) := by decide +kernel
theorem dX2_lay_93 : decode cX2_lay 93 = .ok (.iload 4, 2) := by decide +kernel
theorem dX2_lay_95 : decode cX2_lay 95 = .ok (.iload 6, 2) := by decide +kernel
theorem dX2_lay_97 : decode cX2_lay 97 = .ok (.iconst 2, 1) := by decide +kernel
theorem dX2_lay_98 : decode cX2_lay 98 = .ok (.if_icmp .ne 7, 3) := by decide +kernel
theorem dX2_lay_101 : decode cX2_lay 101 = .ok (.iconst 1, 1) := by decide +kernel
theorem dX2_lay_102 : decode cX2_lay 102 = .ok (.goto 4, 3) := by decide +kernel
theorem dX2_lay_105 : decode cX2_lay 105 = .ok (.iconst 0, 1) := by decide +kernel
theorem dX2_lay_106 : decode cX2_lay 106 = .ok (.iadd, 1) := by decide +kernel
theorem dX2_lay_107 : decode cX2_lay 107 = .ok (.istore 4, 2) := by decide +kernel
theorem dX2_lay_109 : decode cX2_lay 109 = .ok (.iinc 5 (-1), 3) := by decide +kernel
theorem dX2_lay_112 : decode cX2_lay 112 = .ok (.goto (-84), 3) := by decide +kernel
theorem dX2_lay_115 : decode cX2_lay 115 = .ok (.aload_n 0, 1) := by decide +kernel
theorem dX2_lay_116 : decode cX2_lay 116 = .ok (.iload_n 3, 1) := by decide +kernel
theorem dX2_lay_117 : decode cX2_lay 117 = .ok (.iload 4, 2) := by decide +kernel
theorem dX2_lay_119 : decode cX2_lay 119 = .ok (.iadd, 1) := by decide +kernel
theorem dX2_lay_120 : decode cX2_lay 120 = .ok (.putfield 22, 3) := by decide +kernel
theorem dX2_lay_123 : decode cX2_lay 123 = .ok (.iload_n 3, 1) := by decide +kernel
theorem dX2_lay_124 : decode cX2_lay 124 = .ok (.iload 4, 2) := by decide +kernel
theorem dX2_lay_126 : decode cX2_lay 126 = .ok (.if_icmp .eq 11, 3) := by decide +kernel
theorem dX2_lay_129 : decode cX2_lay 129 = .ok (.iload_n 3, 1) := by decide +kernel
theorem dX2_lay_130 : decode cX2_lay 130 = .ok (.iload 4, 2) := by decide +kernel
theorem dX2_lay_132 : decode cX2_lay 132 = .ok (.iconst 1, 1) := by decide +kernel
theorem dX2_lay_133 : decode cX2_lay 133 = .ok (.iadd, 1) := by decide +kernel
theorem dX2_lay_134 : decode cX2_lay 134 = .ok (.if_icmp .ne 23, 3) := by decide +kernel
theorem dX2_lay_137 : decode cX2_lay 137 = .ok (.aload_n 0, 1) := by decide +kernel
theorem dX2_lay_138 : decode cX2_lay 138 = .ok (.iconst 1, 1) := by decide +kernel
theorem dX2_lay_139 : decode cX2_lay 139 = .ok (.invokevirtual 29, 3) := by decide +kernel
theorem dX2_lay_142 : decode cX2_lay 142 = .ok (.ifCond .eq 11, 3) := by decide +kernel
theorem dX2_lay_145 : decode cX2_lay 145 = .ok (.aload_n 0, 1) := by decide +kernel
theorem dX2_lay_146 : decode cX2_lay 146 = .ok (.iconst 2, 1) := by decide +kernel
theorem dX2_lay_147 : decode cX2_lay 147 = .ok (.invokevirtual 29, 3) := by decide +kernel
theorem dX2_lay_150 : decode cX2_lay 150 = .ok (.ifCond .ne 7, 3) := by decide +kernel
theorem dX2_lay_153 : decode cX2_lay 153 = .ok (.iconst 1, 1) := by decide +kernel
theorem dX2_lay_154 : decode cX2_lay 154 = .ok (.goto 4, 3) := by decide +kernel
theorem dX2_lay_157 : decode cX2_lay 157 = .ok (.iconst 0, 1) := by decide +kernel
theorem dX2_lay_158 : decode cX2_lay 158 = .ok (.ireturn, 1) := by decide +kernel
theorem dX2_valueForNext_0 : decode cX2_valueForNext 0 = .ok (.aload_n 0, 1) := by decide +kernel
theorem dX2_valueForNext_1 : decode cX2_valueForNext 1 = .ok (.aload_n 0, 1) := by decide +kernel
theorem dX2_valueForNext_2 : decode cX2_valueForNext 2 = .ok (.getfield 18, 3) := by decide +kernel
theorem dX2_valueForNext_5 : decode cX2_valueForNext 5 = .ok (.aload_n 0, 1) := by decide +kernel
theorem dX2_valueForNext_6 : decode cX2_valueForNext 6 = .ok (.getfield 22, 3) := by decide +kernel
theorem dX2_valueForNext_9 : decode cX2_valueForNext 9 = .ok (.invokevirtual 33, 3) := by decide +kernel
theorem dX2_valueForNext_12 : decode cX2_valueForNext 12 = .ok (.ireturn, 1) := by decide +kernel
theorem dX2_firstThatKeeps_0 : decode cX2_firstThatKeeps 0 = .ok (.aload_n 0, 1) := by decide +kernel
theorem dX2_firstThatKeeps_1 : decode cX2_firstThatKeeps 1 = .ok (.iconst 1, 1) := by decide +kernel
theorem dX2_firstThatKeeps_2 : decode cX2_firstThatKeeps 2 = .ok (.invokevirtual 29, 3) := by decide +kernel
theorem dX2_firstThatKeeps_5 : decode cX2_firstThatKeeps 5 = .ok (.ifCond .ne 11, 3) := by decide +kernel
theorem dX2_firstThatKeeps_8 : decode cX2_firstThatKeeps 8 = .ok (.aload_n 0, 1) := by decide +kernel
theorem dX2_firstThatKeeps_9 : decode cX2_firstThatKeeps 9 = .ok (.iconst 2, 1) := by decide +kernel
theorem dX2_firstThatKeeps_10 : decode cX2_firstThatKeeps 10 = .ok (.invokevirtual 29, 3) := by decide +kernel
theorem dX2_firstThatKeeps_13 : decode cX2_firstThatKeeps 13 = .ok (.ifCond .eq 5, 3) := by decide +kernel
theorem dX2_firstThatKeeps_16 : decode cX2_firstThatKeeps 16 = .ok (.iconst (-1), 1) := by decide +kernel
theorem dX2_firstThatKeeps_17 : decode cX2_firstThatKeeps 17 = .ok (.ireturn, 1) := by decide +kernel
theorem dX2_firstThatKeeps_18 : decode cX2_firstThatKeeps 18 = .ok (.aload_n 0, 1) := by decide +kernel
theorem dX2_firstThatKeeps_19 : decode cX2_firstThatKeeps 19 = .ok (.aload_n 0, 1) := by decide +kernel
theorem dX2_firstThatKeeps_20 : decode cX2_firstThatKeeps 20 = .ok (.getfield 18, 3) := by decide +kernel
theorem dX2_firstThatKeeps_23 : decode cX2_firstThatKeeps 23 = .ok (.aload_n 0, 1) := by decide +kernel
theorem dX2_firstThatKeeps_24 : decode cX2_firstThatKeeps 24 = .ok (.getfield 22, 3) := by decide +kernel
theorem dX2_firstThatKeeps_27 : decode cX2_firstThatKeeps 27 = .ok (.invokevirtual 33, 3) := by decide +kernel
theorem dX2_firstThatKeeps_30 : decode cX2_firstThatKeeps 30 = .ok (.istore_n 1, 1) := by decide +kernel
theorem dX2_firstThatKeeps_31 : decode cX2_firstThatKeeps 31 = .ok (.iconst 0, 1) := by decide +kernel
theorem dX2_firstThatKeeps_32 : decode cX2_firstThatKeeps 32 = .ok (.istore_n 2, 1) := by decide +kernel
theorem dX2_firstThatKeeps_33 : decode cX2_firstThatKeeps 33 = .ok (.iload_n 2, 1) := by decide +kernel
theorem dX2_firstThatKeeps_34 : decode cX2_firstThatKeeps 34 = .ok (.bipush 9, 2) := by decide +kernel
theorem dX2_firstThatKeeps_36 : decode cX2_firstThatKeeps 36 = .ok (.if_icmp .ge 37, 3) := by decide +kernel
theorem dX2_firstThatKeeps_39 : decode cX2_firstThatKeeps 39 = .ok (.aload_n 0, 1) := by decide +kernel
theorem dX2_firstThatKeeps_40 : decode cX2_firstThatKeeps 40 = .ok (.getfield 15, 3) := by decide +kernel
theorem dX2_firstThatKeeps_43 : decode cX2_firstThatKeeps 43 = .ok (.iload_n 2, 1) := by decide +kernel
theorem dX2_firstThatKeeps_44 : decode cX2_firstThatKeeps 44 = .ok (.iaload, 1) := by decide +kernel
theorem dX2_firstThatKeeps_45 : decode cX2_firstThatKeeps 45 = .ok (.ifCond .ne 22, 3) := by decide +kernel
theorem dX2_firstThatKeeps_48 : decode cX2_firstThatKeeps 48 = .ok (.aload_n 0, 1) := by decide +kernel
theorem dX2_firstThatKeeps_49 : decode cX2_firstThatKeeps 49 = .ok (.iload_n 2, 1) := by decide +kernel
theorem dX2_firstThatKeeps_50 : decode cX2_firstThatKeeps 50 = .ok (.aload_n 0, 1) := by decide +kernel
theorem dX2_firstThatKeeps_51 : decode cX2_firstThatKeeps 51 = .ok (.getfield 18, 3) := by decide +kernel
theorem dX2_firstThatKeeps_54 : decode cX2_firstThatKeeps 54 = .ok (.aload_n 0, 1) := by decide +kernel
theorem dX2_firstThatKeeps_55 : decode cX2_firstThatKeeps 55 = .ok (.getfield 22, 3) := by decide +kernel
theorem dX2_firstThatKeeps_58 : decode cX2_firstThatKeeps 58 = .ok (.invokevirtual 37, 3) := by decide +kernel
theorem dX2_firstThatKeeps_61 : decode cX2_firstThatKeeps 61 = .ok (.iload_n 1, 1) := by decide +kernel
theorem dX2_firstThatKeeps_62 : decode cX2_firstThatKeeps 62 = .ok (.if_icmp .ne 5, 3) := by decide +kernel
theorem dX2_firstThatKeeps_65 : decode cX2_firstThatKeeps 65 = .ok (.iload_n 2, 1) := by decide +kernel
theorem dX2_firstThatKeeps_66 : decode cX2_firstThatKeeps 66 = .ok (.ireturn, 1) := by decide +kernel
theorem dX2_firstThatKeeps_67 : decode cX2_firstThatKeeps 67 = .ok (.iinc 2 1, 3) := by decide +kernel
theorem dX2_firstThatKeeps_70 : decode cX2_firstThatKeeps 70 = .ok (.goto (-37), 3) := by decide +kernel
theorem dX2_firstThatKeeps_73 : decode cX2_firstThatKeeps 73 = .ok (.iconst (-1), 1) := by decide +kernel
theorem dX2_firstThatKeeps_74 : decode cX2_firstThatKeeps 74 = .ok (.ireturn, 1) := by decide +kernel
theorem dX2_value_0 : decode cX2_value 0 = .ok (.aload_n 0, 1) := by decide +kernel
theorem dX2_value_1 : decode cX2_value 1 = .ok (.iload_n 1, 1) := by decide +kernel
theorem dX2_value_2 : decode cX2_value 2 = .ok (.invokevirtual 41, 3) := by decide +kernel
theorem dX2_value_5 : decode cX2_value 5 = .ok (.istore_n 3, 1) := by decide +kernel
theorem dX2_value_6 : decode cX2_value 6 = .ok (.iload_n 3, 1) := by decide +kernel
theorem dX2_value_7 : decode cX2_value 7 = .ok (.bipush (-2), 2) := by decide +kernel
theorem dX2_value_9 : decode cX2_value 9 = .ok (.if_icmp .eq 5, 3) := by decide +kernel
theorem dX2_value_12 : decode cX2_value 12 = .ok (.iload_n 3, 1) := by decide +kernel
theorem dX2_value_13 : decode cX2_value 13 = .ok (.ireturn, 1) := by decide +kernel
theorem dX2_value_14 : decode cX2_value 14 = .ok (.iload_n 2, 1) := by decide +kernel
theorem dX2_value_15 : decode cX2_value 15 = .ok (.invokestatic 45, 3) := by decide +kernel
theorem dX2_value_18 : decode cX2_value 18 = .ok (.istore 4, 2) := by decide +kernel
theorem dX2_value_20 : decode cX2_value 20 = .ok (.aload_n 0, 1) := by decide +kernel
theorem dX2_value_21 : decode cX2_value 21 = .ok (.iload 4, 2) := by decide +kernel
theorem dX2_value_23 : decode cX2_value 23 = .ok (.invokevirtual 29, 3) := by decide +kernel
theorem dX2_value_26 : decode cX2_value 26 = .ok (.ifCond .eq 8, 3) := by decide +kernel
theorem dX2_value_29 : decode cX2_value 29 = .ok (.iconst 1, 1) := by decide +kernel
theorem dX2_value_30 : decode cX2_value 30 = .ok (.istore_n 3, 1) := by decide +kernel
theorem dX2_value_31 : decode cX2_value 31 = .ok (.goto 76, 3) := by decide +kernel
theorem dX2_value_34 : decode cX2_value 34 = .ok (.aload_n 0, 1) := by decide +kernel
theorem dX2_value_35 : decode cX2_value 35 = .ok (.iconst 3, 1) := by decide +kernel
theorem dX2_value_36 : decode cX2_value 36 = .ok (.iload 4, 2) := by decide +kernel
theorem dX2_value_38 : decode cX2_value 38 = .ok (.isub, 1) := by decide +kernel
theorem dX2_value_39 : decode cX2_value 39 = .ok (.invokevirtual 29, 3) := by decide +kernel
theorem dX2_value_42 : decode cX2_value 42 = .ok (.ifCond .eq 8, 3) := by decide +kernel
theorem dX2_value_45 : decode cX2_value 45 = .ok (.iconst (-1), 1) := by decide +kernel
theorem dX2_value_46 : decode cX2_value 46 = .ok (.istore_n 3, 1) := by decide +kernel
theorem dX2_value_47 : decode cX2_value 47 = .ok (.goto 60, 3) := by decide +kernel
theorem dX2_value_50 : decode cX2_value 50 = .ok (.iload_n 2, 1) := by decide +kernel
theorem dX2_value_51 : decode cX2_value 51 = .ok (.bipush 9, 2) := by decide +kernel
theorem dX2_value_53 : decode cX2_value 53 = .ok (.if_icmp .lt 8, 3) := by decide +kernel
theorem dX2_value_56 : decode cX2_value 56 = .ok (.iconst 0, 1) := by decide +kernel
theorem dX2_value_57 : decode cX2_value 57 = .ok (.istore_n 3, 1) := by decide +kernel
theorem dX2_value_58 : decode cX2_value 58 = .ok (.goto 49, 3) := by decide +kernel
theorem dX2_value_61 : decode cX2_value 61 = .ok (.iconst (-1), 1) := by decide +kernel
theorem dX2_value_62 : decode cX2_value 62 = .ok (.istore_n 3, 1) := by decide +kernel
theorem dX2_value_63 : decode cX2_value 63 = .ok (.iconst 0, 1) := by decide +kernel
theorem dX2_value_64 : decode cX2_value 64 = .ok (.istore 5, 2) := by decide +kernel
theorem dX2_value_66 : decode cX2_value 66 = .ok (.iload 5, 2) := by decide +kernel
theorem dX2_value_68 : decode cX2_value 68 = .ok (.bipush 9, 2) := by decide +kernel
theorem dX2_value_70 : decode cX2_value 70 = .ok (.if_icmp .ge 37, 3) := by decide +kernel
theorem dX2_value_73 : decode cX2_value 73 = .ok (.iload_n 3, 1) := by decide +kernel
theorem dX2_value_74 : decode cX2_value 74 = .ok (.iconst 1, 1) := by decide +kernel
theorem dX2_value_75 : decode cX2_value 75 = .ok (.if_icmp .ge 32, 3) := by decide +kernel
theorem dX2_value_78 : decode cX2_value 78 = .ok (.aload_n 0, 1) := by decide +kernel
theorem dX2_value_79 : decode cX2_value 79 = .ok (.getfield 15, 3) := by decide +kernel
theorem dX2_value_82 : decode cX2_value 82 = .ok (.iload 5, 2) := by decide +kernel
theorem dX2_value_84 : decode cX2_value 84 = .ok (.iaload, 1) := by decide +kernel
theorem dX2_value_85 : decode cX2_value 85 = .ok (.ifCond .ne 16, 3) := by decide +kernel
theorem dX2_value_88 : decode cX2_value 88 = .ok (.iload_n 3, 1) := by decide +kernel
theorem dX2_value_89 : decode cX2_value 89 = .ok (.aload_n 0, 1) := by decide +kernel
theorem dX2_value_90 : decode cX2_value 90 = .ok (.iload 5, 2) := by decide +kernel
theorem dX2_value_92 : decode cX2_value 92 = .ok (.iload_n 1, 1) := by decide +kernel
theorem dX2_value_93 : decode cX2_value 93 = .ok (.iload_n 2, 1) := by decide +kernel
theorem dX2_value_94 : decode cX2_value 94 = .ok (.invokevirtual 37, 3) := by decide +kernel
theorem dX2_value_97 : decode cX2_value 97 = .ok (.invokestatic 48, 3) := by decide +kernel
theorem dX2_value_100 : decode cX2_value 100 = .ok (.istore_n 3, 1) := by decide +kernel
theorem dX2_value_101 : decode cX2_value 101 = .ok (.iinc 5 1, 3) := by decide +kernel
theorem dX2_value_104 : decode cX2_value 104 = .ok (.goto (-38), 3) := by decide +kernel
theorem dX2_value_107 : decode cX2_value 107 = .ok (.aload_n 0, 1) := by decide +kernel
theorem dX2_value_108 : decode cX2_value 108 = .ok (.iload_n 1, 1) := by decide +kernel
theorem dX2_value_109 : decode cX2_value 109 = .ok (.iload_n 3, 1) := by decide +kernel
theorem dX2_value_110 : decode cX2_value 110 = .ok (.invokevirtual 53, 3) := by decide +kernel
theorem dX2_value_113 : decode cX2_value 113 = .ok (.iload_n 3, 1) := by decide +kernel
theorem dX2_value_114 : decode cX2_value 114 = .ok (.ireturn, 1) := by decide +kernel
theorem dX2_valueOfMove_0 : decode cX2_valueOfMove 0 = .ok (.iload_n 1, 1) := by decide +kernel
theorem dX2_valueOfMove_1 : decode cX2_valueOfMove 1 = .ok (.ifCond .lt 15, 3) := by decide +kernel
theorem dX2_valueOfMove_4 : decode cX2_valueOfMove 4 = .ok (.iload_n 1, 1) := by decide +kernel
theorem dX2_valueOfMove_5 : decode cX2_valueOfMove 5 = .ok (.bipush 9, 2) := by decide +kernel
theorem dX2_valueOfMove_7 : decode cX2_valueOfMove 7 = .ok (.if_icmp .ge 9, 3) := by decide +kernel
theorem dX2_valueOfMove_10 : decode cX2_valueOfMove 10 = .ok (.iload_n 3, 1) := by decide +kernel
theorem dX2_valueOfMove_11 : decode cX2_valueOfMove 11 = .ok (.bipush 9, 2) := by decide +kernel
theorem dX2_valueOfMove_13 : decode cX2_valueOfMove 13 = .ok (.if_icmp .lt 5, 3) := by decide +kernel
theorem dX2_valueOfMove_16 : decode cX2_valueOfMove 16 = .ok (.iconst 0, 1) := by decide +kernel
theorem dX2_valueOfMove_17 : decode cX2_valueOfMove 17 = .ok (.ireturn, 1) := by decide +kernel
theorem dX2_valueOfMove_18 : decode cX2_valueOfMove 18 = .ok (.iload_n 3, 1) := by decide +kernel
theorem dX2_valueOfMove_19 : decode cX2_valueOfMove 19 = .ok (.invokestatic 45, 3) := by decide +kernel
theorem dX2_valueOfMove_22 : decode cX2_valueOfMove 22 = .ok (.istore 4, 2) := by decide +kernel
theorem dX2_valueOfMove_24 : decode cX2_valueOfMove 24 = .ok (.aload_n 0, 1) := by decide +kernel
theorem dX2_valueOfMove_25 : decode cX2_valueOfMove 25 = .ok (.getfield 15, 3) := by decide +kernel
theorem dX2_valueOfMove_28 : decode cX2_valueOfMove 28 = .ok (.iload_n 1, 1) := by decide +kernel
theorem dX2_valueOfMove_29 : decode cX2_valueOfMove 29 = .ok (.iload 4, 2) := by decide +kernel
theorem dX2_valueOfMove_31 : decode cX2_valueOfMove 31 = .ok (.iastore, 1) := by decide +kernel
theorem dX2_valueOfMove_32 : decode cX2_valueOfMove 32 = .ok (.aload_n 0, 1) := by decide +kernel
theorem dX2_valueOfMove_33 : decode cX2_valueOfMove 33 = .ok (.iload_n 2, 1) := by decide +kernel
theorem dX2_valueOfMove_34 : decode cX2_valueOfMove 34 = .ok (.iload 4, 2) := by decide +kernel
theorem dX2_valueOfMove_36 : decode cX2_valueOfMove 36 = .ok (.getstatic 26, 3) := by decide +kernel
theorem dX2_valueOfMove_39 : decode cX2_valueOfMove 39 = .ok (.iload_n 1, 1) := by decide +kernel
theorem dX2_valueOfMove_40 : decode cX2_valueOfMove 40 = .ok (.iaload, 1) := by decide +kernel
theorem dX2_valueOfMove_41 : decode cX2_valueOfMove 41 = .ok (.imul, 1) := by decide +kernel
theorem dX2_valueOfMove_42 : decode cX2_valueOfMove 42 = .ok (.iadd, 1) := by decide +kernel
theorem dX2_valueOfMove_43 : decode cX2_valueOfMove 43 = .ok (.iload_n 3, 1) := by decide +kernel
theorem dX2_valueOfMove_44 : decode cX2_valueOfMove 44 = .ok (.iconst 1, 1) := by decide +kernel
theorem dX2_valueOfMove_45 : decode cX2_valueOfMove 45 = .ok (.iadd, 1) := by decide +kernel
theorem dX2_valueOfMove_46 : decode cX2_valueOfMove 46 = .ok (.invokevirtual 33, 3) := by decide +kernel
theorem dX2_valueOfMove_49 : decode cX2_valueOfMove 49 = .ok (.ineg, 1) := by decide +kernel
theorem dX2_valueOfMove_50 : decode cX2_valueOfMove 50 = .ok (.istore 5, 2) := by decide +kernel
theorem dX2_valueOfMove_52 : decode cX2_valueOfMove 52 = .ok (.aload_n 0, 1) := by decide +kernel
theorem dX2_valueOfMove_53 : decode cX2_valueOfMove 53 = .ok (.getfield 15, 3) := by decide +kernel
theorem dX2_valueOfMove_56 : decode cX2_valueOfMove 56 = .ok (.iload_n 1, 1) := by decide +kernel
theorem dX2_valueOfMove_57 : decode cX2_valueOfMove 57 = .ok (.iconst 0, 1) := by decide +kernel
theorem dX2_valueOfMove_58 : decode cX2_valueOfMove 58 = .ok (.iastore, 1) := by decide +kernel
theorem dX2_valueOfMove_59 : decode cX2_valueOfMove 59 = .ok (.iload 5, 2) := by decide +kernel
theorem dX2_valueOfMove_61 : decode cX2_valueOfMove 61 = .ok (.ireturn, 1) := by decide +kernel
theorem dX2_whoIsNext_0 : decode cX2_whoIsNext 0 = .ok (.iload_n 0, 1) := by decide +kernel
theorem dX2_whoIsNext_1 : decode cX2_whoIsNext 1 = .ok (.iconst 2, 1) := by decide +kernel
theorem dX2_whoIsNext_2 : decode cX2_whoIsNext 2 = .ok (.irem, 1) := by decide +kernel
theorem dX2_whoIsNext_3 : decode cX2_whoIsNext 3 = .ok (.ifCond .ne 7, 3) := by decide +kernel
theorem dX2_whoIsNext_6 : decode cX2_whoIsNext 6 = .ok (.iconst 1, 1) := by decide +kernel
theorem dX2_whoIsNext_7 : decode cX2_whoIsNext 7 = .ok (.goto 4, 3) := by decide +kernel
theorem dX2_whoIsNext_10 : decode cX2_whoIsNext 10 = .ok (.iconst 2, 1) := by decide +kernel
theorem dX2_whoIsNext_11 : decode cX2_whoIsNext 11 = .ok (.ireturn, 1) := by decide +kernel
theorem dX2_hasThree_0 : decode cX2_hasThree 0 = .ok (.iconst 0, 1) := by decide +kernel
theorem dX2_hasThree_1 : decode cX2_hasThree 1 = .ok (.istore_n 2, 1) := by decide +kernel
theorem dX2_hasThree_2 : decode cX2_hasThree 2 = .ok (.iload_n 2, 1) := by decide +kernel
theorem dX2_hasThree_3 : decode cX2_hasThree 3 = .ok (.iconst 2, 1) := by decide +kernel
theorem dX2_hasThree_4 : decode cX2_hasThree 4 = .ok (.iadd, 1) := by decide +kernel
theorem dX2_hasThree_5 : decode cX2_hasThree 5 = .ok (.getstatic 57, 3) := by decide +kernel
theorem dX2_hasThree_8 : decode cX2_hasThree 8 = .ok (.arraylength, 1) := by decide +kernel
theorem dX2_hasThree_9 : decode cX2_hasThree 9 = .ok (.if_icmp .ge 57, 3) := by decide +kernel
theorem dX2_hasThree_12 : decode cX2_hasThree 12 = .ok (.aload_n 0, 1) := by decide +kernel
theorem dX2_hasThree_13 : decode cX2_hasThree 13 = .ok (.getfield 15, 3) := by decide +kernel
theorem dX2_hasThree_16 : decode cX2_hasThree 16 = .ok (.getstatic 57, 3) := by decide +kernel
theorem dX2_hasThree_19 : decode cX2_hasThree 19 = .ok (.iload_n 2, 1) := by decide +kernel
theorem dX2_hasThree_20 : decode cX2_hasThree 20 = .ok (.iaload, 1) := by decide +kernel
theorem dX2_hasThree_21 : decode cX2_hasThree 21 = .ok (.iaload, 1) := by decide +kernel
theorem dX2_hasThree_22 : decode cX2_hasThree 22 = .ok (.iload_n 1, 1) := by decide +kernel
theorem dX2_hasThree_23 : decode cX2_hasThree 23 = .ok (.if_icmp .ne 37, 3) := by decide +kernel
theorem dX2_hasThree_26 : decode cX2_hasThree 26 = .ok (.aload_n 0, 1) := by decide +kernel
theorem dX2_hasThree_27 : decode cX2_hasThree 27 = .ok (.getfield 15, 3) := by decide +kernel
theorem dX2_hasThree_30 : decode cX2_hasThree 30 = .ok (.getstatic 57, 3) := by decide +kernel
theorem dX2_hasThree_33 : decode cX2_hasThree 33 = .ok (.iload_n 2, 1) := by decide +kernel
theorem dX2_hasThree_34 : decode cX2_hasThree 34 = .ok (.iconst 1, 1) := by decide +kernel
theorem dX2_hasThree_35 : decode cX2_hasThree 35 = .ok (.iadd, 1) := by decide +kernel
theorem dX2_hasThree_36 : decode cX2_hasThree 36 = .ok (.iaload, 1) := by decide +kernel
theorem dX2_hasThree_37 : decode cX2_hasThree 37 = .ok (.iaload, 1) := by decide +kernel
theorem dX2_hasThree_38 : decode cX2_hasThree 38 = .ok (.iload_n 1, 1) := by decide +kernel
theorem dX2_hasThree_39 : decode cX2_hasThree 39 = .ok (.if_icmp .ne 21, 3) := by decide +kernel
theorem dX2_hasThree_42 : decode cX2_hasThree 42 = .ok (.aload_n 0, 1) := by decide +kernel
theorem dX2_hasThree_43 : decode cX2_hasThree 43 = .ok (.getfield 15, 3) := by decide +kernel
theorem dX2_hasThree_46 : decode cX2_hasThree 46 = .ok (.getstatic 57, 3) := by decide +kernel
theorem dX2_hasThree_49 : decode cX2_hasThree 49 = .ok (.iload_n 2, 1) := by decide +kernel
theorem dX2_hasThree_50 : decode cX2_hasThree 50 = .ok (.iconst 2, 1) := by decide +kernel
theorem dX2_hasThree_51 : decode cX2_hasThree 51 = .ok (.iadd, 1) := by decide +kernel
theorem dX2_hasThree_52 : decode cX2_hasThree 52 = .ok (.iaload, 1) := by decide +kernel
theorem dX2_hasThree_53 : decode cX2_hasThree 53 = .ok (.iaload, 1) := by decide +kernel
theorem dX2_hasThree_54 : decode cX2_hasThree 54 = .ok (.iload_n 1, 1) := by decide +kernel
theorem dX2_hasThree_55 : decode cX2_hasThree 55 = .ok (.if_icmp .ne 5, 3) := by decide +kernel
theorem dX2_hasThree_58 : decode cX2_hasThree 58 = .ok (.iconst 1, 1) := by decide +kernel
theorem dX2_hasThree_59 : decode cX2_hasThree 59 = .ok (.ireturn, 1) := by decide +kernel
theorem dX2_hasThree_60 : decode cX2_hasThree 60 = .ok (.iinc 2 3, 3) := by decide +kernel
theorem dX2_hasThree_63 : decode cX2_hasThree 63 = .ok (.goto (-61), 3) := by decide +kernel
theorem dX2_hasThree_66 : decode cX2_hasThree 66 = .ok (.iconst 0, 1) := by decide +kernel
theorem dX2_hasThree_67 : decode cX2_hasThree 67 = .ok (.ireturn, 1) := by decide +kernel
theorem dX2_recall_0 : decode cX2_recall 0 = .ok (.iload_n 1, 1) := by decide +kernel
theorem dX2_recall_1 : decode cX2_recall 1 = .ok (.bipush 16, 2) := by decide +kernel
theorem dX2_recall_3 : decode cX2_recall 3 = .ok (.idiv, 1) := by decide +kernel
theorem dX2_recall_4 : decode cX2_recall 4 = .ok (.istore_n 2, 1) := by decide +kernel
theorem dX2_recall_5 : decode cX2_recall 5 = .ok (.iload_n 1, 1) := by decide +kernel
theorem dX2_recall_6 : decode cX2_recall 6 = .ok (.ifCond .lt 12, 3) := by decide +kernel
theorem dX2_recall_9 : decode cX2_recall 9 = .ok (.iload_n 2, 1) := by decide +kernel
theorem dX2_recall_10 : decode cX2_recall 10 = .ok (.aload_n 0, 1) := by decide +kernel
theorem dX2_recall_11 : decode cX2_recall 11 = .ok (.getfield 11, 3) := by decide +kernel
theorem dX2_recall_14 : decode cX2_recall 14 = .ok (.arraylength, 1) := by decide +kernel
theorem dX2_recall_15 : decode cX2_recall 15 = .ok (.if_icmp .lt 6, 3) := by decide +kernel
theorem dX2_recall_18 : decode cX2_recall 18 = .ok (.bipush (-2), 2) := by decide +kernel
theorem dX2_recall_20 : decode cX2_recall 20 = .ok (.ireturn, 1) := by decide +kernel
theorem dX2_recall_21 : decode cX2_recall 21 = .ok (.aload_n 0, 1) := by decide +kernel
theorem dX2_recall_22 : decode cX2_recall 22 = .ok (.getfield 11, 3) := by decide +kernel
theorem dX2_recall_25 : decode cX2_recall 25 = .ok (.iload_n 2, 1) := by decide +kernel
theorem dX2_recall_26 : decode cX2_recall 26 = .ok (.iaload, 1) := by decide +kernel
theorem dX2_recall_27 : decode cX2_recall 27 = .ok (.iconst 2, 1) := by decide +kernel
theorem dX2_recall_28 : decode cX2_recall 28 = .ok (.iload_n 1, 1) := by decide +kernel
theorem dX2_recall_29 : decode cX2_recall 29 = .ok (.bipush 16, 2) := by decide +kernel
theorem dX2_recall_31 : decode cX2_recall 31 = .ok (.irem, 1) := by decide +kernel
theorem dX2_recall_32 : decode cX2_recall 32 = .ok (.imul, 1) := by decide +kernel
theorem dX2_recall_33 : decode cX2_recall 33 = .ok (.ishr, 1) := by decide +kernel
theorem dX2_recall_34 : decode cX2_recall 34 = .ok (.iconst 3, 1) := by decide +kernel
theorem dX2_recall_35 : decode cX2_recall 35 = .ok (.iand, 1) := by decide +kernel
theorem dX2_recall_36 : decode cX2_recall 36 = .ok (.iconst 2, 1) := by decide +kernel
theorem dX2_recall_37 : decode cX2_recall 37 = .ok (.isub, 1) := by decide +kernel
theorem dX2_recall_38 : decode cX2_recall 38 = .ok (.ireturn, 1) := by decide +kernel
theorem dX2_keepValue_0 : decode cX2_keepValue 0 = .ok (.iload_n 1, 1) := by decide +kernel
theorem dX2_keepValue_1 : decode cX2_keepValue 1 = .ok (.bipush 16, 2) := by decide +kernel
theorem dX2_keepValue_3 : decode cX2_keepValue 3 = .ok (.idiv, 1) := by decide +kernel
theorem dX2_keepValue_4 : decode cX2_keepValue 4 = .ok (.istore_n 3, 1) := by decide +kernel
theorem dX2_keepValue_5 : decode cX2_keepValue 5 = .ok (.iload_n 1, 1) := by decide +kernel
theorem dX2_keepValue_6 : decode cX2_keepValue 6 = .ok (.ifCond .lt 31, 3) := by decide +kernel
theorem dX2_keepValue_9 : decode cX2_keepValue 9 = .ok (.iload_n 3, 1) := by decide +kernel
theorem dX2_keepValue_10 : decode cX2_keepValue 10 = .ok (.aload_n 0, 1) := by decide +kernel
theorem dX2_keepValue_11 : decode cX2_keepValue 11 = .ok (.getfield 11, 3) := by decide +kernel
theorem dX2_keepValue_14 : decode cX2_keepValue 14 = .ok (.arraylength, 1) := by decide +kernel
theorem dX2_keepValue_15 : decode cX2_keepValue 15 = .ok (.if_icmp .ge 22, 3) := by decide +kernel
theorem dX2_keepValue_18 : decode cX2_keepValue 18 = .ok (.aload_n 0, 1) := by decide +kernel
theorem dX2_keepValue_19 : decode cX2_keepValue 19 = .ok (.getfield 11, 3) := by decide +kernel
theorem dX2_keepValue_22 : decode cX2_keepValue 22 = .ok (.iload_n 3, 1) := by decide +kernel
theorem dX2_keepValue_23 : decode cX2_keepValue 23 = .ok (.dup2, 1) := by decide +kernel
theorem dX2_keepValue_24 : decode cX2_keepValue 24 = .ok (.iaload, 1) := by decide +kernel
theorem dX2_keepValue_25 : decode cX2_keepValue 25 = .ok (.iload_n 2, 1) := by decide +kernel
theorem dX2_keepValue_26 : decode cX2_keepValue 26 = .ok (.iconst 2, 1) := by decide +kernel
theorem dX2_keepValue_27 : decode cX2_keepValue 27 = .ok (.iadd, 1) := by decide +kernel
theorem dX2_keepValue_28 : decode cX2_keepValue 28 = .ok (.iconst 2, 1) := by decide +kernel
theorem dX2_keepValue_29 : decode cX2_keepValue 29 = .ok (.iload_n 1, 1) := by decide +kernel
theorem dX2_keepValue_30 : decode cX2_keepValue 30 = .ok (.bipush 16, 2) := by decide +kernel
theorem dX2_keepValue_32 : decode cX2_keepValue 32 = .ok (.irem, 1) := by decide +kernel
theorem dX2_keepValue_33 : decode cX2_keepValue 33 = .ok (.imul, 1) := by decide +kernel
theorem dX2_keepValue_34 : decode cX2_keepValue 34 = .ok (.ishl, 1) := by decide +kernel
theorem dX2_keepValue_35 : decode cX2_keepValue 35 = .ok (.ior, 1) := by decide +kernel
theorem dX2_keepValue_36 : decode cX2_keepValue 36 = .ok (.iastore, 1) := by decide +kernel
theorem dX2_keepValue_37 : decode cX2_keepValue 37 = .ok (.return_, 1) := by decide +kernel
theorem dX3_init_0 : decode cX3_init 0 = .ok (.aload_n 0, 1) := by decide +kernel
theorem dX3_init_1 : decode cX3_init 1 = .ok (.invokespecial 3, 3) := by decide +kernel
theorem dX3_init_4 : decode cX3_init 4 = .ok (.aload_n 0, 1) := by decide +kernel
theorem dX3_init_5 : decode cX3_init 5 = .ok (.sipush 750, 3) := by decide +kernel
theorem dX3_init_8 : decode cX3_init 8 = .ok (.newarray .int, 2) := by decide +kernel
theorem dX3_init_10 : decode cX3_init 10 = .ok (.putfield 9, 3) := by decide +kernel
theorem dX3_init_13 : decode cX3_init 13 = .ok (.return_, 1) := by decide +kernel
theorem dX3_write_0 : decode cX3_write 0 = .ok (.iload_n 1, 1) := by decide +kernel
theorem dX3_write_1 : decode cX3_write 1 = .ok (.ifCond .lt 10, 3) := by decide +kernel
theorem dX3_write_4 : decode cX3_write 4 = .ok (.iload_n 1, 1) := by decide +kernel
theorem dX3_write_5 : decode cX3_write 5 = .ok (.sipush 150, 3) := by decide +kernel
theorem dX3_write_8 : decode cX3_write 8 = .ok (.if_icmp .lt 5, 3) := by decide +kernel
theorem dX3_write_11 : decode cX3_write 11 = .ok (.iload_n 1, 1) := by decide +kernel
theorem dX3_write_12 : decode cX3_write 12 = .ok (.ireturn, 1) := by decide +kernel
theorem dX3_write_13 : decode cX3_write 13 = .ok (.iload_n 1, 1) := by decide +kernel
theorem dX3_write_14 : decode cX3_write 14 = .ok (.iconst 5, 1) := by decide +kernel
theorem dX3_write_15 : decode cX3_write 15 = .ok (.imul, 1) := by decide +kernel
theorem dX3_write_16 : decode cX3_write 16 = .ok (.istore 6, 2) := by decide +kernel
theorem dX3_write_18 : decode cX3_write 18 = .ok (.aload_n 0, 1) := by decide +kernel
theorem dX3_write_19 : decode cX3_write 19 = .ok (.getfield 9, 3) := by decide +kernel
theorem dX3_write_22 : decode cX3_write 22 = .ok (.iload 6, 2) := by decide +kernel
theorem dX3_write_24 : decode cX3_write 24 = .ok (.aload_n 2, 1) := by decide +kernel
theorem dX3_write_25 : decode cX3_write 25 = .ok (.getfield 15, 3) := by decide +kernel
theorem dX3_write_28 : decode cX3_write 28 = .ok (.iastore, 1) := by decide +kernel
theorem dX3_write_29 : decode cX3_write 29 = .ok (.aload_n 0, 1) := by decide +kernel
theorem dX3_write_30 : decode cX3_write 30 = .ok (.getfield 9, 3) := by decide +kernel
theorem dX3_write_33 : decode cX3_write 33 = .ok (.iload 6, 2) := by decide +kernel
theorem dX3_write_35 : decode cX3_write 35 = .ok (.iconst 1, 1) := by decide +kernel
theorem dX3_write_36 : decode cX3_write 36 = .ok (.iadd, 1) := by decide +kernel
theorem dX3_write_37 : decode cX3_write 37 = .ok (.aload_n 2, 1) := by decide +kernel
theorem dX3_write_38 : decode cX3_write 38 = .ok (.getfield 21, 3) := by decide +kernel
theorem dX3_write_41 : decode cX3_write 41 = .ok (.iastore, 1) := by decide +kernel
theorem dX3_write_42 : decode cX3_write 42 = .ok (.aload_n 0, 1) := by decide +kernel
theorem dX3_write_43 : decode cX3_write 43 = .ok (.getfield 9, 3) := by decide +kernel
theorem dX3_write_46 : decode cX3_write 46 = .ok (.iload 6, 2) := by decide +kernel
theorem dX3_write_48 : decode cX3_write 48 = .ok (.iconst 2, 1) := by decide +kernel
theorem dX3_write_49 : decode cX3_write 49 = .ok (.iadd, 1) := by decide +kernel
theorem dX3_write_50 : decode cX3_write 50 = .ok (.iload_n 3, 1) := by decide +kernel
theorem dX3_write_51 : decode cX3_write 51 = .ok (.iastore, 1) := by decide +kernel
theorem dX3_write_52 : decode cX3_write 52 = .ok (.aload_n 0, 1) := by decide +kernel
theorem dX3_write_53 : decode cX3_write 53 = .ok (.getfield 9, 3) := by decide +kernel
theorem dX3_write_56 : decode cX3_write 56 = .ok (.iload 6, 2) := by decide +kernel
theorem dX3_write_58 : decode cX3_write 58 = .ok (.iconst 3, 1) := by decide +kernel
theorem dX3_write_59 : decode cX3_write 59 = .ok (.iadd, 1) := by decide +kernel
theorem dX3_write_60 : decode cX3_write 60 = .ok (.iload 4, 2) := by decide +kernel
theorem dX3_write_62 : decode cX3_write 62 = .ok (.iastore, 1) := by decide +kernel
theorem dX3_write_63 : decode cX3_write 63 = .ok (.aload_n 0, 1) := by decide +kernel
theorem dX3_write_64 : decode cX3_write 64 = .ok (.getfield 9, 3) := by decide +kernel
theorem dX3_write_67 : decode cX3_write 67 = .ok (.iload 6, 2) := by decide +kernel
theorem dX3_write_69 : decode cX3_write 69 = .ok (.iconst 4, 1) := by decide +kernel
theorem dX3_write_70 : decode cX3_write 70 = .ok (.iadd, 1) := by decide +kernel
theorem dX3_write_71 : decode cX3_write 71 = .ok (.iload 5, 2) := by decide +kernel
theorem dX3_write_73 : decode cX3_write 73 = .ok (.iastore, 1) := by decide +kernel
theorem dX3_write_74 : decode cX3_write 74 = .ok (.iload_n 1, 1) := by decide +kernel
theorem dX3_write_75 : decode cX3_write 75 = .ok (.iconst 1, 1) := by decide +kernel
theorem dX3_write_76 : decode cX3_write 76 = .ok (.iadd, 1) := by decide +kernel
theorem dX3_write_77 : decode cX3_write 77 = .ok (.ireturn, 1) := by decide +kernel
theorem dX3_number_0 : decode cX3_number 0 = .ok (.iload_n 1, 1) := by decide +kernel
theorem dX3_number_1 : decode cX3_number 1 = .ok (.ifCond .lt 23, 3) := by decide +kernel
theorem dX3_number_4 : decode cX3_number 4 = .ok (.iload_n 1, 1) := by decide +kernel
theorem dX3_number_5 : decode cX3_number 5 = .ok (.sipush 150, 3) := by decide +kernel
theorem dX3_number_8 : decode cX3_number 8 = .ok (.if_icmp .ge 16, 3) := by decide +kernel
theorem dX3_number_11 : decode cX3_number 11 = .ok (.iload_n 2, 1) := by decide +kernel
theorem dX3_number_12 : decode cX3_number 12 = .ok (.ifCond .lt 12, 3) := by decide +kernel
theorem dX3_number_15 : decode cX3_number 15 = .ok (.iload_n 2, 1) := by decide +kernel
theorem dX3_number_16 : decode cX3_number 16 = .ok (.iconst 5, 1) := by decide +kernel
theorem dX3_number_17 : decode cX3_number 17 = .ok (.if_icmp .ge 7, 3) := by decide +kernel
theorem dX3_number_20 : decode cX3_number 20 = .ok (.iconst 1, 1) := by decide +kernel
theorem dX3_number_21 : decode cX3_number 21 = .ok (.goto 4, 3) := by decide +kernel
theorem dX3_number_24 : decode cX3_number 24 = .ok (.iconst 0, 1) := by decide +kernel
theorem dX3_number_25 : decode cX3_number 25 = .ok (.istore_n 3, 1) := by decide +kernel
theorem dX3_number_26 : decode cX3_number 26 = .ok (.iload_n 3, 1) := by decide +kernel
theorem dX3_number_27 : decode cX3_number 27 = .ok (.ifCond .eq 16, 3) := by decide +kernel
theorem dX3_number_30 : decode cX3_number 30 = .ok (.aload_n 0, 1) := by decide +kernel
theorem dX3_number_31 : decode cX3_number 31 = .ok (.getfield 9, 3) := by decide +kernel
theorem dX3_number_34 : decode cX3_number 34 = .ok (.iload_n 1, 1) := by decide +kernel
theorem dX3_number_35 : decode cX3_number 35 = .ok (.iconst 5, 1) := by decide +kernel
theorem dX3_number_36 : decode cX3_number 36 = .ok (.imul, 1) := by decide +kernel
theorem dX3_number_37 : decode cX3_number 37 = .ok (.iload_n 2, 1) := by decide +kernel
theorem dX3_number_38 : decode cX3_number 38 = .ok (.iadd, 1) := by decide +kernel
theorem dX3_number_39 : decode cX3_number 39 = .ok (.iaload, 1) := by decide +kernel
theorem dX3_number_40 : decode cX3_number 40 = .ok (.goto 4, 3) := by decide +kernel
theorem dX3_number_43 : decode cX3_number 43 = .ok (.iconst 0, 1) := by decide +kernel
theorem dX3_number_44 : decode cX3_number 44 = .ok (.ireturn, 1) := by decide +kernel
theorem dX3_takePages_0 : decode cX3_takePages 0 = .ok (.aload_n 1, 1) := by decide +kernel
theorem dX3_takePages_1 : decode cX3_takePages 1 = .ok (.getfield 9, 3) := by decide +kernel
theorem dX3_takePages_4 : decode cX3_takePages 4 = .ok (.iconst 0, 1) := by decide +kernel
theorem dX3_takePages_5 : decode cX3_takePages 5 = .ok (.aload_n 0, 1) := by decide +kernel
theorem dX3_takePages_6 : decode cX3_takePages 6 = .ok (.getfield 9, 3) := by decide +kernel
theorem dX3_takePages_9 : decode cX3_takePages 9 = .ok (.iconst 0, 1) := by decide +kernel
theorem dX3_takePages_10 : decode cX3_takePages 10 = .ok (.sipush 750, 3) := by decide +kernel
theorem dX3_takePages_13 : decode cX3_takePages 13 = .ok (.invokestatic 24, 3) := by decide +kernel
theorem dX3_takePages_16 : decode cX3_takePages 16 = .ok (.return_, 1) := by decide +kernel
theorem dX4_init_0 : decode cX4_init 0 = .ok (.aload_n 0, 1) := by decide +kernel
theorem dX4_init_1 : decode cX4_init 1 = .ok (.invokespecial 3, 3) := by decide +kernel
theorem dX4_init_4 : decode cX4_init 4 = .ok (.aload_n 0, 1) := by decide +kernel
theorem dX4_init_5 : decode cX4_init 5 = .ok (.sipush 401, 3) := by decide +kernel
theorem dX4_init_8 : decode cX4_init 8 = .ok (.newarray .int, 2) := by decide +kernel
theorem dX4_init_10 : decode cX4_init 10 = .ok (.putfield 9, 3) := by decide +kernel
theorem dX4_init_13 : decode cX4_init 13 = .ok (.aload_n 0, 1) := by decide +kernel
theorem dX4_init_14 : decode cX4_init 14 = .ok (.sipush 401, 3) := by decide +kernel
theorem dX4_init_17 : decode cX4_init 17 = .ok (.newarray .int, 2) := by decide +kernel
theorem dX4_init_19 : decode cX4_init 19 = .ok (.putfield 15, 3) := by decide +kernel
theorem dX4_init_22 : decode cX4_init 22 = .ok (.return_, 1) := by decide +kernel
theorem dX4_seatsOf_0 : decode cX4_seatsOf 0 = .ok (.aload_n 0, 1) := by decide +kernel
theorem dX4_seatsOf_1 : decode cX4_seatsOf 1 = .ok (.getfield 9, 3) := by decide +kernel
theorem dX4_seatsOf_4 : decode cX4_seatsOf 4 = .ok (.iconst 0, 1) := by decide +kernel
theorem dX4_seatsOf_5 : decode cX4_seatsOf 5 = .ok (.invokestatic 18, 3) := by decide +kernel
theorem dX4_seatsOf_8 : decode cX4_seatsOf 8 = .ok (.iconst 0, 1) := by decide +kernel
theorem dX4_seatsOf_9 : decode cX4_seatsOf 9 = .ok (.istore 5, 2) := by decide +kernel
theorem dX4_seatsOf_11 : decode cX4_seatsOf 11 = .ok (.iload 5, 2) := by decide +kernel
theorem dX4_seatsOf_13 : decode cX4_seatsOf 13 = .ok (.iload_n 2, 1) := by decide +kernel
theorem dX4_seatsOf_14 : decode cX4_seatsOf 14 = .ok (.if_icmp .ge 123, 3) := by decide +kernel
theorem dX4_seatsOf_17 : decode cX4_seatsOf 17 = .ok (.iconst (-1), 1) := by decide +kernel
theorem dX4_seatsOf_18 : decode cX4_seatsOf 18 = .ok (.istore 6, 2) := by decide +kernel
theorem dX4_seatsOf_20 : decode cX4_seatsOf 20 = .ok (.iconst 0, 1) := by decide +kernel
theorem dX4_seatsOf_21 : decode cX4_seatsOf 21 = .ok (.istore 7, 2) := by decide +kernel
theorem dX4_seatsOf_23 : decode cX4_seatsOf 23 = .ok (.iconst 0, 1) := by decide +kernel
theorem dX4_seatsOf_24 : decode cX4_seatsOf 24 = .ok (.istore 8, 2) := by decide +kernel
theorem dX4_seatsOf_26 : decode cX4_seatsOf 26 = .ok (.iload 8, 2) := by decide +kernel
theorem dX4_seatsOf_28 : decode cX4_seatsOf 28 = .ok (.aload_n 1, 1) := by decide +kernel
theorem dX4_seatsOf_29 : decode cX4_seatsOf 29 = .ok (.getfield 24, 3) := by decide +kernel
theorem dX4_seatsOf_32 : decode cX4_seatsOf 32 = .ok (.if_icmp .ge 83, 3) := by decide +kernel
theorem dX4_seatsOf_35 : decode cX4_seatsOf 35 = .ok (.iload 8, 2) := by decide +kernel
theorem dX4_seatsOf_37 : decode cX4_seatsOf 37 = .ok (.aload_n 0, 1) := by decide +kernel
theorem dX4_seatsOf_38 : decode cX4_seatsOf 38 = .ok (.getfield 9, 3) := by decide +kernel
theorem dX4_seatsOf_41 : decode cX4_seatsOf 41 = .ok (.arraylength, 1) := by decide +kernel
theorem dX4_seatsOf_42 : decode cX4_seatsOf 42 = .ok (.if_icmp .ge 73, 3) := by decide +kernel
theorem dX4_seatsOf_45 : decode cX4_seatsOf 45 = .ok (.iload_n 3, 1) := by decide +kernel
theorem dX4_seatsOf_46 : decode cX4_seatsOf 46 = .ok (.ifCond .ne 15, 3) := by decide +kernel
theorem dX4_seatsOf_49 : decode cX4_seatsOf 49 = .ok (.aload_n 0, 1) := by decide +kernel
theorem dX4_seatsOf_50 : decode cX4_seatsOf 50 = .ok (.getfield 9, 3) := by decide +kernel
theorem dX4_seatsOf_53 : decode cX4_seatsOf 53 = .ok (.iload 8, 2) := by decide +kernel
theorem dX4_seatsOf_55 : decode cX4_seatsOf 55 = .ok (.iaload, 1) := by decide +kernel
theorem dX4_seatsOf_56 : decode cX4_seatsOf 56 = .ok (.iconst 1, 1) := by decide +kernel
theorem dX4_seatsOf_57 : decode cX4_seatsOf 57 = .ok (.iadd, 1) := by decide +kernel
theorem dX4_seatsOf_58 : decode cX4_seatsOf 58 = .ok (.goto 14, 3) := by decide +kernel
theorem dX4_seatsOf_61 : decode cX4_seatsOf 61 = .ok (.iconst 2, 1) := by decide +kernel
theorem dX4_seatsOf_62 : decode cX4_seatsOf 62 = .ok (.aload_n 0, 1) := by decide +kernel
theorem dX4_seatsOf_63 : decode cX4_seatsOf 63 = .ok (.getfield 9, 3) := by decide +kernel
theorem dX4_seatsOf_66 : decode cX4_seatsOf 66 = .ok (.iload 8, 2) := by decide +kernel
theorem dX4_seatsOf_68 : decode cX4_seatsOf 68 = .ok (.iaload, 1) := by decide +kernel
theorem dX4_seatsOf_69 : decode cX4_seatsOf 69 = .ok (.imul, 1) := by decide +kernel
theorem dX4_seatsOf_70 : decode cX4_seatsOf 70 = .ok (.iconst 1, 1) := by decide +kernel
theorem dX4_seatsOf_71 : decode cX4_seatsOf 71 = .ok (.iadd, 1) := by decide +kernel
theorem dX4_seatsOf_72 : decode cX4_seatsOf 72 = .ok (.istore 9, 2) := by decide +kernel
theorem dX4_seatsOf_74 : decode cX4_seatsOf 74 = .ok (.iload 9, 2) := by decide +kernel
theorem dX4_seatsOf_76 : decode cX4_seatsOf 76 = .ok (.ifCond .le 15, 3) := by decide +kernel
theorem dX4_seatsOf_79 : decode cX4_seatsOf 79 = .ok (.aload_n 1, 1) := by decide +kernel
theorem dX4_seatsOf_80 : decode cX4_seatsOf 80 = .ok (.iload 8, 2) := by decide +kernel
theorem dX4_seatsOf_82 : decode cX4_seatsOf 82 = .ok (.invokevirtual 30, 3) := by decide +kernel
theorem dX4_seatsOf_85 : decode cX4_seatsOf 85 = .ok (.iload 9, 2) := by decide +kernel
theorem dX4_seatsOf_87 : decode cX4_seatsOf 87 = .ok (.idiv, 1) := by decide +kernel
theorem dX4_seatsOf_88 : decode cX4_seatsOf 88 = .ok (.goto 4, 3) := by decide +kernel
theorem dX4_seatsOf_91 : decode cX4_seatsOf 91 = .ok (.iconst 0, 1) := by decide +kernel
theorem dX4_seatsOf_92 : decode cX4_seatsOf 92 = .ok (.istore 10, 2) := by decide +kernel
theorem dX4_seatsOf_94 : decode cX4_seatsOf 94 = .ok (.iload 10, 2) := by decide +kernel
theorem dX4_seatsOf_96 : decode cX4_seatsOf 96 = .ok (.iload 7, 2) := by decide +kernel
theorem dX4_seatsOf_98 : decode cX4_seatsOf 98 = .ok (.if_icmp .le 11, 3) := by decide +kernel
theorem dX4_seatsOf_101 : decode cX4_seatsOf 101 = .ok (.iload 10, 2) := by decide +kernel
theorem dX4_seatsOf_103 : decode cX4_seatsOf 103 = .ok (.istore 7, 2) := by decide +kernel
theorem dX4_seatsOf_105 : decode cX4_seatsOf 105 = .ok (.iload 8, 2) := by decide +kernel
theorem dX4_seatsOf_107 : decode cX4_seatsOf 107 = .ok (.istore 6, 2) := by decide +kernel
theorem dX4_seatsOf_109 : decode cX4_seatsOf 109 = .ok (.iinc 8 1, 3) := by decide +kernel
theorem dX4_seatsOf_112 : decode cX4_seatsOf 112 = .ok (.goto (-86), 3) := by decide +kernel
theorem dX4_seatsOf_115 : decode cX4_seatsOf 115 = .ok (.iload 6, 2) := by decide +kernel
theorem dX4_seatsOf_117 : decode cX4_seatsOf 117 = .ok (.ifCond .lt 14, 3) := by decide +kernel
theorem dX4_seatsOf_120 : decode cX4_seatsOf 120 = .ok (.aload_n 0, 1) := by decide +kernel
theorem dX4_seatsOf_121 : decode cX4_seatsOf 121 = .ok (.getfield 9, 3) := by decide +kernel
theorem dX4_seatsOf_124 : decode cX4_seatsOf 124 = .ok (.iload 6, 2) := by decide +kernel
theorem dX4_seatsOf_126 : decode cX4_seatsOf 126 = .ok (.dup2, 1) := by decide +kernel
theorem dX4_seatsOf_127 : decode cX4_seatsOf 127 = .ok (.iaload, 1) := by decide +kernel
theorem dX4_seatsOf_128 : decode cX4_seatsOf 128 = .ok (.iconst 1, 1) := by decide +kernel
theorem dX4_seatsOf_129 : decode cX4_seatsOf 129 = .ok (.iadd, 1) := by decide +kernel
theorem dX4_seatsOf_130 : decode cX4_seatsOf 130 = .ok (.iastore, 1) := by decide +kernel
theorem dX4_seatsOf_131 : decode cX4_seatsOf 131 = .ok (.iinc 5 1, 3) := by decide +kernel
theorem dX4_seatsOf_134 : decode cX4_seatsOf 134 = .ok (.goto (-123), 3) := by decide +kernel
theorem dX4_seatsOf_137 : decode cX4_seatsOf 137 = .ok (.iload 4, 2) := by decide +kernel
theorem dX4_seatsOf_139 : decode cX4_seatsOf 139 = .ok (.ifCond .lt 23, 3) := by decide +kernel
theorem dX4_seatsOf_142 : decode cX4_seatsOf 142 = .ok (.iload 4, 2) := by decide +kernel
theorem dX4_seatsOf_144 : decode cX4_seatsOf 144 = .ok (.aload_n 0, 1) := by decide +kernel
theorem dX4_seatsOf_145 : decode cX4_seatsOf 145 = .ok (.getfield 9, 3) := by decide +kernel
theorem dX4_seatsOf_148 : decode cX4_seatsOf 148 = .ok (.arraylength, 1) := by decide +kernel
theorem dX4_seatsOf_149 : decode cX4_seatsOf 149 = .ok (.if_icmp .ge 13, 3) := by decide +kernel
theorem dX4_seatsOf_152 : decode cX4_seatsOf 152 = .ok (.aload_n 0, 1) := by decide +kernel
theorem dX4_seatsOf_153 : decode cX4_seatsOf 153 = .ok (.getfield 9, 3) := by decide +kernel
theorem dX4_seatsOf_156 : decode cX4_seatsOf 156 = .ok (.iload 4, 2) := by decide +kernel
theorem dX4_seatsOf_158 : decode cX4_seatsOf 158 = .ok (.iaload, 1) := by decide +kernel
theorem dX4_seatsOf_159 : decode cX4_seatsOf 159 = .ok (.goto 4, 3) := by decide +kernel
theorem dX4_seatsOf_162 : decode cX4_seatsOf 162 = .ok (.iconst 0, 1) := by decide +kernel
theorem dX4_seatsOf_163 : decode cX4_seatsOf 163 = .ok (.ireturn, 1) := by decide +kernel
theorem dX4_parishesFor_0 : decode cX4_parishesFor 0 = .ok (.aload_n 1, 1) := by decide +kernel
theorem dX4_parishesFor_1 : decode cX4_parishesFor 1 = .ok (.getfield 24, 3) := by decide +kernel
theorem dX4_parishesFor_4 : decode cX4_parishesFor 4 = .ok (.aload_n 0, 1) := by decide +kernel
theorem dX4_parishesFor_5 : decode cX4_parishesFor 5 = .ok (.getfield 9, 3) := by decide +kernel
theorem dX4_parishesFor_8 : decode cX4_parishesFor 8 = .ok (.arraylength, 1) := by decide +kernel
theorem dX4_parishesFor_9 : decode cX4_parishesFor 9 = .ok (.iconst 1, 1) := by decide +kernel
theorem dX4_parishesFor_10 : decode cX4_parishesFor 10 = .ok (.isub, 1) := by decide +kernel
theorem dX4_parishesFor_11 : decode cX4_parishesFor 11 = .ok (.invokestatic 34, 3) := by decide +kernel
theorem dX4_parishesFor_14 : decode cX4_parishesFor 14 = .ok (.istore 4, 2) := by decide +kernel
theorem dX4_parishesFor_16 : decode cX4_parishesFor 16 = .ok (.aload_n 0, 1) := by decide +kernel
theorem dX4_parishesFor_17 : decode cX4_parishesFor 17 = .ok (.getfield 9, 3) := by decide +kernel
theorem dX4_parishesFor_20 : decode cX4_parishesFor 20 = .ok (.iconst (-1), 1) := by decide +kernel
theorem dX4_parishesFor_21 : decode cX4_parishesFor 21 = .ok (.invokestatic 18, 3) := by decide +kernel
theorem dX4_parishesFor_24 : decode cX4_parishesFor 24 = .ok (.aload_n 0, 1) := by decide +kernel
theorem dX4_parishesFor_25 : decode cX4_parishesFor 25 = .ok (.getfield 9, 3) := by decide +kernel
theorem dX4_parishesFor_28 : decode cX4_parishesFor 28 = .ok (.iconst 0, 1) := by decide +kernel
theorem dX4_parishesFor_29 : decode cX4_parishesFor 29 = .ok (.iconst 0, 1) := by decide +kernel
theorem dX4_parishesFor_30 : decode cX4_parishesFor 30 = .ok (.iastore, 1) := by decide +kernel
theorem dX4_parishesFor_31 : decode cX4_parishesFor 31 = .ok (.aload_n 0, 1) := by decide +kernel
theorem dX4_parishesFor_32 : decode cX4_parishesFor 32 = .ok (.getfield 15, 3) := by decide +kernel
theorem dX4_parishesFor_35 : decode cX4_parishesFor 35 = .ok (.iconst 0, 1) := by decide +kernel
theorem dX4_parishesFor_36 : decode cX4_parishesFor 36 = .ok (.iconst 0, 1) := by decide +kernel
theorem dX4_parishesFor_37 : decode cX4_parishesFor 37 = .ok (.iastore, 1) := by decide +kernel
theorem dX4_parishesFor_38 : decode cX4_parishesFor 38 = .ok (.iconst 0, 1) := by decide +kernel
theorem dX4_parishesFor_39 : decode cX4_parishesFor 39 = .ok (.istore 5, 2) := by decide +kernel
theorem dX4_parishesFor_41 : decode cX4_parishesFor 41 = .ok (.iload 5, 2) := by decide +kernel
theorem dX4_parishesFor_43 : decode cX4_parishesFor 43 = .ok (.iload 4, 2) := by decide +kernel
theorem dX4_parishesFor_45 : decode cX4_parishesFor 45 = .ok (.if_icmp .ge 32, 3) := by decide +kernel
theorem dX4_parishesFor_48 : decode cX4_parishesFor 48 = .ok (.aload_n 0, 1) := by decide +kernel
theorem dX4_parishesFor_49 : decode cX4_parishesFor 49 = .ok (.getfield 15, 3) := by decide +kernel
theorem dX4_parishesFor_52 : decode cX4_parishesFor 52 = .ok (.iload 5, 2) := by decide +kernel
theorem dX4_parishesFor_54 : decode cX4_parishesFor 54 = .ok (.iconst 1, 1) := by decide +kernel
theorem dX4_parishesFor_55 : decode cX4_parishesFor 55 = .ok (.iadd, 1) := by decide +kernel
theorem dX4_parishesFor_56 : decode cX4_parishesFor 56 = .ok (.aload_n 0, 1) := by decide +kernel
theorem dX4_parishesFor_57 : decode cX4_parishesFor 57 = .ok (.getfield 15, 3) := by decide +kernel
theorem dX4_parishesFor_60 : decode cX4_parishesFor 60 = .ok (.iload 5, 2) := by decide +kernel
theorem dX4_parishesFor_62 : decode cX4_parishesFor 62 = .ok (.iaload, 1) := by decide +kernel
theorem dX4_parishesFor_63 : decode cX4_parishesFor 63 = .ok (.aload_n 1, 1) := by decide +kernel
theorem dX4_parishesFor_64 : decode cX4_parishesFor 64 = .ok (.iload 5, 2) := by decide +kernel
theorem dX4_parishesFor_66 : decode cX4_parishesFor 66 = .ok (.invokevirtual 30, 3) := by decide +kernel
theorem dX4_parishesFor_69 : decode cX4_parishesFor 69 = .ok (.iadd, 1) := by decide +kernel
theorem dX4_parishesFor_70 : decode cX4_parishesFor 70 = .ok (.iastore, 1) := by decide +kernel
theorem dX4_parishesFor_71 : decode cX4_parishesFor 71 = .ok (.iinc 5 1, 3) := by decide +kernel
theorem dX4_parishesFor_74 : decode cX4_parishesFor 74 = .ok (.goto (-33), 3) := by decide +kernel
theorem dX4_parishesFor_77 : decode cX4_parishesFor 77 = .ok (.iconst 0, 1) := by decide +kernel
theorem dX4_parishesFor_78 : decode cX4_parishesFor 78 = .ok (.istore 5, 2) := by decide +kernel
theorem dX4_parishesFor_80 : decode cX4_parishesFor 80 = .ok (.iload 5, 2) := by decide +kernel
theorem dX4_parishesFor_82 : decode cX4_parishesFor 82 = .ok (.iload_n 2, 1) := by decide +kernel
theorem dX4_parishesFor_83 : decode cX4_parishesFor 83 = .ok (.if_icmp .ge 38, 3) := by decide +kernel
theorem dX4_parishesFor_86 : decode cX4_parishesFor 86 = .ok (.iload 4, 2) := by decide +kernel
theorem dX4_parishesFor_88 : decode cX4_parishesFor 88 = .ok (.istore 6, 2) := by decide +kernel
theorem dX4_parishesFor_90 : decode cX4_parishesFor 90 = .ok (.iload 6, 2) := by decide +kernel
theorem dX4_parishesFor_92 : decode cX4_parishesFor 92 = .ok (.ifCond .lt 23, 3) := by decide +kernel
theorem dX4_parishesFor_95 : decode cX4_parishesFor 95 = .ok (.aload_n 0, 1) := by decide +kernel
theorem dX4_parishesFor_96 : decode cX4_parishesFor 96 = .ok (.getfield 9, 3) := by decide +kernel
theorem dX4_parishesFor_99 : decode cX4_parishesFor 99 = .ok (.iload 6, 2) := by decide +kernel
theorem dX4_parishesFor_101 : decode cX4_parishesFor 101 = .ok (.aload_n 0, 1) := by decide +kernel
theorem dX4_parishesFor_102 : decode cX4_parishesFor 102 = .ok (.iload 6, 2) := by decide +kernel
theorem dX4_parishesFor_104 : decode cX4_parishesFor 104 = .ok (.iload_n 3, 1) := by decide +kernel
theorem dX4_parishesFor_105 : decode cX4_parishesFor 105 = .ok (.invokevirtual 40, 3) := by decide +kernel
theorem dX4_parishesFor_108 : decode cX4_parishesFor 108 = .ok (.iastore, 1) := by decide +kernel
theorem dX4_parishesFor_109 : decode cX4_parishesFor 109 = .ok (.iinc 6 (-1), 3) := by decide +kernel
theorem dX4_parishesFor_112 : decode cX4_parishesFor 112 = .ok (.goto (-22), 3) := by decide +kernel
theorem dX4_parishesFor_115 : decode cX4_parishesFor 115 = .ok (.iinc 5 1, 3) := by decide +kernel
theorem dX4_parishesFor_118 : decode cX4_parishesFor 118 = .ok (.goto (-38), 3) := by decide +kernel
theorem dX4_parishesFor_121 : decode cX4_parishesFor 121 = .ok (.aload_n 0, 1) := by decide +kernel
theorem dX4_parishesFor_122 : decode cX4_parishesFor 122 = .ok (.getfield 9, 3) := by decide +kernel
theorem dX4_parishesFor_125 : decode cX4_parishesFor 125 = .ok (.iload 4, 2) := by decide +kernel
theorem dX4_parishesFor_127 : decode cX4_parishesFor 127 = .ok (.iaload, 1) := by decide +kernel
theorem dX4_parishesFor_128 : decode cX4_parishesFor 128 = .ok (.ireturn, 1) := by decide +kernel
theorem dX4_lastParish_0 : decode cX4_lastParish 0 = .ok (.iconst (-1), 1) := by decide +kernel
theorem dX4_lastParish_1 : decode cX4_lastParish 1 = .ok (.istore_n 3, 1) := by decide +kernel
theorem dX4_lastParish_2 : decode cX4_lastParish 2 = .ok (.iconst 0, 1) := by decide +kernel
theorem dX4_lastParish_3 : decode cX4_lastParish 3 = .ok (.istore 4, 2) := by decide +kernel
theorem dX4_lastParish_5 : decode cX4_lastParish 5 = .ok (.iload 4, 2) := by decide +kernel
theorem dX4_lastParish_7 : decode cX4_lastParish 7 = .ok (.iload_n 1, 1) := by decide +kernel
theorem dX4_lastParish_8 : decode cX4_lastParish 8 = .ok (.if_icmp .ge 98, 3) := by decide +kernel
theorem dX4_lastParish_11 : decode cX4_lastParish 11 = .ok (.iload_n 1, 1) := by decide +kernel
theorem dX4_lastParish_12 : decode cX4_lastParish 12 = .ok (.aload_n 0, 1) := by decide +kernel
theorem dX4_lastParish_13 : decode cX4_lastParish 13 = .ok (.getfield 9, 3) := by decide +kernel
theorem dX4_lastParish_16 : decode cX4_lastParish 16 = .ok (.arraylength, 1) := by decide +kernel
theorem dX4_lastParish_17 : decode cX4_lastParish 17 = .ok (.if_icmp .ge 89, 3) := by decide +kernel
theorem dX4_lastParish_20 : decode cX4_lastParish 20 = .ok (.aload_n 0, 1) := by decide +kernel
theorem dX4_lastParish_21 : decode cX4_lastParish 21 = .ok (.getfield 9, 3) := by decide +kernel
theorem dX4_lastParish_24 : decode cX4_lastParish 24 = .ok (.iload 4, 2) := by decide +kernel
theorem dX4_lastParish_26 : decode cX4_lastParish 26 = .ok (.iaload, 1) := by decide +kernel
theorem dX4_lastParish_27 : decode cX4_lastParish 27 = .ok (.iconst (-1), 1) := by decide +kernel
theorem dX4_lastParish_28 : decode cX4_lastParish 28 = .ok (.if_icmp .eq 72, 3) := by decide +kernel
theorem dX4_lastParish_31 : decode cX4_lastParish 31 = .ok (.iconst 2, 1) := by decide +kernel
theorem dX4_lastParish_32 : decode cX4_lastParish 32 = .ok (.aload_n 0, 1) := by decide +kernel
theorem dX4_lastParish_33 : decode cX4_lastParish 33 = .ok (.getfield 15, 3) := by decide +kernel
theorem dX4_lastParish_36 : decode cX4_lastParish 36 = .ok (.iload_n 1, 1) := by decide +kernel
theorem dX4_lastParish_37 : decode cX4_lastParish 37 = .ok (.iaload, 1) := by decide +kernel
theorem dX4_lastParish_38 : decode cX4_lastParish 38 = .ok (.aload_n 0, 1) := by decide +kernel
theorem dX4_lastParish_39 : decode cX4_lastParish 39 = .ok (.getfield 15, 3) := by decide +kernel
theorem dX4_lastParish_42 : decode cX4_lastParish 42 = .ok (.iload 4, 2) := by decide +kernel
theorem dX4_lastParish_44 : decode cX4_lastParish 44 = .ok (.iaload, 1) := by decide +kernel
theorem dX4_lastParish_45 : decode cX4_lastParish 45 = .ok (.isub, 1) := by decide +kernel
theorem dX4_lastParish_46 : decode cX4_lastParish 46 = .ok (.imul, 1) := by decide +kernel
theorem dX4_lastParish_47 : decode cX4_lastParish 47 = .ok (.iload_n 1, 1) := by decide +kernel
theorem dX4_lastParish_48 : decode cX4_lastParish 48 = .ok (.iload 4, 2) := by decide +kernel
theorem dX4_lastParish_50 : decode cX4_lastParish 50 = .ok (.isub, 1) := by decide +kernel
theorem dX4_lastParish_51 : decode cX4_lastParish 51 = .ok (.if_icmp .le 7, 3) := by decide +kernel
theorem dX4_lastParish_54 : decode cX4_lastParish 54 = .ok (.iconst 1, 1) := by decide +kernel
theorem dX4_lastParish_55 : decode cX4_lastParish 55 = .ok (.goto 4, 3) := by decide +kernel
theorem dX4_lastParish_58 : decode cX4_lastParish 58 = .ok (.iconst 0, 1) := by decide +kernel
theorem dX4_lastParish_59 : decode cX4_lastParish 59 = .ok (.istore 5, 2) := by decide +kernel
theorem dX4_lastParish_61 : decode cX4_lastParish 61 = .ok (.aload_n 0, 1) := by decide +kernel
theorem dX4_lastParish_62 : decode cX4_lastParish 62 = .ok (.getfield 9, 3) := by decide +kernel
theorem dX4_lastParish_65 : decode cX4_lastParish 65 = .ok (.iload 4, 2) := by decide +kernel
theorem dX4_lastParish_67 : decode cX4_lastParish 67 = .ok (.iaload, 1) := by decide +kernel
theorem dX4_lastParish_68 : decode cX4_lastParish 68 = .ok (.iload 5, 2) := by decide +kernel
theorem dX4_lastParish_70 : decode cX4_lastParish 70 = .ok (.iadd, 1) := by decide +kernel
theorem dX4_lastParish_71 : decode cX4_lastParish 71 = .ok (.istore 6, 2) := by decide +kernel
theorem dX4_lastParish_73 : decode cX4_lastParish 73 = .ok (.iload_n 3, 1) := by decide +kernel
theorem dX4_lastParish_74 : decode cX4_lastParish 74 = .ok (.iconst (-1), 1) := by decide +kernel
theorem dX4_lastParish_75 : decode cX4_lastParish 75 = .ok (.if_icmp .eq 22, 3) := by decide +kernel
theorem dX4_lastParish_78 : decode cX4_lastParish 78 = .ok (.iload_n 2, 1) := by decide +kernel
theorem dX4_lastParish_79 : decode cX4_lastParish 79 = .ok (.ifCond .eq 12, 3) := by decide +kernel
theorem dX4_lastParish_82 : decode cX4_lastParish 82 = .ok (.iload 6, 2) := by decide +kernel
theorem dX4_lastParish_84 : decode cX4_lastParish 84 = .ok (.iload_n 3, 1) := by decide +kernel
theorem dX4_lastParish_85 : decode cX4_lastParish 85 = .ok (.if_icmp .le 15, 3) := by decide +kernel
theorem dX4_lastParish_88 : decode cX4_lastParish 88 = .ok (.goto 9, 3) := by decide +kernel
theorem dX4_lastParish_91 : decode cX4_lastParish 91 = .ok (.iload 6, 2) := by decide +kernel
theorem dX4_lastParish_93 : decode cX4_lastParish 93 = .ok (.iload_n 3, 1) := by decide +kernel
theorem dX4_lastParish_94 : decode cX4_lastParish 94 = .ok (.if_icmp .ge 6, 3) := by decide +kernel
theorem dX4_lastParish_97 : decode cX4_lastParish 97 = .ok (.iload 6, 2) := by decide +kernel
theorem dX4_lastParish_99 : decode cX4_lastParish 99 = .ok (.istore_n 3, 1) := by decide +kernel
theorem dX4_lastParish_100 : decode cX4_lastParish 100 = .ok (.iinc 4 1, 3) := by decide +kernel
theorem dX4_lastParish_103 : decode cX4_lastParish 103 = .ok (.goto (-98), 3) := by decide +kernel
theorem dX4_lastParish_106 : decode cX4_lastParish 106 = .ok (.iload_n 3, 1) := by decide +kernel
theorem dX4_lastParish_107 : decode cX4_lastParish 107 = .ok (.ireturn, 1) := by decide +kernel
theorem dX4_middleOf_0 : decode cX4_middleOf 0 = .ok (.aload_n 1, 1) := by decide +kernel
theorem dX4_middleOf_1 : decode cX4_middleOf 1 = .ok (.getfield 24, 3) := by decide +kernel
theorem dX4_middleOf_4 : decode cX4_middleOf 4 = .ok (.iconst 1, 1) := by decide +kernel
theorem dX4_middleOf_5 : decode cX4_middleOf 5 = .ok (.iadd, 1) := by decide +kernel
theorem dX4_middleOf_6 : decode cX4_middleOf 6 = .ok (.iconst 2, 1) := by decide +kernel
theorem dX4_middleOf_7 : decode cX4_middleOf 7 = .ok (.idiv, 1) := by decide +kernel
theorem dX4_middleOf_8 : decode cX4_middleOf 8 = .ok (.istore_n 2, 1) := by decide +kernel
theorem dX4_middleOf_9 : decode cX4_middleOf 9 = .ok (.iload_n 2, 1) := by decide +kernel
theorem dX4_middleOf_10 : decode cX4_middleOf 10 = .ok (.ifCond .ne 5, 3) := by decide +kernel
theorem dX4_middleOf_13 : decode cX4_middleOf 13 = .ok (.iconst (-1), 1) := by decide +kernel
theorem dX4_middleOf_14 : decode cX4_middleOf 14 = .ok (.ireturn, 1) := by decide +kernel
theorem dX4_middleOf_15 : decode cX4_middleOf 15 = .ok (.iconst 0, 1) := by decide +kernel
theorem dX4_middleOf_16 : decode cX4_middleOf 16 = .ok (.istore_n 3, 1) := by decide +kernel
theorem dX4_middleOf_17 : decode cX4_middleOf 17 = .ok (.iload_n 3, 1) := by decide +kernel
theorem dX4_middleOf_18 : decode cX4_middleOf 18 = .ok (.bipush 99, 2) := by decide +kernel
theorem dX4_middleOf_20 : decode cX4_middleOf 20 = .ok (.if_icmp .gt 58, 3) := by decide +kernel
theorem dX4_middleOf_23 : decode cX4_middleOf 23 = .ok (.iconst 0, 1) := by decide +kernel
theorem dX4_middleOf_24 : decode cX4_middleOf 24 = .ok (.istore 4, 2) := by decide +kernel
theorem dX4_middleOf_26 : decode cX4_middleOf 26 = .ok (.iconst 0, 1) := by decide +kernel
theorem dX4_middleOf_27 : decode cX4_middleOf 27 = .ok (.istore 5, 2) := by decide +kernel
theorem dX4_middleOf_29 : decode cX4_middleOf 29 = .ok (.iload 5, 2) := by decide +kernel
theorem dX4_middleOf_31 : decode cX4_middleOf 31 = .ok (.aload_n 1, 1) := by decide +kernel
theorem dX4_middleOf_32 : decode cX4_middleOf 32 = .ok (.getfield 24, 3) := by decide +kernel
theorem dX4_middleOf_35 : decode cX4_middleOf 35 = .ok (.if_icmp .ge 29, 3) := by decide +kernel
theorem dX4_middleOf_38 : decode cX4_middleOf 38 = .ok (.iload 4, 2) := by decide +kernel
theorem dX4_middleOf_40 : decode cX4_middleOf 40 = .ok (.aload_n 1, 1) := by decide +kernel
theorem dX4_middleOf_41 : decode cX4_middleOf 41 = .ok (.iload 5, 2) := by decide +kernel
theorem dX4_middleOf_43 : decode cX4_middleOf 43 = .ok (.invokevirtual 30, 3) := by decide +kernel
theorem dX4_middleOf_46 : decode cX4_middleOf 46 = .ok (.iload_n 3, 1) := by decide +kernel
theorem dX4_middleOf_47 : decode cX4_middleOf 47 = .ok (.if_icmp .gt 7, 3) := by decide +kernel
theorem dX4_middleOf_50 : decode cX4_middleOf 50 = .ok (.iconst 1, 1) := by decide +kernel
theorem dX4_middleOf_51 : decode cX4_middleOf 51 = .ok (.goto 4, 3) := by decide +kernel
theorem dX4_middleOf_54 : decode cX4_middleOf 54 = .ok (.iconst 0, 1) := by decide +kernel
theorem dX4_middleOf_55 : decode cX4_middleOf 55 = .ok (.iadd, 1) := by decide +kernel
theorem dX4_middleOf_56 : decode cX4_middleOf 56 = .ok (.istore 4, 2) := by decide +kernel
theorem dX4_middleOf_58 : decode cX4_middleOf 58 = .ok (.iinc 5 1, 3) := by decide +kernel
theorem dX4_middleOf_61 : decode cX4_middleOf 61 = .ok (.goto (-32), 3) := by decide +kernel
theorem dX4_middleOf_64 : decode cX4_middleOf 64 = .ok (.iload 4, 2) := by decide +kernel
theorem dX4_middleOf_66 : decode cX4_middleOf 66 = .ok (.iload_n 2, 1) := by decide +kernel
theorem dX4_middleOf_67 : decode cX4_middleOf 67 = .ok (.if_icmp .lt 5, 3) := by decide +kernel
theorem dX4_middleOf_70 : decode cX4_middleOf 70 = .ok (.iload_n 3, 1) := by decide +kernel
theorem dX4_middleOf_71 : decode cX4_middleOf 71 = .ok (.ireturn, 1) := by decide +kernel
theorem dX4_middleOf_72 : decode cX4_middleOf 72 = .ok (.iinc 3 1, 3) := by decide +kernel
theorem dX4_middleOf_75 : decode cX4_middleOf 75 = .ok (.goto (-58), 3) := by decide +kernel
theorem dX4_middleOf_78 : decode cX4_middleOf 78 = .ok (.iconst (-1), 1) := by decide +kernel
theorem dX4_middleOf_79 : decode cX4_middleOf 79 = .ok (.ireturn, 1) := by decide +kernel
theorem dX4_farFromMiddle_0 : decode cX4_farFromMiddle 0 = .ok (.aload_n 0, 1) := by decide +kernel
theorem dX4_farFromMiddle_1 : decode cX4_farFromMiddle 1 = .ok (.aload_n 1, 1) := by decide +kernel
theorem dX4_farFromMiddle_2 : decode cX4_farFromMiddle 2 = .ok (.invokevirtual 44, 3) := by decide +kernel
theorem dX4_farFromMiddle_5 : decode cX4_farFromMiddle 5 = .ok (.istore_n 2, 1) := by decide +kernel
theorem dX4_farFromMiddle_6 : decode cX4_farFromMiddle 6 = .ok (.iconst 0, 1) := by decide +kernel
theorem dX4_farFromMiddle_7 : decode cX4_farFromMiddle 7 = .ok (.istore_n 3, 1) := by decide +kernel
theorem dX4_farFromMiddle_8 : decode cX4_farFromMiddle 8 = .ok (.iconst 0, 1) := by decide +kernel
theorem dX4_farFromMiddle_9 : decode cX4_farFromMiddle 9 = .ok (.istore 4, 2) := by decide +kernel
theorem dX4_farFromMiddle_11 : decode cX4_farFromMiddle 11 = .ok (.iload 4, 2) := by decide +kernel
theorem dX4_farFromMiddle_13 : decode cX4_farFromMiddle 13 = .ok (.aload_n 1, 1) := by decide +kernel
theorem dX4_farFromMiddle_14 : decode cX4_farFromMiddle 14 = .ok (.getfield 24, 3) := by decide +kernel
theorem dX4_farFromMiddle_17 : decode cX4_farFromMiddle 17 = .ok (.if_icmp .ge 23, 3) := by decide +kernel
theorem dX4_farFromMiddle_20 : decode cX4_farFromMiddle 20 = .ok (.iload_n 3, 1) := by decide +kernel
theorem dX4_farFromMiddle_21 : decode cX4_farFromMiddle 21 = .ok (.aload_n 1, 1) := by decide +kernel
theorem dX4_farFromMiddle_22 : decode cX4_farFromMiddle 22 = .ok (.iload 4, 2) := by decide +kernel
theorem dX4_farFromMiddle_24 : decode cX4_farFromMiddle 24 = .ok (.invokevirtual 30, 3) := by decide +kernel
theorem dX4_farFromMiddle_27 : decode cX4_farFromMiddle 27 = .ok (.iload_n 2, 1) := by decide +kernel
theorem dX4_farFromMiddle_28 : decode cX4_farFromMiddle 28 = .ok (.isub, 1) := by decide +kernel
theorem dX4_farFromMiddle_29 : decode cX4_farFromMiddle 29 = .ok (.invokestatic 48, 3) := by decide +kernel
theorem dX4_farFromMiddle_32 : decode cX4_farFromMiddle 32 = .ok (.iadd, 1) := by decide +kernel
theorem dX4_farFromMiddle_33 : decode cX4_farFromMiddle 33 = .ok (.istore_n 3, 1) := by decide +kernel
theorem dX4_farFromMiddle_34 : decode cX4_farFromMiddle 34 = .ok (.iinc 4 1, 3) := by decide +kernel
theorem dX4_farFromMiddle_37 : decode cX4_farFromMiddle 37 = .ok (.goto (-26), 3) := by decide +kernel
theorem dX4_farFromMiddle_40 : decode cX4_farFromMiddle 40 = .ok (.iload_n 3, 1) := by decide +kernel
theorem dX4_farFromMiddle_41 : decode cX4_farFromMiddle 41 = .ok (.ireturn, 1) := by decide +kernel
theorem dX4_moreThanHalf_0 : decode cX4_moreThanHalf 0 = .ok (.iconst 0, 1) := by decide +kernel
theorem dX4_moreThanHalf_1 : decode cX4_moreThanHalf 1 = .ok (.istore_n 2, 1) := by decide +kernel
theorem dX4_moreThanHalf_2 : decode cX4_moreThanHalf 2 = .ok (.iload_n 2, 1) := by decide +kernel
theorem dX4_moreThanHalf_3 : decode cX4_moreThanHalf 3 = .ok (.bipush 9, 2) := by decide +kernel
theorem dX4_moreThanHalf_5 : decode cX4_moreThanHalf 5 = .ok (.if_icmp .gt 25, 3) := by decide +kernel
theorem dX4_moreThanHalf_8 : decode cX4_moreThanHalf 8 = .ok (.iconst 2, 1) := by decide +kernel
theorem dX4_moreThanHalf_9 : decode cX4_moreThanHalf 9 = .ok (.aload_n 1, 1) := by decide +kernel
theorem dX4_moreThanHalf_10 : decode cX4_moreThanHalf 10 = .ok (.iload_n 2, 1) := by decide +kernel
theorem dX4_moreThanHalf_11 : decode cX4_moreThanHalf 11 = .ok (.invokestatic 51, 3) := by decide +kernel
theorem dX4_moreThanHalf_14 : decode cX4_moreThanHalf 14 = .ok (.imul, 1) := by decide +kernel
theorem dX4_moreThanHalf_15 : decode cX4_moreThanHalf 15 = .ok (.aload_n 1, 1) := by decide +kernel
theorem dX4_moreThanHalf_16 : decode cX4_moreThanHalf 16 = .ok (.getfield 24, 3) := by decide +kernel
theorem dX4_moreThanHalf_19 : decode cX4_moreThanHalf 19 = .ok (.if_icmp .le 5, 3) := by decide +kernel
theorem dX4_moreThanHalf_22 : decode cX4_moreThanHalf 22 = .ok (.iload_n 2, 1) := by decide +kernel
theorem dX4_moreThanHalf_23 : decode cX4_moreThanHalf 23 = .ok (.ireturn, 1) := by decide +kernel
theorem dX4_moreThanHalf_24 : decode cX4_moreThanHalf 24 = .ok (.iinc 2 1, 3) := by decide +kernel
theorem dX4_moreThanHalf_27 : decode cX4_moreThanHalf 27 = .ok (.goto (-25), 3) := by decide +kernel
theorem dX4_moreThanHalf_30 : decode cX4_moreThanHalf 30 = .ok (.iconst (-1), 1) := by decide +kernel
theorem dX4_moreThanHalf_31 : decode cX4_moreThanHalf 31 = .ok (.ireturn, 1) := by decide +kernel
theorem dX4_mostTold_0 : decode cX4_mostTold 0 = .ok (.iconst 0, 1) := by decide +kernel
theorem dX4_mostTold_1 : decode cX4_mostTold 1 = .ok (.istore_n 2, 1) := by decide +kernel
theorem dX4_mostTold_2 : decode cX4_mostTold 2 = .ok (.iconst 0, 1) := by decide +kernel
theorem dX4_mostTold_3 : decode cX4_mostTold 3 = .ok (.istore_n 3, 1) := by decide +kernel
theorem dX4_mostTold_4 : decode cX4_mostTold 4 = .ok (.iload_n 3, 1) := by decide +kernel
theorem dX4_mostTold_5 : decode cX4_mostTold 5 = .ok (.bipush 9, 2) := by decide +kernel
theorem dX4_mostTold_7 : decode cX4_mostTold 7 = .ok (.if_icmp .gt 19, 3) := by decide +kernel
theorem dX4_mostTold_10 : decode cX4_mostTold 10 = .ok (.iload_n 2, 1) := by decide +kernel
theorem dX4_mostTold_11 : decode cX4_mostTold 11 = .ok (.aload_n 1, 1) := by decide +kernel
theorem dX4_mostTold_12 : decode cX4_mostTold 12 = .ok (.iload_n 3, 1) := by decide +kernel
theorem dX4_mostTold_13 : decode cX4_mostTold 13 = .ok (.invokestatic 51, 3) := by decide +kernel
theorem dX4_mostTold_16 : decode cX4_mostTold 16 = .ok (.invokestatic 55, 3) := by decide +kernel
theorem dX4_mostTold_19 : decode cX4_mostTold 19 = .ok (.istore_n 2, 1) := by decide +kernel
theorem dX4_mostTold_20 : decode cX4_mostTold 20 = .ok (.iinc 3 1, 3) := by decide +kernel
theorem dX4_mostTold_23 : decode cX4_mostTold 23 = .ok (.goto (-19), 3) := by decide +kernel
theorem dX4_mostTold_26 : decode cX4_mostTold 26 = .ok (.iload_n 2, 1) := by decide +kernel
theorem dX4_mostTold_27 : decode cX4_mostTold 27 = .ok (.ireturn, 1) := by decide +kernel
theorem dX4_timesTold_0 : decode cX4_timesTold 0 = .ok (.iconst 0, 1) := by decide +kernel
theorem dX4_timesTold_1 : decode cX4_timesTold 1 = .ok (.istore_n 2, 1) := by decide +kernel
theorem dX4_timesTold_2 : decode cX4_timesTold 2 = .ok (.iconst 0, 1) := by decide +kernel
theorem dX4_timesTold_3 : decode cX4_timesTold 3 = .ok (.istore_n 3, 1) := by decide +kernel
theorem dX4_timesTold_4 : decode cX4_timesTold 4 = .ok (.iload_n 3, 1) := by decide +kernel
theorem dX4_timesTold_5 : decode cX4_timesTold 5 = .ok (.aload_n 0, 1) := by decide +kernel
theorem dX4_timesTold_6 : decode cX4_timesTold 6 = .ok (.getfield 24, 3) := by decide +kernel
theorem dX4_timesTold_9 : decode cX4_timesTold 9 = .ok (.if_icmp .ge 26, 3) := by decide +kernel
theorem dX4_timesTold_12 : decode cX4_timesTold 12 = .ok (.iload_n 2, 1) := by decide +kernel
theorem dX4_timesTold_13 : decode cX4_timesTold 13 = .ok (.aload_n 0, 1) := by decide +kernel
theorem dX4_timesTold_14 : decode cX4_timesTold 14 = .ok (.iload_n 3, 1) := by decide +kernel
theorem dX4_timesTold_15 : decode cX4_timesTold 15 = .ok (.invokevirtual 30, 3) := by decide +kernel
theorem dX4_timesTold_18 : decode cX4_timesTold 18 = .ok (.iload_n 1, 1) := by decide +kernel
theorem dX4_timesTold_19 : decode cX4_timesTold 19 = .ok (.if_icmp .ne 7, 3) := by decide +kernel
theorem dX4_timesTold_22 : decode cX4_timesTold 22 = .ok (.iconst 1, 1) := by decide +kernel
theorem dX4_timesTold_23 : decode cX4_timesTold 23 = .ok (.goto 4, 3) := by decide +kernel
theorem dX4_timesTold_26 : decode cX4_timesTold 26 = .ok (.iconst 0, 1) := by decide +kernel
theorem dX4_timesTold_27 : decode cX4_timesTold 27 = .ok (.iadd, 1) := by decide +kernel
theorem dX4_timesTold_28 : decode cX4_timesTold 28 = .ok (.istore_n 2, 1) := by decide +kernel
theorem dX4_timesTold_29 : decode cX4_timesTold 29 = .ok (.iinc 3 1, 3) := by decide +kernel
theorem dX4_timesTold_32 : decode cX4_timesTold 32 = .ok (.goto (-28), 3) := by decide +kernel
theorem dX4_timesTold_35 : decode cX4_timesTold 35 = .ok (.iload_n 2, 1) := by decide +kernel
theorem dX4_timesTold_36 : decode cX4_timesTold 36 = .ok (.ireturn, 1) := by decide +kernel
theorem dX4_sums_0 : decode cX4_sums 0 = .ok (.aload_n 0, 1) := by decide +kernel
theorem dX4_sums_1 : decode cX4_sums 1 = .ok (.getfield 9, 3) := by decide +kernel
theorem dX4_sums_4 : decode cX4_sums 4 = .ok (.iconst 0, 1) := by decide +kernel
theorem dX4_sums_5 : decode cX4_sums 5 = .ok (.invokestatic 18, 3) := by decide +kernel
theorem dX4_sums_8 : decode cX4_sums 8 = .ok (.aload_n 0, 1) := by decide +kernel
theorem dX4_sums_9 : decode cX4_sums 9 = .ok (.getfield 9, 3) := by decide +kernel
theorem dX4_sums_12 : decode cX4_sums 12 = .ok (.iconst 0, 1) := by decide +kernel
theorem dX4_sums_13 : decode cX4_sums 13 = .ok (.iconst 1, 1) := by decide +kernel
theorem dX4_sums_14 : decode cX4_sums 14 = .ok (.iastore, 1) := by decide +kernel
theorem dX4_sums_15 : decode cX4_sums 15 = .ok (.iconst 0, 1) := by decide +kernel
theorem dX4_sums_16 : decode cX4_sums 16 = .ok (.istore 4, 2) := by decide +kernel
theorem dX4_sums_18 : decode cX4_sums 18 = .ok (.iload 4, 2) := by decide +kernel
theorem dX4_sums_20 : decode cX4_sums 20 = .ok (.aload_n 1, 1) := by decide +kernel
theorem dX4_sums_21 : decode cX4_sums 21 = .ok (.getfield 24, 3) := by decide +kernel
theorem dX4_sums_24 : decode cX4_sums 24 = .ok (.if_icmp .ge 63, 3) := by decide +kernel
theorem dX4_sums_27 : decode cX4_sums 27 = .ok (.aload_n 1, 1) := by decide +kernel
theorem dX4_sums_28 : decode cX4_sums 28 = .ok (.iload 4, 2) := by decide +kernel
theorem dX4_sums_30 : decode cX4_sums 30 = .ok (.invokevirtual 30, 3) := by decide +kernel
theorem dX4_sums_33 : decode cX4_sums 33 = .ok (.iconst 1, 1) := by decide +kernel
theorem dX4_sums_34 : decode cX4_sums 34 = .ok (.invokestatic 55, 3) := by decide +kernel
theorem dX4_sums_37 : decode cX4_sums 37 = .ok (.istore 5, 2) := by decide +kernel
theorem dX4_sums_39 : decode cX4_sums 39 = .ok (.aload_n 0, 1) := by decide +kernel
theorem dX4_sums_40 : decode cX4_sums 40 = .ok (.getfield 9, 3) := by decide +kernel
theorem dX4_sums_43 : decode cX4_sums 43 = .ok (.arraylength, 1) := by decide +kernel
theorem dX4_sums_44 : decode cX4_sums 44 = .ok (.iconst 1, 1) := by decide +kernel
theorem dX4_sums_45 : decode cX4_sums 45 = .ok (.isub, 1) := by decide +kernel
theorem dX4_sums_46 : decode cX4_sums 46 = .ok (.istore 6, 2) := by decide +kernel
theorem dX4_sums_48 : decode cX4_sums 48 = .ok (.iload 6, 2) := by decide +kernel
theorem dX4_sums_50 : decode cX4_sums 50 = .ok (.iload 5, 2) := by decide +kernel
theorem dX4_sums_52 : decode cX4_sums 52 = .ok (.if_icmp .lt 29, 3) := by decide +kernel
theorem dX4_sums_55 : decode cX4_sums 55 = .ok (.aload_n 0, 1) := by decide +kernel
theorem dX4_sums_56 : decode cX4_sums 56 = .ok (.getfield 9, 3) := by decide +kernel
theorem dX4_sums_59 : decode cX4_sums 59 = .ok (.iload 6, 2) := by decide +kernel
theorem dX4_sums_61 : decode cX4_sums 61 = .ok (.dup2, 1) := by decide +kernel
theorem dX4_sums_62 : decode cX4_sums 62 = .ok (.iaload, 1) := by decide +kernel
theorem dX4_sums_63 : decode cX4_sums 63 = .ok (.aload_n 0, 1) := by decide +kernel
theorem dX4_sums_64 : decode cX4_sums 64 = .ok (.getfield 9, 3) := by decide +kernel
theorem dX4_sums_67 : decode cX4_sums 67 = .ok (.iload 6, 2) := by decide +kernel
theorem dX4_sums_69 : decode cX4_sums 69 = .ok (.iload 5, 2) := by decide +kernel
theorem dX4_sums_71 : decode cX4_sums 71 = .ok (.isub, 1) := by decide +kernel
theorem dX4_sums_72 : decode cX4_sums 72 = .ok (.iaload, 1) := by decide +kernel
theorem dX4_sums_73 : decode cX4_sums 73 = .ok (.ior, 1) := by decide +kernel
theorem dX4_sums_74 : decode cX4_sums 74 = .ok (.iastore, 1) := by decide +kernel
theorem dX4_sums_75 : decode cX4_sums 75 = .ok (.iinc 6 (-1), 3) := by decide +kernel
theorem dX4_sums_78 : decode cX4_sums 78 = .ok (.goto (-30), 3) := by decide +kernel
theorem dX4_sums_81 : decode cX4_sums 81 = .ok (.iinc 4 1, 3) := by decide +kernel
theorem dX4_sums_84 : decode cX4_sums 84 = .ok (.goto (-66), 3) := by decide +kernel

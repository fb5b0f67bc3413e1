theorem dX0_init_0 : decode cX0_init 0 = .ok (.aload_n 0, 1) := by decide +kernel
theorem dX0_init_1 : decode cX0_init 1 = .ok (.invokespecial 3, 3) := by decide +kernel
theorem dX0_init_4 : decode cX0_init 4 = .ok (.aload_n 0, 1) := by decide +kernel
theorem dX0_init_5 : decode cX0_init 5 = .ok (.bipush 8, 2) := by decide +kernel
theorem dX0_init_7 : decode cX0_init 7 = .ok (.newarray .int, 2) := by decide +kernel
theorem dX0_init_9 : decode cX0_init 9 = .ok (.putfield 9, 3) := by decide +kernel
theorem dX0_init_12 : decode cX0_init 12 = .ok (.aload_n 0, 1) := by decide +kernel
theorem dX0_init_13 : decode cX0_init 13 = .ok (.bipush 8, 2) := by decide +kernel
theorem dX0_init_15 : decode cX0_init 15 = .ok (.newarray .int, 2) := by decide +kernel
theorem dX0_init_17 : decode cX0_init 17 = .ok (.putfield 15, 3) := by decide +kernel
theorem dX0_init_20 : decode cX0_init 20 = .ok (.aload_n 0, 1) := by decide +kernel
theorem dX0_init_21 : decode cX0_init 21 = .ok (.bipush 8, 2) := by decide +kernel
theorem dX0_init_23 : decode cX0_init 23 = .ok (.newarray .int, 2) := by decide +kernel
theorem dX0_init_25 : decode cX0_init 25 = .ok (.putfield 18, 3) := by decide +kernel
theorem dX0_init_28 : decode cX0_init 28 = .ok (.aload_n 0, 1) := by decide +kernel
theorem dX0_init_29 : decode cX0_init 29 = .ok (.bipush 8, 2) := by decide +kernel
theorem dX0_init_31 : decode cX0_init 31 = .ok (.newarray .int, 2) := by decide +kernel
theorem dX0_init_33 : decode cX0_init 33 = .ok (.putfield 21, 3) := by decide +kernel
theorem dX0_init_36 : decode cX0_init 36 = .ok (.return_, 1) := by decide +kernel
theorem dX0_settle_0 : decode cX0_settle 0 = .ok (.iconst 0, 1) := by decide +kernel
theorem dX0_settle_1 : decode cX0_settle 1 = .ok (.istore 5, 2) := by decide +kernel
theorem dX0_settle_3 : decode cX0_settle 3 = .ok (.iload 5, 2) := by decide +kernel
theorem dX0_settle_5 : decode cX0_settle 5 = .ok (.bipush 8, 2) := by decide +kernel
theorem dX0_settle_7 : decode cX0_settle 7 = .ok (.if_icmp .ge 33, 3) := by decide +kernel
theorem dX0_settle_10 : decode cX0_settle 10 = .ok (.aload_n 0, 1) := by decide +kernel
theorem dX0_settle_11 : decode cX0_settle 11 = .ok (.getfield 9, 3) := by decide +kernel
theorem dX0_settle_14 : decode cX0_settle 14 = .ok (.iload 5, 2) := by decide +kernel
theorem dX0_settle_16 : decode cX0_settle 16 = .ok (.iconst 0, 1) := by decide +kernel
theorem dX0_settle_17 : decode cX0_settle 17 = .ok (.iastore, 1) := by decide +kernel
theorem dX0_settle_18 : decode cX0_settle 18 = .ok (.aload_n 0, 1) := by decide +kernel
theorem dX0_settle_19 : decode cX0_settle 19 = .ok (.getfield 15, 3) := by decide +kernel
theorem dX0_settle_22 : decode cX0_settle 22 = .ok (.iload 5, 2) := by decide +kernel
theorem dX0_settle_24 : decode cX0_settle 24 = .ok (.iconst (-1), 1) := by decide +kernel
theorem dX0_settle_25 : decode cX0_settle 25 = .ok (.iastore, 1) := by decide +kernel
theorem dX0_settle_26 : decode cX0_settle 26 = .ok (.aload_n 0, 1) := by decide +kernel
theorem dX0_settle_27 : decode cX0_settle 27 = .ok (.getfield 18, 3) := by decide +kernel
theorem dX0_settle_30 : decode cX0_settle 30 = .ok (.iload 5, 2) := by decide +kernel
theorem dX0_settle_32 : decode cX0_settle 32 = .ok (.iconst (-1), 1) := by decide +kernel
theorem dX0_settle_33 : decode cX0_settle 33 = .ok (.iastore, 1) := by decide +kernel
theorem dX0_settle_34 : decode cX0_settle 34 = .ok (.iinc 5 1, 3) := by decide +kernel
theorem dX0_settle_37 : decode cX0_settle 37 = .ok (.goto (-34), 3) := by decide +kernel
theorem dX0_settle_40 : decode cX0_settle 40 = .ok (.iconst 0, 1) := by decide +kernel
theorem dX0_settle_41 : decode cX0_settle 41 = .ok (.istore 5, 2) := by decide +kernel
theorem dX0_settle_43 : decode cX0_settle 43 = .ok (.iload 5, 2) := by decide +kernel
theorem dX0_settle_45 : decode cX0_settle 45 = .ok (.aload_n 3, 1) := by decide +kernel
theorem dX0_settle_46 : decode cX0_settle 46 = .ok (.getfield 24, 3) := by decide +kernel
theorem dX0_settle_49 : decode cX0_settle 49 = .ok (.if_icmp .ge 78, 3) := by decide +kernel
theorem dX0_settle_52 : decode cX0_settle 52 = .ok (.aload_n 2, 1) := by decide +kernel
theorem dX0_settle_53 : decode cX0_settle 53 = .ok (.iload 5, 2) := by decide +kernel
theorem dX0_settle_55 : decode cX0_settle 55 = .ok (.aaload, 1) := by decide +kernel
theorem dX0_settle_56 : decode cX0_settle 56 = .ok (.astore 6, 2) := by decide +kernel
theorem dX0_settle_58 : decode cX0_settle 58 = .ok (.aload 6, 2) := by decide +kernel
theorem dX0_settle_60 : decode cX0_settle 60 = .ok (.ifnull 61, 3) := by decide +kernel
theorem dX0_settle_63 : decode cX0_settle 63 = .ok (.aload_n 3, 1) := by decide +kernel
theorem dX0_settle_64 : decode cX0_settle 64 = .ok (.aload 6, 2) := by decide +kernel
theorem dX0_settle_66 : decode cX0_settle 66 = .ok (.iload 5, 2) := by decide +kernel
theorem dX0_settle_68 : decode cX0_settle 68 = .ok (.invokevirtual 30, 3) := by decide +kernel
theorem dX0_settle_71 : decode cX0_settle 71 = .ok (.ifCond .eq 50, 3) := by decide +kernel
theorem dX0_settle_74 : decode cX0_settle 74 = .ok (.aload_n 1, 1) := by decide +kernel
theorem dX0_settle_75 : decode cX0_settle 75 = .ok (.aload 6, 2) := by decide +kernel
theorem dX0_settle_77 : decode cX0_settle 77 = .ok (.getfield 34, 3) := by decide +kernel
theorem dX0_settle_80 : decode cX0_settle 80 = .ok (.aload 6, 2) := by decide +kernel
theorem dX0_settle_82 : decode cX0_settle 82 = .ok (.aload_n 3, 1) := by decide +kernel
theorem dX0_settle_83 : decode cX0_settle 83 = .ok (.getfield 39, 3) := by decide +kernel
theorem dX0_settle_86 : decode cX0_settle 86 = .ok (.iload 5, 2) := by decide +kernel
theorem dX0_settle_88 : decode cX0_settle 88 = .ok (.iaload, 1) := by decide +kernel
theorem dX0_settle_89 : decode cX0_settle 89 = .ok (.invokevirtual 42, 3) := by decide +kernel
theorem dX0_settle_92 : decode cX0_settle 92 = .ok (.aload 6, 2) := by decide +kernel
theorem dX0_settle_94 : decode cX0_settle 94 = .ok (.invokevirtual 46, 3) := by decide +kernel
theorem dX0_settle_97 : decode cX0_settle 97 = .ok (.aload_n 3, 1) := by decide +kernel
theorem dX0_settle_98 : decode cX0_settle 98 = .ok (.getfield 50, 3) := by decide +kernel
theorem dX0_settle_101 : decode cX0_settle 101 = .ok (.iload 4, 2) := by decide +kernel
theorem dX0_settle_103 : decode cX0_settle 103 = .ok (.aload_n 0, 1) := by decide +kernel
theorem dX0_settle_104 : decode cX0_settle 104 = .ok (.getfield 21, 3) := by decide +kernel
theorem dX0_settle_107 : decode cX0_settle 107 = .ok (.invokevirtual 53, 3) := by decide +kernel
theorem dX0_settle_110 : decode cX0_settle 110 = .ok (.aload_n 0, 1) := by decide +kernel
theorem dX0_settle_111 : decode cX0_settle 111 = .ok (.aload 6, 2) := by decide +kernel
theorem dX0_settle_113 : decode cX0_settle 113 = .ok (.getfield 59, 3) := by decide +kernel
theorem dX0_settle_116 : decode cX0_settle 116 = .ok (.iload 5, 2) := by decide +kernel
theorem dX0_settle_118 : decode cX0_settle 118 = .ok (.invokevirtual 62, 3) := by decide +kernel
theorem dX0_settle_121 : decode cX0_settle 121 = .ok (.iinc 5 1, 3) := by decide +kernel
theorem dX0_settle_124 : decode cX0_settle 124 = .ok (.goto (-81), 3) := by decide +kernel
theorem dX0_settle_127 : decode cX0_settle 127 = .ok (.return_, 1) := by decide +kernel
theorem dX0_mingle_0 : decode cX0_mingle 0 = .ok (.iconst 0, 1) := by decide +kernel
theorem dX0_mingle_1 : decode cX0_mingle 1 = .ok (.istore_n 3, 1) := by decide +kernel
theorem dX0_mingle_2 : decode cX0_mingle 2 = .ok (.iload_n 3, 1) := by decide +kernel
theorem dX0_mingle_3 : decode cX0_mingle 3 = .ok (.bipush 8, 2) := by decide +kernel
theorem dX0_mingle_5 : decode cX0_mingle 5 = .ok (.if_icmp .ge 50, 3) := by decide +kernel
theorem dX0_mingle_8 : decode cX0_mingle 8 = .ok (.aload_n 0, 1) := by decide +kernel
theorem dX0_mingle_9 : decode cX0_mingle 9 = .ok (.getfield 21, 3) := by decide +kernel
theorem dX0_mingle_12 : decode cX0_mingle 12 = .ok (.iload_n 3, 1) := by decide +kernel
theorem dX0_mingle_13 : decode cX0_mingle 13 = .ok (.iaload, 1) := by decide +kernel
theorem dX0_mingle_14 : decode cX0_mingle 14 = .ok (.aload_n 0, 1) := by decide +kernel
theorem dX0_mingle_15 : decode cX0_mingle 15 = .ok (.getfield 9, 3) := by decide +kernel
theorem dX0_mingle_18 : decode cX0_mingle 18 = .ok (.iload_n 3, 1) := by decide +kernel
theorem dX0_mingle_19 : decode cX0_mingle 19 = .ok (.iaload, 1) := by decide +kernel
theorem dX0_mingle_20 : decode cX0_mingle 20 = .ok (.if_icmp .le 29, 3) := by decide +kernel
theorem dX0_mingle_23 : decode cX0_mingle 23 = .ok (.aload_n 0, 1) := by decide +kernel
theorem dX0_mingle_24 : decode cX0_mingle 24 = .ok (.getfield 9, 3) := by decide +kernel
theorem dX0_mingle_27 : decode cX0_mingle 27 = .ok (.iload_n 3, 1) := by decide +kernel
theorem dX0_mingle_28 : decode cX0_mingle 28 = .ok (.aload_n 0, 1) := by decide +kernel
theorem dX0_mingle_29 : decode cX0_mingle 29 = .ok (.getfield 21, 3) := by decide +kernel
theorem dX0_mingle_32 : decode cX0_mingle 32 = .ok (.iload_n 3, 1) := by decide +kernel
theorem dX0_mingle_33 : decode cX0_mingle 33 = .ok (.iaload, 1) := by decide +kernel
theorem dX0_mingle_34 : decode cX0_mingle 34 = .ok (.iastore, 1) := by decide +kernel
theorem dX0_mingle_35 : decode cX0_mingle 35 = .ok (.aload_n 0, 1) := by decide +kernel
theorem dX0_mingle_36 : decode cX0_mingle 36 = .ok (.getfield 15, 3) := by decide +kernel
theorem dX0_mingle_39 : decode cX0_mingle 39 = .ok (.iload_n 3, 1) := by decide +kernel
theorem dX0_mingle_40 : decode cX0_mingle 40 = .ok (.iload_n 2, 1) := by decide +kernel
theorem dX0_mingle_41 : decode cX0_mingle 41 = .ok (.iastore, 1) := by decide +kernel
theorem dX0_mingle_42 : decode cX0_mingle 42 = .ok (.aload_n 0, 1) := by decide +kernel
theorem dX0_mingle_43 : decode cX0_mingle 43 = .ok (.getfield 18, 3) := by decide +kernel
theorem dX0_mingle_46 : decode cX0_mingle 46 = .ok (.iload_n 3, 1) := by decide +kernel
theorem dX0_mingle_47 : decode cX0_mingle 47 = .ok (.iload_n 1, 1) := by decide +kernel
theorem dX0_mingle_48 : decode cX0_mingle 48 = .ok (.iastore, 1) := by decide +kernel
theorem dX0_mingle_49 : decode cX0_mingle 49 = .ok (.iinc 3 1, 3) := by decide +kernel
theorem dX0_mingle_52 : decode cX0_mingle 52 = .ok (.goto (-50), 3) := by decide +kernel
theorem dX0_mingle_55 : decode cX0_mingle 55 = .ok (.return_, 1) := by decide +kernel
theorem dX0_countBorders_0 : decode cX0_countBorders 0 = .ok (.iconst 0, 1) := by decide +kernel
theorem dX0_countBorders_1 : decode cX0_countBorders 1 = .ok (.istore_n 1, 1) := by decide +kernel
theorem dX0_countBorders_2 : decode cX0_countBorders 2 = .ok (.iconst 0, 1) := by decide +kernel
theorem dX0_countBorders_3 : decode cX0_countBorders 3 = .ok (.istore_n 2, 1) := by decide +kernel
theorem dX0_countBorders_4 : decode cX0_countBorders 4 = .ok (.iload_n 2, 1) := by decide +kernel
theorem dX0_countBorders_5 : decode cX0_countBorders 5 = .ok (.bipush 8, 2) := by decide +kernel
theorem dX0_countBorders_7 : decode cX0_countBorders 7 = .ok (.if_icmp .ge 41, 3) := by decide +kernel
theorem dX0_countBorders_10 : decode cX0_countBorders 10 = .ok (.aload_n 0, 1) := by decide +kernel
theorem dX0_countBorders_11 : decode cX0_countBorders 11 = .ok (.iload_n 2, 1) := by decide +kernel
theorem dX0_countBorders_12 : decode cX0_countBorders 12 = .ok (.iload_n 2, 1) := by decide +kernel
theorem dX0_countBorders_13 : decode cX0_countBorders 13 = .ok (.iconst 1, 1) := by decide +kernel
theorem dX0_countBorders_14 : decode cX0_countBorders 14 = .ok (.invokestatic 66, 3) := by decide +kernel
theorem dX0_countBorders_17 : decode cX0_countBorders 17 = .ok (.invokevirtual 70, 3) := by decide +kernel
theorem dX0_countBorders_20 : decode cX0_countBorders 20 = .ok (.ifCond .eq 6, 3) := by decide +kernel
theorem dX0_countBorders_23 : decode cX0_countBorders 23 = .ok (.iinc 1 1, 3) := by decide +kernel
theorem dX0_countBorders_26 : decode cX0_countBorders 26 = .ok (.aload_n 0, 1) := by decide +kernel
theorem dX0_countBorders_27 : decode cX0_countBorders 27 = .ok (.iload_n 2, 1) := by decide +kernel
theorem dX0_countBorders_28 : decode cX0_countBorders 28 = .ok (.iload_n 2, 1) := by decide +kernel
theorem dX0_countBorders_29 : decode cX0_countBorders 29 = .ok (.iconst 3, 1) := by decide +kernel
theorem dX0_countBorders_30 : decode cX0_countBorders 30 = .ok (.invokestatic 66, 3) := by decide +kernel
theorem dX0_countBorders_33 : decode cX0_countBorders 33 = .ok (.invokevirtual 70, 3) := by decide +kernel
theorem dX0_countBorders_36 : decode cX0_countBorders 36 = .ok (.ifCond .eq 6, 3) := by decide +kernel
theorem dX0_countBorders_39 : decode cX0_countBorders 39 = .ok (.iinc 1 1, 3) := by decide +kernel
theorem dX0_countBorders_42 : decode cX0_countBorders 42 = .ok (.iinc 2 1, 3) := by decide +kernel
theorem dX0_countBorders_45 : decode cX0_countBorders 45 = .ok (.goto (-41), 3) := by decide +kernel
theorem dX0_countBorders_48 : decode cX0_countBorders 48 = .ok (.iload_n 1, 1) := by decide +kernel
theorem dX0_countBorders_49 : decode cX0_countBorders 49 = .ok (.ireturn, 1) := by decide +kernel
theorem dX0_isBorder_0 : decode cX0_isBorder 0 = .ok (.iload_n 2, 1) := by decide +kernel
theorem dX0_isBorder_1 : decode cX0_isBorder 1 = .ok (.iconst (-1), 1) := by decide +kernel
theorem dX0_isBorder_2 : decode cX0_isBorder 2 = .ok (.if_icmp .eq 23, 3) := by decide +kernel
theorem dX0_isBorder_5 : decode cX0_isBorder 5 = .ok (.aload_n 0, 1) := by decide +kernel
theorem dX0_isBorder_6 : decode cX0_isBorder 6 = .ok (.getfield 18, 3) := by decide +kernel
theorem dX0_isBorder_9 : decode cX0_isBorder 9 = .ok (.iload_n 1, 1) := by decide +kernel
theorem dX0_isBorder_10 : decode cX0_isBorder 10 = .ok (.iaload, 1) := by decide +kernel
theorem dX0_isBorder_11 : decode cX0_isBorder 11 = .ok (.iconst (-1), 1) := by decide +kernel
theorem dX0_isBorder_12 : decode cX0_isBorder 12 = .ok (.if_icmp .eq 13, 3) := by decide +kernel
theorem dX0_isBorder_15 : decode cX0_isBorder 15 = .ok (.aload_n 0, 1) := by decide +kernel
theorem dX0_isBorder_16 : decode cX0_isBorder 16 = .ok (.getfield 18, 3) := by decide +kernel
theorem dX0_isBorder_19 : decode cX0_isBorder 19 = .ok (.iload_n 2, 1) := by decide +kernel
theorem dX0_isBorder_20 : decode cX0_isBorder 20 = .ok (.iaload, 1) := by decide +kernel
theorem dX0_isBorder_21 : decode cX0_isBorder 21 = .ok (.iconst (-1), 1) := by decide +kernel
theorem dX0_isBorder_22 : decode cX0_isBorder 22 = .ok (.if_icmp .ne 5, 3) := by decide +kernel
theorem dX0_isBorder_25 : decode cX0_isBorder 25 = .ok (.iconst 0, 1) := by decide +kernel
theorem dX0_isBorder_26 : decode cX0_isBorder 26 = .ok (.ireturn, 1) := by decide +kernel
theorem dX0_isBorder_27 : decode cX0_isBorder 27 = .ok (.aload_n 0, 1) := by decide +kernel
theorem dX0_isBorder_28 : decode cX0_isBorder 28 = .ok (.getfield 18, 3) := by decide +kernel
theorem dX0_isBorder_31 : decode cX0_isBorder 31 = .ok (.iload_n 1, 1) := by decide +kernel
theorem dX0_isBorder_32 : decode cX0_isBorder 32 = .ok (.iaload, 1) := by decide +kernel
theorem dX0_isBorder_33 : decode cX0_isBorder 33 = .ok (.aload_n 0, 1) := by decide +kernel
theorem dX0_isBorder_34 : decode cX0_isBorder 34 = .ok (.getfield 18, 3) := by decide +kernel
theorem dX0_isBorder_37 : decode cX0_isBorder 37 = .ok (.iload_n 2, 1) := by decide +kernel
theorem dX0_isBorder_38 : decode cX0_isBorder 38 = .ok (.iaload, 1) := by decide +kernel
theorem dX0_isBorder_39 : decode cX0_isBorder 39 = .ok (.if_icmp .eq 7, 3) := by decide +kernel
theorem dX0_isBorder_42 : decode cX0_isBorder 42 = .ok (.iconst 1, 1) := by decide +kernel
theorem dX0_isBorder_43 : decode cX0_isBorder 43 = .ok (.goto 4, 3) := by decide +kernel
theorem dX0_isBorder_46 : decode cX0_isBorder 46 = .ok (.iconst 0, 1) := by decide +kernel
theorem dX0_isBorder_47 : decode cX0_isBorder 47 = .ok (.ireturn, 1) := by decide +kernel
theorem dX0_countOwned_0 : decode cX0_countOwned 0 = .ok (.iconst 0, 1) := by decide +kernel
theorem dX0_countOwned_1 : decode cX0_countOwned 1 = .ok (.istore_n 1, 1) := by decide +kernel
theorem dX0_countOwned_2 : decode cX0_countOwned 2 = .ok (.iconst 0, 1) := by decide +kernel
theorem dX0_countOwned_3 : decode cX0_countOwned 3 = .ok (.istore_n 2, 1) := by decide +kernel
theorem dX0_countOwned_4 : decode cX0_countOwned 4 = .ok (.iload_n 2, 1) := by decide +kernel
theorem dX0_countOwned_5 : decode cX0_countOwned 5 = .ok (.bipush 8, 2) := by decide +kernel
theorem dX0_countOwned_7 : decode cX0_countOwned 7 = .ok (.if_icmp .ge 22, 3) := by decide +kernel
theorem dX0_countOwned_10 : decode cX0_countOwned 10 = .ok (.aload_n 0, 1) := by decide +kernel
theorem dX0_countOwned_11 : decode cX0_countOwned 11 = .ok (.getfield 18, 3) := by decide +kernel
theorem dX0_countOwned_14 : decode cX0_countOwned 14 = .ok (.iload_n 2, 1) := by decide +kernel
theorem dX0_countOwned_15 : decode cX0_countOwned 15 = .ok (.iaload, 1) := by decide +kernel
theorem dX0_countOwned_16 : decode cX0_countOwned 16 = .ok (.iconst (-1), 1) := by decide +kernel
theorem dX0_countOwned_17 : decode cX0_countOwned 17 = .ok (.if_icmp .eq 6, 3) := by decide +kernel
theorem dX0_countOwned_20 : decode cX0_countOwned 20 = .ok (.iinc 1 1, 3) := by decide +kernel
theorem dX0_countOwned_23 : decode cX0_countOwned 23 = .ok (.iinc 2 1, 3) := by decide +kernel
theorem dX0_countOwned_26 : decode cX0_countOwned 26 = .ok (.goto (-22), 3) := by decide +kernel
theorem dX0_countOwned_29 : decode cX0_countOwned 29 = .ok (.iload_n 1, 1) := by decide +kernel
theorem dX0_countOwned_30 : decode cX0_countOwned 30 = .ok (.ireturn, 1) := by decide +kernel
theorem dX1_init_0 : decode cX1_init 0 = .ok (.aload_n 0, 1) := by decide +kernel
theorem dX1_init_1 : decode cX1_init 1 = .ok (.iload_n 1, 1) := by decide +kernel
theorem dX1_init_2 : decode cX1_init 2 = .ok (.iload_n 2, 1) := by decide +kernel
theorem dX1_init_3 : decode cX1_init 3 = .ok (.iload_n 3, 1) := by decide +kernel
theorem dX1_init_4 : decode cX1_init 4 = .ok (.invokespecial 3, 3) := by decide +kernel
theorem dX1_init_7 : decode cX1_init 7 = .ok (.return_, 1) := by decide +kernel
theorem dX1_kindNumber_0 : decode cX1_kindNumber 0 = .ok (.iconst 1, 1) := by decide +kernel
theorem dX1_kindNumber_1 : decode cX1_kindNumber 1 = .ok (.ireturn, 1) := by decide +kernel
theorem dX1_force_0 : decode cX1_force 0 = .ok (.aload_n 0, 1) := by decide +kernel
theorem dX1_force_1 : decode cX1_force 1 = .ok (.getfield 9, 3) := by decide +kernel
theorem dX1_force_4 : decode cX1_force 4 = .ok (.iload_n 1, 1) := by decide +kernel
theorem dX1_force_5 : decode cX1_force 5 = .ok (.iadd, 1) := by decide +kernel
theorem dX1_force_6 : decode cX1_force 6 = .ok (.bipush 9, 2) := by decide +kernel
theorem dX1_force_8 : decode cX1_force 8 = .ok (.invokestatic 15, 3) := by decide +kernel
theorem dX1_force_11 : decode cX1_force 11 = .ok (.ireturn, 1) := by decide +kernel
theorem dX2_init_0 : decode cX2_init 0 = .ok (.aload_n 0, 1) := by decide +kernel
theorem dX2_init_1 : decode cX2_init 1 = .ok (.iload_n 1, 1) := by decide +kernel
theorem dX2_init_2 : decode cX2_init 2 = .ok (.iload_n 2, 1) := by decide +kernel
theorem dX2_init_3 : decode cX2_init 3 = .ok (.iload_n 3, 1) := by decide +kernel
theorem dX2_init_4 : decode cX2_init 4 = .ok (.invokespecial 1, 3) := by decide +kernel
theorem dX2_init_7 : decode cX2_init 7 = .ok (.return_, 1) := by decide +kernel
theorem dX2_kindNumber_0 : decode cX2_kindNumber 0 = .ok (.iconst 2, 1) := by decide +kernel
theorem dX2_kindNumber_1 : decode cX2_kindNumber 1 = .ok (.ireturn, 1) := by decide +kernel
theorem dX2_smellsAt_0 : decode cX2_smellsAt 0 = .ok (.iload_n 2, 1) := by decide +kernel
theorem dX2_smellsAt_1 : decode cX2_smellsAt 1 = .ok (.ifCond .ne 13, 3) := by decide +kernel
theorem dX2_smellsAt_4 : decode cX2_smellsAt 4 = .ok (.iload_n 1, 1) := by decide +kernel
theorem dX2_smellsAt_5 : decode cX2_smellsAt 5 = .ok (.iconst 2, 1) := by decide +kernel
theorem dX2_smellsAt_6 : decode cX2_smellsAt 6 = .ok (.irem, 1) := by decide +kernel
theorem dX2_smellsAt_7 : decode cX2_smellsAt 7 = .ok (.ifCond .ne 7, 3) := by decide +kernel
theorem dX2_smellsAt_10 : decode cX2_smellsAt 10 = .ok (.iconst 1, 1) := by decide +kernel
theorem dX2_smellsAt_11 : decode cX2_smellsAt 11 = .ok (.goto 4, 3) := by decide +kernel
theorem dX2_smellsAt_14 : decode cX2_smellsAt 14 = .ok (.iconst 0, 1) := by decide +kernel
theorem dX2_smellsAt_15 : decode cX2_smellsAt 15 = .ok (.ireturn, 1) := by decide +kernel
theorem dX3_init_0 : decode cX3_init 0 = .ok (.aload_n 0, 1) := by decide +kernel
theorem dX3_init_1 : decode cX3_init 1 = .ok (.invokespecial 3, 3) := by decide +kernel
theorem dX3_init_4 : decode cX3_init 4 = .ok (.aload_n 0, 1) := by decide +kernel
theorem dX3_init_5 : decode cX3_init 5 = .ok (.bipush 14, 2) := by decide +kernel
theorem dX3_init_7 : decode cX3_init 7 = .ok (.newarray .int, 2) := by decide +kernel
theorem dX3_init_9 : decode cX3_init 9 = .ok (.putfield 11, 3) := by decide +kernel
theorem dX3_init_12 : decode cX3_init 12 = .ok (.return_, 1) := by decide +kernel
theorem dX3_isFull_0 : decode cX3_isFull 0 = .ok (.aload_n 0, 1) := by decide +kernel
theorem dX3_isFull_1 : decode cX3_isFull 1 = .ok (.getfield 15, 3) := by decide +kernel
theorem dX3_isFull_4 : decode cX3_isFull 4 = .ok (.bipush 14, 2) := by decide +kernel
theorem dX3_isFull_6 : decode cX3_isFull 6 = .ok (.if_icmp .lt 7, 3) := by decide +kernel
theorem dX3_isFull_9 : decode cX3_isFull 9 = .ok (.iconst 1, 1) := by decide +kernel
theorem dX3_isFull_10 : decode cX3_isFull 10 = .ok (.goto 4, 3) := by decide +kernel
theorem dX3_isFull_13 : decode cX3_isFull 13 = .ok (.iconst 0, 1) := by decide +kernel
theorem dX3_isFull_14 : decode cX3_isFull 14 = .ok (.ireturn, 1) := by decide +kernel
theorem dX3_append_0 : decode cX3_append 0 = .ok (.aload_n 0, 1) := by decide +kernel
theorem dX3_append_1 : decode cX3_append 1 = .ok (.invokevirtual 19, 3) := by decide +kernel
theorem dX3_append_4 : decode cX3_append 4 = .ok (.ifCond .ne 20, 3) := by decide +kernel
theorem dX3_append_7 : decode cX3_append 7 = .ok (.aload_n 0, 1) := by decide +kernel
theorem dX3_append_8 : decode cX3_append 8 = .ok (.getfield 11, 3) := by decide +kernel
theorem dX3_append_11 : decode cX3_append 11 = .ok (.aload_n 0, 1) := by decide +kernel
theorem dX3_append_12 : decode cX3_append 12 = .ok (.dup, 1) := by decide +kernel
theorem dX3_append_13 : decode cX3_append 13 = .ok (.getfield 15, 3) := by decide +kernel
theorem dX3_append_16 : decode cX3_append 16 = .ok (.dup_x1, 1) := by decide +kernel
theorem dX3_append_17 : decode cX3_append 17 = .ok (.iconst 1, 1) := by decide +kernel
theorem dX3_append_18 : decode cX3_append 18 = .ok (.iadd, 1) := by decide +kernel
theorem dX3_append_19 : decode cX3_append 19 = .ok (.putfield 15, 3) := by decide +kernel
theorem dX3_append_22 : decode cX3_append 22 = .ok (.iload_n 1, 1) := by decide +kernel
theorem dX3_append_23 : decode cX3_append 23 = .ok (.iastore, 1) := by decide +kernel
theorem dX3_append_24 : decode cX3_append 24 = .ok (.return_, 1) := by decide +kernel
theorem dX3_firstWrong_0 : decode cX3_firstWrong 0 = .ok (.iconst 0, 1) := by decide +kernel
theorem dX3_firstWrong_1 : decode cX3_firstWrong 1 = .ok (.istore_n 1, 1) := by decide +kernel
theorem dX3_firstWrong_2 : decode cX3_firstWrong 2 = .ok (.iload_n 1, 1) := by decide +kernel
theorem dX3_firstWrong_3 : decode cX3_firstWrong 3 = .ok (.aload_n 0, 1) := by decide +kernel
theorem dX3_firstWrong_4 : decode cX3_firstWrong 4 = .ok (.getfield 15, 3) := by decide +kernel
theorem dX3_firstWrong_7 : decode cX3_firstWrong 7 = .ok (.if_icmp .ge 24, 3) := by decide +kernel
theorem dX3_firstWrong_10 : decode cX3_firstWrong 10 = .ok (.iload_n 1, 1) := by decide +kernel
theorem dX3_firstWrong_11 : decode cX3_firstWrong 11 = .ok (.aload_n 0, 1) := by decide +kernel
theorem dX3_firstWrong_12 : decode cX3_firstWrong 12 = .ok (.getfield 11, 3) := by decide +kernel
theorem dX3_firstWrong_15 : decode cX3_firstWrong 15 = .ok (.iload_n 1, 1) := by decide +kernel
theorem dX3_firstWrong_16 : decode cX3_firstWrong 16 = .ok (.iaload, 1) := by decide +kernel
theorem dX3_firstWrong_17 : decode cX3_firstWrong 17 = .ok (.invokestatic 23, 3) := by decide +kernel
theorem dX3_firstWrong_20 : decode cX3_firstWrong 20 = .ok (.ifCond .ne 5, 3) := by decide +kernel
theorem dX3_firstWrong_23 : decode cX3_firstWrong 23 = .ok (.iload_n 1, 1) := by decide +kernel
theorem dX3_firstWrong_24 : decode cX3_firstWrong 24 = .ok (.ireturn, 1) := by decide +kernel
theorem dX3_firstWrong_25 : decode cX3_firstWrong 25 = .ok (.iinc 1 1, 3) := by decide +kernel
theorem dX3_firstWrong_28 : decode cX3_firstWrong 28 = .ok (.goto (-26), 3) := by decide +kernel
theorem dX3_firstWrong_31 : decode cX3_firstWrong 31 = .ok (.aload_n 0, 1) := by decide +kernel
theorem dX3_firstWrong_32 : decode cX3_firstWrong 32 = .ok (.getfield 15, 3) := by decide +kernel
theorem dX3_firstWrong_35 : decode cX3_firstWrong 35 = .ok (.ireturn, 1) := by decide +kernel
theorem dX3_isValley_0 : decode cX3_isValley 0 = .ok (.aload_n 0, 1) := by decide +kernel
theorem dX3_isValley_1 : decode cX3_isValley 1 = .ok (.getfield 15, 3) := by decide +kernel
theorem dX3_isValley_4 : decode cX3_isValley 4 = .ok (.bipush 11, 2) := by decide +kernel
theorem dX3_isValley_6 : decode cX3_isValley 6 = .ok (.if_icmp .ne 18, 3) := by decide +kernel
theorem dX3_isValley_9 : decode cX3_isValley 9 = .ok (.aload_n 0, 1) := by decide +kernel
theorem dX3_isValley_10 : decode cX3_isValley 10 = .ok (.invokevirtual 27, 3) := by decide +kernel
theorem dX3_isValley_13 : decode cX3_isValley 13 = .ok (.aload_n 0, 1) := by decide +kernel
theorem dX3_isValley_14 : decode cX3_isValley 14 = .ok (.getfield 15, 3) := by decide +kernel
theorem dX3_isValley_17 : decode cX3_isValley 17 = .ok (.if_icmp .ne 7, 3) := by decide +kernel
theorem dX3_isValley_20 : decode cX3_isValley 20 = .ok (.iconst 1, 1) := by decide +kernel
theorem dX3_isValley_21 : decode cX3_isValley 21 = .ok (.goto 4, 3) := by decide +kernel
theorem dX3_isValley_24 : decode cX3_isValley 24 = .ok (.iconst 0, 1) := by decide +kernel
theorem dX3_isValley_25 : decode cX3_isValley 25 = .ok (.ireturn, 1) := by decide +kernel
theorem dX3_placeOf_0 : decode cX3_placeOf 0 = .ok (.iload_n 0, 1) := by decide +kernel
theorem dX3_placeOf_1 : decode cX3_placeOf 1 = .ok (.iconst 4, 1) := by decide +kernel
theorem dX3_placeOf_2 : decode cX3_placeOf 2 = .ok (.if_icmp .ge 7, 3) := by decide +kernel
theorem dX3_placeOf_5 : decode cX3_placeOf 5 = .ok (.iload_n 0, 1) := by decide +kernel
theorem dX3_placeOf_6 : decode cX3_placeOf 6 = .ok (.goto 6, 3) := by decide +kernel
theorem dX3_placeOf_9 : decode cX3_placeOf 9 = .ok (.iload_n 0, 1) := by decide +kernel
theorem dX3_placeOf_10 : decode cX3_placeOf 10 = .ok (.iconst 1, 1) := by decide +kernel
theorem dX3_placeOf_11 : decode cX3_placeOf 11 = .ok (.iadd, 1) := by decide +kernel
theorem dX3_placeOf_12 : decode cX3_placeOf 12 = .ok (.ireturn, 1) := by decide +kernel
theorem dX3_fits_0 : decode cX3_fits 0 = .ok (.iload_n 0, 1) := by decide +kernel
theorem dX3_fits_1 : decode cX3_fits 1 = .ok (.bipush 11, 2) := by decide +kernel
theorem dX3_fits_3 : decode cX3_fits 3 = .ok (.if_icmp .lt 5, 3) := by decide +kernel
theorem dX3_fits_6 : decode cX3_fits 6 = .ok (.iconst 0, 1) := by decide +kernel
theorem dX3_fits_7 : decode cX3_fits 7 = .ok (.ireturn, 1) := by decide +kernel
theorem dX3_fits_8 : decode cX3_fits 8 = .ok (.iload_n 0, 1) := by decide +kernel
theorem dX3_fits_9 : decode cX3_fits 9 = .ok (.iconst 4, 1) := by decide +kernel
theorem dX3_fits_10 : decode cX3_fits 10 = .ok (.if_icmp .ne 15, 3) := by decide +kernel
theorem dX3_fits_13 : decode cX3_fits 13 = .ok (.iload_n 1, 1) := by decide +kernel
theorem dX3_fits_14 : decode cX3_fits 14 = .ok (.bipush 47, 2) := by decide +kernel
theorem dX3_fits_16 : decode cX3_fits 16 = .ok (.if_icmp .ne 7, 3) := by decide +kernel
theorem dX3_fits_19 : decode cX3_fits 19 = .ok (.iconst 1, 1) := by decide +kernel
theorem dX3_fits_20 : decode cX3_fits 20 = .ok (.goto 4, 3) := by decide +kernel
theorem dX3_fits_23 : decode cX3_fits 23 = .ok (.iconst 0, 1) := by decide +kernel
theorem dX3_fits_24 : decode cX3_fits 24 = .ok (.ireturn, 1) := by decide +kernel
theorem dX3_fits_25 : decode cX3_fits 25 = .ok (.iload_n 0, 1) := by decide +kernel
theorem dX3_fits_26 : decode cX3_fits 26 = .ok (.bipush 9, 2) := by decide +kernel
theorem dX3_fits_28 : decode cX3_fits 28 = .ok (.if_icmp .ne 15, 3) := by decide +kernel
theorem dX3_fits_31 : decode cX3_fits 31 = .ok (.iload_n 1, 1) := by decide +kernel
theorem dX3_fits_32 : decode cX3_fits 32 = .ok (.bipush 59, 2) := by decide +kernel
theorem dX3_fits_34 : decode cX3_fits 34 = .ok (.if_icmp .ne 7, 3) := by decide +kernel
theorem dX3_fits_37 : decode cX3_fits 37 = .ok (.iconst 1, 1) := by decide +kernel
theorem dX3_fits_38 : decode cX3_fits 38 = .ok (.goto 4, 3) := by decide +kernel
theorem dX3_fits_41 : decode cX3_fits 41 = .ok (.iconst 0, 1) := by decide +kernel
theorem dX3_fits_42 : decode cX3_fits 42 = .ok (.ireturn, 1) := by decide +kernel
theorem dX3_fits_43 : decode cX3_fits 43 = .ok (.iload_n 0, 1) := by decide +kernel
theorem dX3_fits_44 : decode cX3_fits 44 = .ok (.bipush 10, 2) := by decide +kernel
theorem dX3_fits_46 : decode cX3_fits 46 = .ok (.if_icmp .ne 21, 3) := by decide +kernel
theorem dX3_fits_49 : decode cX3_fits 49 = .ok (.iload_n 1, 1) := by decide +kernel
theorem dX3_fits_50 : decode cX3_fits 50 = .ok (.bipush 49, 2) := by decide +kernel
theorem dX3_fits_52 : decode cX3_fits 52 = .ok (.if_icmp .lt 13, 3) := by decide +kernel
theorem dX3_fits_55 : decode cX3_fits 55 = .ok (.iload_n 1, 1) := by decide +kernel
theorem dX3_fits_56 : decode cX3_fits 56 = .ok (.bipush 51, 2) := by decide +kernel
theorem dX3_fits_58 : decode cX3_fits 58 = .ok (.if_icmp .gt 7, 3) := by decide +kernel
theorem dX3_fits_61 : decode cX3_fits 61 = .ok (.iconst 1, 1) := by decide +kernel
theorem dX3_fits_62 : decode cX3_fits 62 = .ok (.goto 4, 3) := by decide +kernel
theorem dX3_fits_65 : decode cX3_fits 65 = .ok (.iconst 0, 1) := by decide +kernel
theorem dX3_fits_66 : decode cX3_fits 66 = .ok (.ireturn, 1) := by decide +kernel
theorem dX3_fits_67 : decode cX3_fits 67 = .ok (.iload_n 1, 1) := by decide +kernel
theorem dX3_fits_68 : decode cX3_fits 68 = .ok (.bipush 46, 2) := by decide +kernel
theorem dX3_fits_70 : decode cX3_fits 70 = .ok (.if_icmp .eq 15, 3) := by decide +kernel
theorem dX3_fits_73 : decode cX3_fits 73 = .ok (.iload_n 1, 1) := by decide +kernel
theorem dX3_fits_74 : decode cX3_fits 74 = .ok (.bipush 35, 2) := by decide +kernel
theorem dX3_fits_76 : decode cX3_fits 76 = .ok (.if_icmp .eq 9, 3) := by decide +kernel
theorem dX3_fits_79 : decode cX3_fits 79 = .ok (.iload_n 1, 1) := by decide +kernel
theorem dX3_fits_80 : decode cX3_fits 80 = .ok (.bipush 119, 2) := by decide +kernel
theorem dX3_fits_82 : decode cX3_fits 82 = .ok (.if_icmp .ne 7, 3) := by decide +kernel
theorem dX3_fits_85 : decode cX3_fits 85 = .ok (.iconst 1, 1) := by decide +kernel
theorem dX3_fits_86 : decode cX3_fits 86 = .ok (.goto 4, 3) := by decide +kernel
theorem dX3_fits_89 : decode cX3_fits 89 = .ok (.iconst 0, 1) := by decide +kernel
theorem dX3_fits_90 : decode cX3_fits 90 = .ok (.ireturn, 1) := by decide +kernel
theorem dX4_init_0 : decode cX4_init 0 = .ok (.aload_n 0, 1) := by decide +kernel
theorem dX4_init_1 : decode cX4_init 1 = .ok (.invokespecial 1, 3) := by decide +kernel
theorem dX4_init_4 : decode cX4_init 4 = .ok (.aload_n 0, 1) := by decide +kernel
theorem dX4_init_5 : decode cX4_init 5 = .ok (.iload_n 1, 1) := by decide +kernel
theorem dX4_init_6 : decode cX4_init 6 = .ok (.putfield 7, 3) := by decide +kernel
theorem dX4_init_9 : decode cX4_init 9 = .ok (.aload_n 0, 1) := by decide +kernel
theorem dX4_init_10 : decode cX4_init 10 = .ok (.iload_n 2, 1) := by decide +kernel
theorem dX4_init_11 : decode cX4_init 11 = .ok (.putfield 13, 3) := by decide +kernel
theorem dX4_init_14 : decode cX4_init 14 = .ok (.aload_n 0, 1) := by decide +kernel
theorem dX4_init_15 : decode cX4_init 15 = .ok (.iload_n 3, 1) := by decide +kernel
theorem dX4_init_16 : decode cX4_init 16 = .ok (.putfield 16, 3) := by decide +kernel
theorem dX4_init_19 : decode cX4_init 19 = .ok (.return_, 1) := by decide +kernel
theorem dX4_kindNumber_0 : decode cX4_kindNumber 0 = .ok (.iconst 0, 1) := by decide +kernel
theorem dX4_kindNumber_1 : decode cX4_kindNumber 1 = .ok (.ireturn, 1) := by decide +kernel
theorem dX4_force_0 : decode cX4_force 0 = .ok (.aload_n 0, 1) := by decide +kernel
theorem dX4_force_1 : decode cX4_force 1 = .ok (.getfield 16, 3) := by decide +kernel
theorem dX4_force_4 : decode cX4_force 4 = .ok (.ireturn, 1) := by decide +kernel
theorem dX4_smellsAt_0 : decode cX4_smellsAt 0 = .ok (.iload_n 2, 1) := by decide +kernel
theorem dX4_smellsAt_1 : decode cX4_smellsAt 1 = .ok (.ifCond .ne 7, 3) := by decide +kernel
theorem dX4_smellsAt_4 : decode cX4_smellsAt 4 = .ok (.iconst 1, 1) := by decide +kernel
theorem dX4_smellsAt_5 : decode cX4_smellsAt 5 = .ok (.goto 4, 3) := by decide +kernel
theorem dX4_smellsAt_8 : decode cX4_smellsAt 8 = .ok (.iconst 0, 1) := by decide +kernel
theorem dX4_smellsAt_9 : decode cX4_smellsAt 9 = .ok (.ireturn, 1) := by decide +kernel
theorem dX4_ease_0 : decode cX4_ease 0 = .ok (.iconst 0, 1) := by decide +kernel
theorem dX4_ease_1 : decode cX4_ease 1 = .ok (.ireturn, 1) := by decide +kernel
theorem dX5_init_0 : decode cX5_init 0 = .ok (.aload_n 0, 1) := by decide +kernel
theorem dX5_init_1 : decode cX5_init 1 = .ok (.invokespecial 3, 3) := by decide +kernel
theorem dX5_init_4 : decode cX5_init 4 = .ok (.aload_n 0, 1) := by decide +kernel
theorem dX5_init_5 : decode cX5_init 5 = .ok (.bipush 6, 2) := by decide +kernel
theorem dX5_init_7 : decode cX5_init 7 = .ok (.newarray .boolean, 2) := by decide +kernel
theorem dX5_init_9 : decode cX5_init 9 = .ok (.putfield 9, 3) := by decide +kernel
theorem dX5_init_12 : decode cX5_init 12 = .ok (.aload_n 0, 1) := by decide +kernel
theorem dX5_init_13 : decode cX5_init 13 = .ok (.bipush 6, 2) := by decide +kernel
theorem dX5_init_15 : decode cX5_init 15 = .ok (.newarray .int, 2) := by decide +kernel
theorem dX5_init_17 : decode cX5_init 17 = .ok (.putfield 15, 3) := by decide +kernel
theorem dX5_init_20 : decode cX5_init 20 = .ok (.aload_n 0, 1) := by decide +kernel
theorem dX5_init_21 : decode cX5_init 21 = .ok (.bipush 8, 2) := by decide +kernel
theorem dX5_init_23 : decode cX5_init 23 = .ok (.newarray .int, 2) := by decide +kernel
theorem dX5_init_25 : decode cX5_init 25 = .ok (.putfield 19, 3) := by decide +kernel
theorem dX5_init_28 : decode cX5_init 28 = .ok (.aload_n 0, 1) := by decide +kernel
theorem dX5_init_29 : decode cX5_init 29 = .ok (.iconst 3, 1) := by decide +kernel
theorem dX5_init_30 : decode cX5_init 30 = .ok (.newarray .int, 2) := by decide +kernel
theorem dX5_init_32 : decode cX5_init 32 = .ok (.putfield 22, 3) := by decide +kernel
theorem dX5_init_35 : decode cX5_init 35 = .ok (.aload_n 0, 1) := by decide +kernel
theorem dX5_init_36 : decode cX5_init 36 = .ok (.bipush 8, 2) := by decide +kernel
theorem dX5_init_38 : decode cX5_init 38 = .ok (.newarray .int, 2) := by decide +kernel
theorem dX5_init_40 : decode cX5_init 40 = .ok (.putfield 25, 3) := by decide +kernel
theorem dX5_init_43 : decode cX5_init 43 = .ok (.aload_n 0, 1) := by decide +kernel
theorem dX5_init_44 : decode cX5_init 44 = .ok (.bipush 8, 2) := by decide +kernel
theorem dX5_init_46 : decode cX5_init 46 = .ok (.newarray .int, 2) := by decide +kernel
theorem dX5_init_48 : decode cX5_init 48 = .ok (.putfield 28, 3) := by decide +kernel
theorem dX5_init_51 : decode cX5_init 51 = .ok (.return_, 1) := by decide +kernel
theorem dX5_copyFrom_0 : decode cX5_copyFrom 0 = .ok (.aload_n 0, 1) := by decide +kernel
theorem dX5_copyFrom_1 : decode cX5_copyFrom 1 = .ok (.aload_n 1, 1) := by decide +kernel
theorem dX5_copyFrom_2 : decode cX5_copyFrom 2 = .ok (.getfield 31, 3) := by decide +kernel
theorem dX5_copyFrom_5 : decode cX5_copyFrom 5 = .ok (.putfield 31, 3) := by decide +kernel
theorem dX5_copyFrom_8 : decode cX5_copyFrom 8 = .ok (.iconst 0, 1) := by decide +kernel
theorem dX5_copyFrom_9 : decode cX5_copyFrom 9 = .ok (.istore_n 2, 1) := by decide +kernel
theorem dX5_copyFrom_10 : decode cX5_copyFrom 10 = .ok (.iload_n 2, 1) := by decide +kernel
theorem dX5_copyFrom_11 : decode cX5_copyFrom 11 = .ok (.bipush 6, 2) := by decide +kernel
theorem dX5_copyFrom_13 : decode cX5_copyFrom 13 = .ok (.if_icmp .ge 33, 3) := by decide +kernel
theorem dX5_copyFrom_16 : decode cX5_copyFrom 16 = .ok (.aload_n 0, 1) := by decide +kernel
theorem dX5_copyFrom_17 : decode cX5_copyFrom 17 = .ok (.getfield 9, 3) := by decide +kernel
theorem dX5_copyFrom_20 : decode cX5_copyFrom 20 = .ok (.iload_n 2, 1) := by decide +kernel
theorem dX5_copyFrom_21 : decode cX5_copyFrom 21 = .ok (.aload_n 1, 1) := by decide +kernel
theorem dX5_copyFrom_22 : decode cX5_copyFrom 22 = .ok (.getfield 9, 3) := by decide +kernel
theorem dX5_copyFrom_25 : decode cX5_copyFrom 25 = .ok (.iload_n 2, 1) := by decide +kernel
theorem dX5_copyFrom_26 : decode cX5_copyFrom 26 = .ok (.baload, 1) := by decide +kernel
theorem dX5_copyFrom_27 : decode cX5_copyFrom 27 = .ok (.bastore, 1) := by decide +kernel
theorem dX5_copyFrom_28 : decode cX5_copyFrom 28 = .ok (.aload_n 0, 1) := by decide +kernel
theorem dX5_copyFrom_29 : decode cX5_copyFrom 29 = .ok (.getfield 15, 3) := by decide +kernel
theorem dX5_copyFrom_32 : decode cX5_copyFrom 32 = .ok (.iload_n 2, 1) := by decide +kernel
theorem dX5_copyFrom_33 : decode cX5_copyFrom 33 = .ok (.aload_n 1, 1) := by decide +kernel
theorem dX5_copyFrom_34 : decode cX5_copyFrom 34 = .ok (.getfield 15, 3) := by decide +kernel
theorem dX5_copyFrom_37 : decode cX5_copyFrom 37 = .ok (.iload_n 2, 1) := by decide +kernel
theorem dX5_copyFrom_38 : decode cX5_copyFrom 38 = .ok (.iaload, 1) := by decide +kernel
theorem dX5_copyFrom_39 : decode cX5_copyFrom 39 = .ok (.iastore, 1) := by decide +kernel
theorem dX5_copyFrom_40 : decode cX5_copyFrom 40 = .ok (.iinc 2 1, 3) := by decide +kernel
theorem dX5_copyFrom_43 : decode cX5_copyFrom 43 = .ok (.goto (-33), 3) := by decide +kernel
theorem dX5_copyFrom_46 : decode cX5_copyFrom 46 = .ok (.aload_n 0, 1) := by decide +kernel
theorem dX5_copyFrom_47 : decode cX5_copyFrom 47 = .ok (.aload_n 1, 1) := by decide +kernel
theorem dX5_copyFrom_48 : decode cX5_copyFrom 48 = .ok (.getfield 35, 3) := by decide +kernel
theorem dX5_copyFrom_51 : decode cX5_copyFrom 51 = .ok (.putfield 35, 3) := by decide +kernel
theorem dX5_copyFrom_54 : decode cX5_copyFrom 54 = .ok (.aload_n 0, 1) := by decide +kernel
theorem dX5_copyFrom_55 : decode cX5_copyFrom 55 = .ok (.aload_n 1, 1) := by decide +kernel
theorem dX5_copyFrom_56 : decode cX5_copyFrom 56 = .ok (.getfield 38, 3) := by decide +kernel
theorem dX5_copyFrom_59 : decode cX5_copyFrom 59 = .ok (.putfield 38, 3) := by decide +kernel
theorem dX5_copyFrom_62 : decode cX5_copyFrom 62 = .ok (.aload_n 0, 1) := by decide +kernel
theorem dX5_copyFrom_63 : decode cX5_copyFrom 63 = .ok (.aload_n 1, 1) := by decide +kernel
theorem dX5_copyFrom_64 : decode cX5_copyFrom 64 = .ok (.getfield 42, 3) := by decide +kernel
theorem dX5_copyFrom_67 : decode cX5_copyFrom 67 = .ok (.putfield 42, 3) := by decide +kernel
theorem dX5_copyFrom_70 : decode cX5_copyFrom 70 = .ok (.aload_n 1, 1) := by decide +kernel
theorem dX5_copyFrom_71 : decode cX5_copyFrom 71 = .ok (.getfield 19, 3) := by decide +kernel
theorem dX5_copyFrom_74 : decode cX5_copyFrom 74 = .ok (.iconst 0, 1) := by decide +kernel
theorem dX5_copyFrom_75 : decode cX5_copyFrom 75 = .ok (.aload_n 0, 1) := by decide +kernel
theorem dX5_copyFrom_76 : decode cX5_copyFrom 76 = .ok (.getfield 19, 3) := by decide +kernel
theorem dX5_copyFrom_79 : decode cX5_copyFrom 79 = .ok (.iconst 0, 1) := by decide +kernel
theorem dX5_copyFrom_80 : decode cX5_copyFrom 80 = .ok (.bipush 8, 2) := by decide +kernel
theorem dX5_copyFrom_82 : decode cX5_copyFrom 82 = .ok (.invokestatic 45, 3) := by decide +kernel
theorem dX5_copyFrom_85 : decode cX5_copyFrom 85 = .ok (.aload_n 1, 1) := by decide +kernel
theorem dX5_copyFrom_86 : decode cX5_copyFrom 86 = .ok (.getfield 22, 3) := by decide +kernel
theorem dX5_copyFrom_89 : decode cX5_copyFrom 89 = .ok (.iconst 0, 1) := by decide +kernel
theorem dX5_copyFrom_90 : decode cX5_copyFrom 90 = .ok (.aload_n 0, 1) := by decide +kernel
theorem dX5_copyFrom_91 : decode cX5_copyFrom 91 = .ok (.getfield 22, 3) := by decide +kernel
theorem dX5_copyFrom_94 : decode cX5_copyFrom 94 = .ok (.iconst 0, 1) := by decide +kernel
theorem dX5_copyFrom_95 : decode cX5_copyFrom 95 = .ok (.iconst 3, 1) := by decide +kernel
theorem dX5_copyFrom_96 : decode cX5_copyFrom 96 = .ok (.invokestatic 45, 3) := by decide +kernel
theorem dX5_copyFrom_99 : decode cX5_copyFrom 99 = .ok (.aload_n 0, 1) := by decide +kernel
theorem dX5_copyFrom_100 : decode cX5_copyFrom 100 = .ok (.aload_n 1, 1) := by decide +kernel
theorem dX5_copyFrom_101 : decode cX5_copyFrom 101 = .ok (.getfield 51, 3) := by decide +kernel
theorem dX5_copyFrom_104 : decode cX5_copyFrom 104 = .ok (.putfield 51, 3) := by decide +kernel
theorem dX5_copyFrom_107 : decode cX5_copyFrom 107 = .ok (.aload_n 1, 1) := by decide +kernel
theorem dX5_copyFrom_108 : decode cX5_copyFrom 108 = .ok (.getfield 25, 3) := by decide +kernel
theorem dX5_copyFrom_111 : decode cX5_copyFrom 111 = .ok (.iconst 0, 1) := by decide +kernel
theorem dX5_copyFrom_112 : decode cX5_copyFrom 112 = .ok (.aload_n 0, 1) := by decide +kernel
theorem dX5_copyFrom_113 : decode cX5_copyFrom 113 = .ok (.getfield 25, 3) := by decide +kernel
theorem dX5_copyFrom_116 : decode cX5_copyFrom 116 = .ok (.iconst 0, 1) := by decide +kernel
theorem dX5_copyFrom_117 : decode cX5_copyFrom 117 = .ok (.bipush 8, 2) := by decide +kernel
theorem dX5_copyFrom_119 : decode cX5_copyFrom 119 = .ok (.invokestatic 45, 3) := by decide +kernel
theorem dX5_copyFrom_122 : decode cX5_copyFrom 122 = .ok (.aload_n 1, 1) := by decide +kernel
theorem dX5_copyFrom_123 : decode cX5_copyFrom 123 = .ok (.getfield 28, 3) := by decide +kernel
theorem dX5_copyFrom_126 : decode cX5_copyFrom 126 = .ok (.iconst 0, 1) := by decide +kernel
theorem dX5_copyFrom_127 : decode cX5_copyFrom 127 = .ok (.aload_n 0, 1) := by decide +kernel
theorem dX5_copyFrom_128 : decode cX5_copyFrom 128 = .ok (.getfield 28, 3) := by decide +kernel
theorem dX5_copyFrom_131 : decode cX5_copyFrom 131 = .ok (.iconst 0, 1) := by decide +kernel
theorem dX5_copyFrom_132 : decode cX5_copyFrom 132 = .ok (.bipush 8, 2) := by decide +kernel
theorem dX5_copyFrom_134 : decode cX5_copyFrom 134 = .ok (.invokestatic 45, 3) := by decide +kernel
theorem dX5_copyFrom_137 : decode cX5_copyFrom 137 = .ok (.return_, 1) := by decide +kernel
theorem dX5_addSource_0 : decode cX5_addSource 0 = .ok (.aload_n 0, 1) := by decide +kernel
theorem dX5_addSource_1 : decode cX5_addSource 1 = .ok (.getfield 31, 3) := by decide +kernel
theorem dX5_addSource_4 : decode cX5_addSource 4 = .ok (.bipush 6, 2) := by decide +kernel
theorem dX5_addSource_6 : decode cX5_addSource 6 = .ok (.if_icmp .lt 5, 3) := by decide +kernel
theorem dX5_addSource_9 : decode cX5_addSource 9 = .ok (.iconst (-1), 1) := by decide +kernel
theorem dX5_addSource_10 : decode cX5_addSource 10 = .ok (.ireturn, 1) := by decide +kernel
theorem dX5_addSource_11 : decode cX5_addSource 11 = .ok (.aload_n 0, 1) := by decide +kernel
theorem dX5_addSource_12 : decode cX5_addSource 12 = .ok (.getfield 9, 3) := by decide +kernel
theorem dX5_addSource_15 : decode cX5_addSource 15 = .ok (.aload_n 0, 1) := by decide +kernel
theorem dX5_addSource_16 : decode cX5_addSource 16 = .ok (.getfield 31, 3) := by decide +kernel
theorem dX5_addSource_19 : decode cX5_addSource 19 = .ok (.iconst 1, 1) := by decide +kernel
theorem dX5_addSource_20 : decode cX5_addSource 20 = .ok (.bastore, 1) := by decide +kernel
theorem dX5_addSource_21 : decode cX5_addSource 21 = .ok (.aload_n 0, 1) := by decide +kernel
theorem dX5_addSource_22 : decode cX5_addSource 22 = .ok (.getfield 15, 3) := by decide +kernel
theorem dX5_addSource_25 : decode cX5_addSource 25 = .ok (.aload_n 0, 1) := by decide +kernel
theorem dX5_addSource_26 : decode cX5_addSource 26 = .ok (.getfield 31, 3) := by decide +kernel
theorem dX5_addSource_29 : decode cX5_addSource 29 = .ok (.iconst 0, 1) := by decide +kernel
theorem dX5_addSource_30 : decode cX5_addSource 30 = .ok (.iastore, 1) := by decide +kernel
theorem dX5_addSource_31 : decode cX5_addSource 31 = .ok (.aload_n 0, 1) := by decide +kernel
theorem dX5_addSource_32 : decode cX5_addSource 32 = .ok (.dup, 1) := by decide +kernel
theorem dX5_addSource_33 : decode cX5_addSource 33 = .ok (.getfield 31, 3) := by decide +kernel
theorem dX5_addSource_36 : decode cX5_addSource 36 = .ok (.dup_x1, 1) := by decide +kernel
theorem dX5_addSource_37 : decode cX5_addSource 37 = .ok (.iconst 1, 1) := by decide +kernel
theorem dX5_addSource_38 : decode cX5_addSource 38 = .ok (.iadd, 1) := by decide +kernel
theorem dX5_addSource_39 : decode cX5_addSource 39 = .ok (.putfield 31, 3) := by decide +kernel
theorem dX5_addSource_42 : decode cX5_addSource 42 = .ok (.ireturn, 1) := by decide +kernel
theorem dX5_addNose_0 : decode cX5_addNose 0 = .ok (.aload_n 0, 1) := by decide +kernel
theorem dX5_addNose_1 : decode cX5_addNose 1 = .ok (.getfield 51, 3) := by decide +kernel
theorem dX5_addNose_4 : decode cX5_addNose 4 = .ok (.bipush 8, 2) := by decide +kernel
theorem dX5_addNose_6 : decode cX5_addNose 6 = .ok (.if_icmp .lt 4, 3) := by decide +kernel
theorem dX5_addNose_9 : decode cX5_addNose 9 = .ok (.return_, 1) := by decide +kernel
theorem dX5_addNose_10 : decode cX5_addNose 10 = .ok (.aload_n 0, 1) := by decide +kernel
theorem dX5_addNose_11 : decode cX5_addNose 11 = .ok (.getfield 25, 3) := by decide +kernel
theorem dX5_addNose_14 : decode cX5_addNose 14 = .ok (.aload_n 0, 1) := by decide +kernel
theorem dX5_addNose_15 : decode cX5_addNose 15 = .ok (.getfield 51, 3) := by decide +kernel
theorem dX5_addNose_18 : decode cX5_addNose 18 = .ok (.iload_n 1, 1) := by decide +kernel
theorem dX5_addNose_19 : decode cX5_addNose 19 = .ok (.iastore, 1) := by decide +kernel
theorem dX5_addNose_20 : decode cX5_addNose 20 = .ok (.aload_n 0, 1) := by decide +kernel
theorem dX5_addNose_21 : decode cX5_addNose 21 = .ok (.getfield 28, 3) := by decide +kernel
theorem dX5_addNose_24 : decode cX5_addNose 24 = .ok (.aload_n 0, 1) := by decide +kernel
theorem dX5_addNose_25 : decode cX5_addNose 25 = .ok (.getfield 51, 3) := by decide +kernel
theorem dX5_addNose_28 : decode cX5_addNose 28 = .ok (.iload_n 2, 1) := by decide +kernel
theorem dX5_addNose_29 : decode cX5_addNose 29 = .ok (.iastore, 1) := by decide +kernel
theorem dX5_addNose_30 : decode cX5_addNose 30 = .ok (.aload_n 0, 1) := by decide +kernel
theorem dX5_addNose_31 : decode cX5_addNose 31 = .ok (.dup, 1) := by decide +kernel
theorem dX5_addNose_32 : decode cX5_addNose 32 = .ok (.getfield 51, 3) := by decide +kernel
theorem dX5_addNose_35 : decode cX5_addNose 35 = .ok (.iconst 1, 1) := by decide +kernel
theorem dX5_addNose_36 : decode cX5_addNose 36 = .ok (.iadd, 1) := by decide +kernel
theorem dX5_addNose_37 : decode cX5_addNose 37 = .ok (.putfield 51, 3) := by decide +kernel
theorem dX5_addNose_40 : decode cX5_addNose 40 = .ok (.return_, 1) := by decide +kernel
theorem dX5_smells_0 : decode cX5_smells 0 = .ok (.aload_n 0, 1) := by decide +kernel
theorem dX5_smells_1 : decode cX5_smells 1 = .ok (.getfield 9, 3) := by decide +kernel
theorem dX5_smells_4 : decode cX5_smells 4 = .ok (.iload_n 2, 1) := by decide +kernel
theorem dX5_smells_5 : decode cX5_smells 5 = .ok (.baload, 1) := by decide +kernel
theorem dX5_smells_6 : decode cX5_smells 6 = .ok (.ifCond .eq 22, 3) := by decide +kernel
theorem dX5_smells_9 : decode cX5_smells 9 = .ok (.aload_n 1, 1) := by decide +kernel
theorem dX5_smells_10 : decode cX5_smells 10 = .ok (.aload_n 0, 1) := by decide +kernel
theorem dX5_smells_11 : decode cX5_smells 11 = .ok (.getfield 42, 3) := by decide +kernel
theorem dX5_smells_14 : decode cX5_smells 14 = .ok (.aload_n 0, 1) := by decide +kernel
theorem dX5_smells_15 : decode cX5_smells 15 = .ok (.getfield 38, 3) := by decide +kernel
theorem dX5_smells_18 : decode cX5_smells 18 = .ok (.invokevirtual 54, 3) := by decide +kernel
theorem dX5_smells_21 : decode cX5_smells 21 = .ok (.ifCond .eq 7, 3) := by decide +kernel
theorem dX5_smells_24 : decode cX5_smells 24 = .ok (.iconst 1, 1) := by decide +kernel
theorem dX5_smells_25 : decode cX5_smells 25 = .ok (.goto 4, 3) := by decide +kernel
theorem dX5_smells_28 : decode cX5_smells 28 = .ok (.iconst 0, 1) := by decide +kernel
theorem dX5_smells_29 : decode cX5_smells 29 = .ok (.ireturn, 1) := by decide +kernel
theorem dX5_countBurning_0 : decode cX5_countBurning 0 = .ok (.iconst 0, 1) := by decide +kernel
theorem dX5_countBurning_1 : decode cX5_countBurning 1 = .ok (.istore_n 1, 1) := by decide +kernel
theorem dX5_countBurning_2 : decode cX5_countBurning 2 = .ok (.iconst 0, 1) := by decide +kernel
theorem dX5_countBurning_3 : decode cX5_countBurning 3 = .ok (.istore_n 2, 1) := by decide +kernel
theorem dX5_countBurning_4 : decode cX5_countBurning 4 = .ok (.iload_n 2, 1) := by decide +kernel
theorem dX5_countBurning_5 : decode cX5_countBurning 5 = .ok (.aload_n 0, 1) := by decide +kernel
theorem dX5_countBurning_6 : decode cX5_countBurning 6 = .ok (.getfield 31, 3) := by decide +kernel
theorem dX5_countBurning_9 : decode cX5_countBurning 9 = .ok (.if_icmp .ge 21, 3) := by decide +kernel
theorem dX5_countBurning_12 : decode cX5_countBurning 12 = .ok (.aload_n 0, 1) := by decide +kernel
theorem dX5_countBurning_13 : decode cX5_countBurning 13 = .ok (.getfield 9, 3) := by decide +kernel
theorem dX5_countBurning_16 : decode cX5_countBurning 16 = .ok (.iload_n 2, 1) := by decide +kernel
theorem dX5_countBurning_17 : decode cX5_countBurning 17 = .ok (.baload, 1) := by decide +kernel
theorem dX5_countBurning_18 : decode cX5_countBurning 18 = .ok (.ifCond .eq 6, 3) := by decide +kernel
theorem dX5_countBurning_21 : decode cX5_countBurning 21 = .ok (.iinc 1 1, 3) := by decide +kernel
theorem dX5_countBurning_24 : decode cX5_countBurning 24 = .ok (.iinc 2 1, 3) := by decide +kernel
theorem dX5_countBurning_27 : decode cX5_countBurning 27 = .ok (.goto (-23), 3) := by decide +kernel
theorem dX5_countBurning_30 : decode cX5_countBurning 30 = .ok (.iload_n 1, 1) := by decide +kernel
theorem dX5_countBurning_31 : decode cX5_countBurning 31 = .ok (.ireturn, 1) := by decide +kernel
theorem dX5_endHour_0 : decode cX5_endHour 0 = .ok (.iconst 0, 1) := by decide +kernel
theorem dX5_endHour_1 : decode cX5_endHour 1 = .ok (.istore_n 1, 1) := by decide +kernel
theorem dX5_endHour_2 : decode cX5_endHour 2 = .ok (.iload_n 1, 1) := by decide +kernel
theorem dX5_endHour_3 : decode cX5_endHour 3 = .ok (.aload_n 0, 1) := by decide +kernel
theorem dX5_endHour_4 : decode cX5_endHour 4 = .ok (.getfield 31, 3) := by decide +kernel
theorem dX5_endHour_7 : decode cX5_endHour 7 = .ok (.if_icmp .ge 28, 3) := by decide +kernel
theorem dX5_endHour_10 : decode cX5_endHour 10 = .ok (.aload_n 0, 1) := by decide +kernel
theorem dX5_endHour_11 : decode cX5_endHour 11 = .ok (.getfield 9, 3) := by decide +kernel
theorem dX5_endHour_14 : decode cX5_endHour 14 = .ok (.iload_n 1, 1) := by decide +kernel
theorem dX5_endHour_15 : decode cX5_endHour 15 = .ok (.baload, 1) := by decide +kernel
theorem dX5_endHour_16 : decode cX5_endHour 16 = .ok (.ifCond .eq 13, 3) := by decide +kernel
theorem dX5_endHour_19 : decode cX5_endHour 19 = .ok (.aload_n 0, 1) := by decide +kernel
theorem dX5_endHour_20 : decode cX5_endHour 20 = .ok (.getfield 15, 3) := by decide +kernel
theorem dX5_endHour_23 : decode cX5_endHour 23 = .ok (.iload_n 1, 1) := by decide +kernel
theorem dX5_endHour_24 : decode cX5_endHour 24 = .ok (.dup2, 1) := by decide +kernel
theorem dX5_endHour_25 : decode cX5_endHour 25 = .ok (.iaload, 1) := by decide +kernel
theorem dX5_endHour_26 : decode cX5_endHour 26 = .ok (.iconst 1, 1) := by decide +kernel
theorem dX5_endHour_27 : decode cX5_endHour 27 = .ok (.iadd, 1) := by decide +kernel
theorem dX5_endHour_28 : decode cX5_endHour 28 = .ok (.iastore, 1) := by decide +kernel
theorem dX5_endHour_29 : decode cX5_endHour 29 = .ok (.iinc 1 1, 3) := by decide +kernel
theorem dX5_endHour_32 : decode cX5_endHour 32 = .ok (.goto (-30), 3) := by decide +kernel
theorem dX5_endHour_35 : decode cX5_endHour 35 = .ok (.aload_n 0, 1) := by decide +kernel
theorem dX5_endHour_36 : decode cX5_endHour 36 = .ok (.dup, 1) := by decide +kernel
theorem dX5_endHour_37 : decode cX5_endHour 37 = .ok (.getfield 42, 3) := by decide +kernel
theorem dX5_endHour_40 : decode cX5_endHour 40 = .ok (.iconst 1, 1) := by decide +kernel
theorem dX5_endHour_41 : decode cX5_endHour 41 = .ok (.iadd, 1) := by decide +kernel
theorem dX5_endHour_42 : decode cX5_endHour 42 = .ok (.putfield 42, 3) := by decide +kernel
theorem dX5_endHour_45 : decode cX5_endHour 45 = .ok (.return_, 1) := by decide +kernel
theorem dX6_init_0 : decode cX6_init 0 = .ok (.aload_n 0, 1) := by decide +kernel
theorem dX6_init_1 : decode cX6_init 1 = .ok (.iload_n 1, 1) := by decide +kernel
theorem dX6_init_2 : decode cX6_init 2 = .ok (.iload_n 2, 1) := by decide +kernel
theorem dX6_init_3 : decode cX6_init 3 = .ok (.iload_n 3, 1) := by decide +kernel
theorem dX6_init_4 : decode cX6_init 4 = .ok (.invokespecial 1, 3) := by decide +kernel
theorem dX6_init_7 : decode cX6_init 7 = .ok (.return_, 1) := by decide +kernel
theorem dX6_kindNumber_0 : decode cX6_kindNumber 0 = .ok (.iconst 3, 1) := by decide +kernel
theorem dX6_kindNumber_1 : decode cX6_kindNumber 1 = .ok (.ireturn, 1) := by decide +kernel
theorem dX6_ease_0 : decode cX6_ease 0 = .ok (.iconst 1, 1) := by decide +kernel
theorem dX6_ease_1 : decode cX6_ease 1 = .ok (.ireturn, 1) := by decide +kernel
theorem dX7_init_0 : decode cX7_init 0 = .ok (.aload_n 0, 1) := by decide +kernel
theorem dX7_init_1 : decode cX7_init 1 = .ok (.invokespecial 3, 3) := by decide +kernel
theorem dX7_init_4 : decode cX7_init 4 = .ok (.aload_n 0, 1) := by decide +kernel
theorem dX7_init_5 : decode cX7_init 5 = .ok (.bipush 8, 2) := by decide +kernel
theorem dX7_init_7 : decode cX7_init 7 = .ok (.newarray .int, 2) := by decide +kernel
theorem dX7_init_9 : decode cX7_init 9 = .ok (.putfield 9, 3) := by decide +kernel
theorem dX7_init_12 : decode cX7_init 12 = .ok (.return_, 1) := by decide +kernel
theorem dX7_isThere_0 : decode cX7_isThere 0 = .ok (.aload_n 0, 1) := by decide +kernel
theorem dX7_isThere_1 : decode cX7_isThere 1 = .ok (.getfield 15, 3) := by decide +kernel
theorem dX7_isThere_4 : decode cX7_isThere 4 = .ok (.ifCond .le 7, 3) := by decide +kernel
theorem dX7_isThere_7 : decode cX7_isThere 7 = .ok (.iconst 1, 1) := by decide +kernel
theorem dX7_isThere_8 : decode cX7_isThere 8 = .ok (.goto 4, 3) := by decide +kernel
theorem dX7_isThere_11 : decode cX7_isThere 11 = .ok (.iconst 0, 1) := by decide +kernel
theorem dX7_isThere_12 : decode cX7_isThere 12 = .ok (.ireturn, 1) := by decide +kernel
theorem dX7_isOpen_0 : decode cX7_isOpen 0 = .ok (.aload_n 0, 1) := by decide +kernel
theorem dX7_isOpen_1 : decode cX7_isOpen 1 = .ok (.getfield 9, 3) := by decide +kernel
theorem dX7_isOpen_4 : decode cX7_isOpen 4 = .ok (.iload_n 1, 1) := by decide +kernel
theorem dX7_isOpen_5 : decode cX7_isOpen 5 = .ok (.iaload, 1) := by decide +kernel
theorem dX7_isOpen_6 : decode cX7_isOpen 6 = .ok (.ifCond .ne 7, 3) := by decide +kernel
theorem dX7_isOpen_9 : decode cX7_isOpen 9 = .ok (.iconst 1, 1) := by decide +kernel
theorem dX7_isOpen_10 : decode cX7_isOpen 10 = .ok (.goto 4, 3) := by decide +kernel
theorem dX7_isOpen_13 : decode cX7_isOpen 13 = .ok (.iconst 0, 1) := by decide +kernel
theorem dX7_isOpen_14 : decode cX7_isOpen 14 = .ok (.ireturn, 1) := by decide +kernel
theorem dX7_isWall_0 : decode cX7_isWall 0 = .ok (.aload_n 0, 1) := by decide +kernel
theorem dX7_isWall_1 : decode cX7_isWall 1 = .ok (.getfield 9, 3) := by decide +kernel
theorem dX7_isWall_4 : decode cX7_isWall 4 = .ok (.iload_n 1, 1) := by decide +kernel
theorem dX7_isWall_5 : decode cX7_isWall 5 = .ok (.iaload, 1) := by decide +kernel
theorem dX7_isWall_6 : decode cX7_isWall 6 = .ok (.iconst 1, 1) := by decide +kernel
theorem dX7_isWall_7 : decode cX7_isWall 7 = .ok (.if_icmp .ne 7, 3) := by decide +kernel
theorem dX7_isWall_10 : decode cX7_isWall 10 = .ok (.iconst 1, 1) := by decide +kernel
theorem dX7_isWall_11 : decode cX7_isWall 11 = .ok (.goto 4, 3) := by decide +kernel
theorem dX7_isWall_14 : decode cX7_isWall 14 = .ok (.iconst 0, 1) := by decide +kernel
theorem dX7_isWall_15 : decode cX7_isWall 15 = .ok (.ireturn, 1) := by decide +kernel
theorem dX7_take_0 : decode cX7_take 0 = .ok (.aload_n 0, 1) := by decide +kernel
theorem dX7_take_1 : decode cX7_take 1 = .ok (.iconst 0, 1) := by decide +kernel
theorem dX7_take_2 : decode cX7_take 2 = .ok (.putfield 19, 3) := by decide +kernel
theorem dX7_take_5 : decode cX7_take 5 = .ok (.iconst 0, 1) := by decide +kernel
theorem dX7_take_6 : decode cX7_take 6 = .ok (.istore_n 2, 1) := by decide +kernel
theorem dX7_take_7 : decode cX7_take 7 = .ok (.iload_n 2, 1) := by decide +kernel
theorem dX7_take_8 : decode cX7_take 8 = .ok (.bipush 8, 2) := by decide +kernel
theorem dX7_take_10 : decode cX7_take 10 = .ok (.if_icmp .ge 62, 3) := by decide +kernel
theorem dX7_take_13 : decode cX7_take 13 = .ok (.aload_n 1, 1) := by decide +kernel
theorem dX7_take_14 : decode cX7_take 14 = .ok (.getfield 22, 3) := by decide +kernel
theorem dX7_take_17 : decode cX7_take 17 = .ok (.iload_n 2, 1) := by decide +kernel
theorem dX7_take_18 : decode cX7_take 18 = .ok (.invokestatic 27, 3) := by decide +kernel
theorem dX7_take_21 : decode cX7_take 21 = .ok (.iaload, 1) := by decide +kernel
theorem dX7_take_22 : decode cX7_take 22 = .ok (.istore_n 3, 1) := by decide +kernel
theorem dX7_take_23 : decode cX7_take 23 = .ok (.aload_n 0, 1) := by decide +kernel
theorem dX7_take_24 : decode cX7_take 24 = .ok (.getfield 9, 3) := by decide +kernel
theorem dX7_take_27 : decode cX7_take 27 = .ok (.iload_n 2, 1) := by decide +kernel
theorem dX7_take_28 : decode cX7_take 28 = .ok (.iload_n 3, 1) := by decide +kernel
theorem dX7_take_29 : decode cX7_take 29 = .ok (.bipush 35, 2) := by decide +kernel
theorem dX7_take_31 : decode cX7_take 31 = .ok (.if_icmp .ne 7, 3) := by decide +kernel
theorem dX7_take_34 : decode cX7_take 34 = .ok (.iconst 1, 1) := by decide +kernel
theorem dX7_take_35 : decode cX7_take 35 = .ok (.goto 14, 3) := by decide +kernel
theorem dX7_take_38 : decode cX7_take 38 = .ok (.iload_n 3, 1) := by decide +kernel
theorem dX7_take_39 : decode cX7_take 39 = .ok (.bipush 119, 2) := by decide +kernel
theorem dX7_take_41 : decode cX7_take 41 = .ok (.if_icmp .ne 7, 3) := by decide +kernel
theorem dX7_take_44 : decode cX7_take 44 = .ok (.iconst 2, 1) := by decide +kernel
theorem dX7_take_45 : decode cX7_take 45 = .ok (.goto 4, 3) := by decide +kernel
theorem dX7_take_48 : decode cX7_take 48 = .ok (.iconst 0, 1) := by decide +kernel
theorem dX7_take_49 : decode cX7_take 49 = .ok (.iastore, 1) := by decide +kernel
theorem dX7_take_50 : decode cX7_take 50 = .ok (.iload_n 3, 1) := by decide +kernel
theorem dX7_take_51 : decode cX7_take 51 = .ok (.bipush 46, 2) := by decide +kernel
theorem dX7_take_53 : decode cX7_take 53 = .ok (.if_icmp .ne 13, 3) := by decide +kernel
theorem dX7_take_56 : decode cX7_take 56 = .ok (.aload_n 0, 1) := by decide +kernel
theorem dX7_take_57 : decode cX7_take 57 = .ok (.dup, 1) := by decide +kernel
theorem dX7_take_58 : decode cX7_take 58 = .ok (.getfield 19, 3) := by decide +kernel
theorem dX7_take_61 : decode cX7_take 61 = .ok (.iconst 1, 1) := by decide +kernel
theorem dX7_take_62 : decode cX7_take 62 = .ok (.iadd, 1) := by decide +kernel
theorem dX7_take_63 : decode cX7_take 63 = .ok (.putfield 19, 3) := by decide +kernel
theorem dX7_take_66 : decode cX7_take 66 = .ok (.iinc 2 1, 3) := by decide +kernel
theorem dX7_take_69 : decode cX7_take 69 = .ok (.goto (-62), 3) := by decide +kernel
theorem dX7_take_72 : decode cX7_take 72 = .ok (.aload_n 0, 1) := by decide +kernel
theorem dX7_take_73 : decode cX7_take 73 = .ok (.aload_n 1, 1) := by decide +kernel
theorem dX7_take_74 : decode cX7_take 74 = .ok (.getfield 22, 3) := by decide +kernel
theorem dX7_take_77 : decode cX7_take 77 = .ok (.bipush 10, 2) := by decide +kernel
theorem dX7_take_79 : decode cX7_take 79 = .ok (.iaload, 1) := by decide +kernel
theorem dX7_take_80 : decode cX7_take 80 = .ok (.bipush 48, 2) := by decide +kernel
theorem dX7_take_82 : decode cX7_take 82 = .ok (.isub, 1) := by decide +kernel
theorem dX7_take_83 : decode cX7_take 83 = .ok (.putfield 15, 3) := by decide +kernel
theorem dX7_take_86 : decode cX7_take 86 = .ok (.return_, 1) := by decide +kernel
theorem dX7_beside_0 : decode cX7_beside 0 = .ok (.iload_n 1, 1) := by decide +kernel
theorem dX7_beside_1 : decode cX7_beside 1 = .ok (.tableswitch 86 1 4 #[31, 46, 60, 73], 31) := by decide +kernel
theorem dX7_beside_32 : decode cX7_beside 32 = .ok (.iload_n 0, 1) := by decide +kernel
theorem dX7_beside_33 : decode cX7_beside 33 = .ok (.iconst 4, 1) := by decide +kernel
theorem dX7_beside_34 : decode cX7_beside 34 = .ok (.irem, 1) := by decide +kernel
theorem dX7_beside_35 : decode cX7_beside 35 = .ok (.iconst 3, 1) := by decide +kernel
theorem dX7_beside_36 : decode cX7_beside 36 = .ok (.if_icmp .ge 9, 3) := by decide +kernel
theorem dX7_beside_39 : decode cX7_beside 39 = .ok (.iload_n 0, 1) := by decide +kernel
theorem dX7_beside_40 : decode cX7_beside 40 = .ok (.iconst 1, 1) := by decide +kernel
theorem dX7_beside_41 : decode cX7_beside 41 = .ok (.iadd, 1) := by decide +kernel
theorem dX7_beside_42 : decode cX7_beside 42 = .ok (.goto 4, 3) := by decide +kernel
theorem dX7_beside_45 : decode cX7_beside 45 = .ok (.iconst (-1), 1) := by decide +kernel
theorem dX7_beside_46 : decode cX7_beside 46 = .ok (.ireturn, 1) := by decide +kernel
theorem dX7_beside_47 : decode cX7_beside 47 = .ok (.iload_n 0, 1) := by decide +kernel
theorem dX7_beside_48 : decode cX7_beside 48 = .ok (.iconst 4, 1) := by decide +kernel
theorem dX7_beside_49 : decode cX7_beside 49 = .ok (.irem, 1) := by decide +kernel
theorem dX7_beside_50 : decode cX7_beside 50 = .ok (.ifCond .le 9, 3) := by decide +kernel
theorem dX7_beside_53 : decode cX7_beside 53 = .ok (.iload_n 0, 1) := by decide +kernel
theorem dX7_beside_54 : decode cX7_beside 54 = .ok (.iconst 1, 1) := by decide +kernel
theorem dX7_beside_55 : decode cX7_beside 55 = .ok (.isub, 1) := by decide +kernel
theorem dX7_beside_56 : decode cX7_beside 56 = .ok (.goto 4, 3) := by decide +kernel
theorem dX7_beside_59 : decode cX7_beside 59 = .ok (.iconst (-1), 1) := by decide +kernel
theorem dX7_beside_60 : decode cX7_beside 60 = .ok (.ireturn, 1) := by decide +kernel
theorem dX7_beside_61 : decode cX7_beside 61 = .ok (.iload_n 0, 1) := by decide +kernel
theorem dX7_beside_62 : decode cX7_beside 62 = .ok (.iconst 4, 1) := by decide +kernel
theorem dX7_beside_63 : decode cX7_beside 63 = .ok (.if_icmp .ge 9, 3) := by decide +kernel
theorem dX7_beside_66 : decode cX7_beside 66 = .ok (.iload_n 0, 1) := by decide +kernel
theorem dX7_beside_67 : decode cX7_beside 67 = .ok (.iconst 4, 1) := by decide +kernel
theorem dX7_beside_68 : decode cX7_beside 68 = .ok (.iadd, 1) := by decide +kernel
theorem dX7_beside_69 : decode cX7_beside 69 = .ok (.goto 4, 3) := by decide +kernel
theorem dX7_beside_72 : decode cX7_beside 72 = .ok (.iconst (-1), 1) := by decide +kernel
theorem dX7_beside_73 : decode cX7_beside 73 = .ok (.ireturn, 1) := by decide +kernel
theorem dX7_beside_74 : decode cX7_beside 74 = .ok (.iload_n 0, 1) := by decide +kernel
theorem dX7_beside_75 : decode cX7_beside 75 = .ok (.iconst 4, 1) := by decide +kernel
theorem dX7_beside_76 : decode cX7_beside 76 = .ok (.if_icmp .lt 9, 3) := by decide +kernel
theorem dX7_beside_79 : decode cX7_beside 79 = .ok (.iload_n 0, 1) := by decide +kernel
theorem dX7_beside_80 : decode cX7_beside 80 = .ok (.iconst 4, 1) := by decide +kernel
theorem dX7_beside_81 : decode cX7_beside 81 = .ok (.isub, 1) := by decide +kernel
theorem dX7_beside_82 : decode cX7_beside 82 = .ok (.goto 4, 3) := by decide +kernel
theorem dX7_beside_85 : decode cX7_beside 85 = .ok (.iconst (-1), 1) := by decide +kernel
theorem dX7_beside_86 : decode cX7_beside 86 = .ok (.ireturn, 1) := by decide +kernel
theorem dX7_beside_87 : decode cX7_beside 87 = .ok (.iconst (-1), 1) := by decide +kernel
theorem dX7_beside_88 : decode cX7_beside 88 = .ok (.ireturn, 1) := by decide +kernel
theorem dX7_opposite_0 : decode cX7_opposite 0 = .ok (.iload_n 0, 1) := by decide +kernel
theorem dX7_opposite_1 : decode cX7_opposite 1 = .ok (.iconst 2, 1) := by decide +kernel
theorem dX7_opposite_2 : decode cX7_opposite 2 = .ok (.irem, 1) := by decide +kernel
theorem dX7_opposite_3 : decode cX7_opposite 3 = .ok (.iconst 1, 1) := by decide +kernel
theorem dX7_opposite_4 : decode cX7_opposite 4 = .ok (.if_icmp .ne 9, 3) := by decide +kernel
theorem dX7_opposite_7 : decode cX7_opposite 7 = .ok (.iload_n 0, 1) := by decide +kernel
theorem dX7_opposite_8 : decode cX7_opposite 8 = .ok (.iconst 1, 1) := by decide +kernel
theorem dX7_opposite_9 : decode cX7_opposite 9 = .ok (.iadd, 1) := by decide +kernel
theorem dX7_opposite_10 : decode cX7_opposite 10 = .ok (.goto 6, 3) := by decide +kernel
theorem dX7_opposite_13 : decode cX7_opposite 13 = .ok (.iload_n 0, 1) := by decide +kernel
theorem dX7_opposite_14 : decode cX7_opposite 14 = .ok (.iconst 1, 1) := by decide +kernel
theorem dX7_opposite_15 : decode cX7_opposite 15 = .ok (.isub, 1) := by decide +kernel
theorem dX7_opposite_16 : decode cX7_opposite 16 = .ok (.ireturn, 1) := by decide +kernel
theorem dX7_loss_0 : decode cX7_loss 0 = .ok (.aload_n 0, 1) := by decide +kernel
theorem dX7_loss_1 : decode cX7_loss 1 = .ok (.getfield 15, 3) := by decide +kernel
theorem dX7_loss_4 : decode cX7_loss 4 = .ok (.iload_n 3, 1) := by decide +kernel
theorem dX7_loss_5 : decode cX7_loss 5 = .ok (.isub, 1) := by decide +kernel
theorem dX7_loss_6 : decode cX7_loss 6 = .ok (.istore 5, 2) := by decide +kernel
theorem dX7_loss_8 : decode cX7_loss 8 = .ok (.iload 4, 2) := by decide +kernel
theorem dX7_loss_10 : decode cX7_loss 10 = .ok (.iload_n 2, 1) := by decide +kernel
theorem dX7_loss_11 : decode cX7_loss 11 = .ok (.if_icmp .ne 6, 3) := by decide +kernel
theorem dX7_loss_14 : decode cX7_loss 14 = .ok (.iinc 5 (-1), 3) := by decide +kernel
theorem dX7_loss_17 : decode cX7_loss 17 = .ok (.iload 4, 2) := by decide +kernel
theorem dX7_loss_19 : decode cX7_loss 19 = .ok (.iload_n 2, 1) := by decide +kernel
theorem dX7_loss_20 : decode cX7_loss 20 = .ok (.invokestatic 31, 3) := by decide +kernel
theorem dX7_loss_23 : decode cX7_loss 23 = .ok (.if_icmp .ne 6, 3) := by decide +kernel
theorem dX7_loss_26 : decode cX7_loss 26 = .ok (.iinc 5 1, 3) := by decide +kernel
theorem dX7_loss_29 : decode cX7_loss 29 = .ok (.aload_n 0, 1) := by decide +kernel
theorem dX7_loss_30 : decode cX7_loss 30 = .ok (.getfield 9, 3) := by decide +kernel
theorem dX7_loss_33 : decode cX7_loss 33 = .ok (.iload_n 1, 1) := by decide +kernel
theorem dX7_loss_34 : decode cX7_loss 34 = .ok (.iaload, 1) := by decide +kernel
theorem dX7_loss_35 : decode cX7_loss 35 = .ok (.iconst 2, 1) := by decide +kernel
theorem dX7_loss_36 : decode cX7_loss 36 = .ok (.if_icmp .ne 6, 3) := by decide +kernel
theorem dX7_loss_39 : decode cX7_loss 39 = .ok (.iinc 5 2, 3) := by decide +kernel
theorem dX7_loss_42 : decode cX7_loss 42 = .ok (.iload 5, 2) := by decide +kernel
theorem dX7_loss_44 : decode cX7_loss 44 = .ok (.iconst 0, 1) := by decide +kernel
theorem dX7_loss_45 : decode cX7_loss 45 = .ok (.invokestatic 34, 3) := by decide +kernel
theorem dX7_loss_48 : decode cX7_loss 48 = .ok (.ireturn, 1) := by decide +kernel
theorem dX7_spread_0 : decode cX7_spread 0 = .ok (.iconst 0, 1) := by decide +kernel
theorem dX7_spread_1 : decode cX7_spread 1 = .ok (.istore 7, 2) := by decide +kernel
theorem dX7_spread_3 : decode cX7_spread 3 = .ok (.iload 7, 2) := by decide +kernel
theorem dX7_spread_5 : decode cX7_spread 5 = .ok (.bipush 8, 2) := by decide +kernel
theorem dX7_spread_7 : decode cX7_spread 7 = .ok (.if_icmp .ge 15, 3) := by decide +kernel
theorem dX7_spread_10 : decode cX7_spread 10 = .ok (.aload 6, 2) := by decide +kernel
theorem dX7_spread_12 : decode cX7_spread 12 = .ok (.iload 7, 2) := by decide +kernel
theorem dX7_spread_14 : decode cX7_spread 14 = .ok (.iconst 0, 1) := by decide +kernel
theorem dX7_spread_15 : decode cX7_spread 15 = .ok (.iastore, 1) := by decide +kernel
theorem dX7_spread_16 : decode cX7_spread 16 = .ok (.iinc 7 1, 3) := by decide +kernel
theorem dX7_spread_19 : decode cX7_spread 19 = .ok (.goto (-16), 3) := by decide +kernel
theorem dX7_spread_22 : decode cX7_spread 22 = .ok (.aload 6, 2) := by decide +kernel
theorem dX7_spread_24 : decode cX7_spread 24 = .ok (.iload_n 1, 1) := by decide +kernel
theorem dX7_spread_25 : decode cX7_spread 25 = .ok (.iload_n 2, 1) := by decide +kernel
theorem dX7_spread_26 : decode cX7_spread 26 = .ok (.iastore, 1) := by decide +kernel
theorem dX7_spread_27 : decode cX7_spread 27 = .ok (.iconst 1, 1) := by decide +kernel
theorem dX7_spread_28 : decode cX7_spread 28 = .ok (.istore 7, 2) := by decide +kernel
theorem dX7_spread_30 : decode cX7_spread 30 = .ok (.iconst 0, 1) := by decide +kernel
theorem dX7_spread_31 : decode cX7_spread 31 = .ok (.istore 8, 2) := by decide +kernel
theorem dX7_spread_33 : decode cX7_spread 33 = .ok (.iload 8, 2) := by decide +kernel
theorem dX7_spread_35 : decode cX7_spread 35 = .ok (.bipush 8, 2) := by decide +kernel
theorem dX7_spread_37 : decode cX7_spread 37 = .ok (.if_icmp .ge 60, 3) := by decide +kernel
theorem dX7_spread_40 : decode cX7_spread 40 = .ok (.iload 7, 2) := by decide +kernel
theorem dX7_spread_42 : decode cX7_spread 42 = .ok (.ifCond .eq 55, 3) := by decide +kernel
theorem dX7_spread_45 : decode cX7_spread 45 = .ok (.iconst 0, 1) := by decide +kernel
theorem dX7_spread_46 : decode cX7_spread 46 = .ok (.istore 7, 2) := by decide +kernel
theorem dX7_spread_48 : decode cX7_spread 48 = .ok (.iconst 0, 1) := by decide +kernel
theorem dX7_spread_49 : decode cX7_spread 49 = .ok (.istore 9, 2) := by decide +kernel
theorem dX7_spread_51 : decode cX7_spread 51 = .ok (.iload 9, 2) := by decide +kernel
theorem dX7_spread_53 : decode cX7_spread 53 = .ok (.bipush 8, 2) := by decide +kernel
theorem dX7_spread_55 : decode cX7_spread 55 = .ok (.if_icmp .ge 36, 3) := by decide +kernel
theorem dX7_spread_58 : decode cX7_spread 58 = .ok (.aload 6, 2) := by decide +kernel
theorem dX7_spread_60 : decode cX7_spread 60 = .ok (.iload 9, 2) := by decide +kernel
theorem dX7_spread_62 : decode cX7_spread 62 = .ok (.iaload, 1) := by decide +kernel
theorem dX7_spread_63 : decode cX7_spread 63 = .ok (.ifCond .le 22, 3) := by decide +kernel
theorem dX7_spread_66 : decode cX7_spread 66 = .ok (.aload_n 0, 1) := by decide +kernel
theorem dX7_spread_67 : decode cX7_spread 67 = .ok (.iload 9, 2) := by decide +kernel
theorem dX7_spread_69 : decode cX7_spread 69 = .ok (.iload_n 3, 1) := by decide +kernel
theorem dX7_spread_70 : decode cX7_spread 70 = .ok (.iload 4, 2) := by decide +kernel
theorem dX7_spread_72 : decode cX7_spread 72 = .ok (.iload 5, 2) := by decide +kernel
theorem dX7_spread_74 : decode cX7_spread 74 = .ok (.aload 6, 2) := by decide +kernel
theorem dX7_spread_76 : decode cX7_spread 76 = .ok (.invokevirtual 40, 3) := by decide +kernel
theorem dX7_spread_79 : decode cX7_spread 79 = .ok (.ifCond .eq 6, 3) := by decide +kernel
theorem dX7_spread_82 : decode cX7_spread 82 = .ok (.iconst 1, 1) := by decide +kernel
theorem dX7_spread_83 : decode cX7_spread 83 = .ok (.istore 7, 2) := by decide +kernel
theorem dX7_spread_85 : decode cX7_spread 85 = .ok (.iinc 9 1, 3) := by decide +kernel
theorem dX7_spread_88 : decode cX7_spread 88 = .ok (.goto (-37), 3) := by decide +kernel
theorem dX7_spread_91 : decode cX7_spread 91 = .ok (.iinc 8 1, 3) := by decide +kernel
theorem dX7_spread_94 : decode cX7_spread 94 = .ok (.goto (-61), 3) := by decide +kernel
theorem dX7_spread_97 : decode cX7_spread 97 = .ok (.return_, 1) := by decide +kernel
theorem dX7_spreadOn_0 : decode cX7_spreadOn 0 = .ok (.iconst 0, 1) := by decide +kernel
theorem dX7_spreadOn_1 : decode cX7_spreadOn 1 = .ok (.istore 6, 2) := by decide +kernel
theorem dX7_spreadOn_3 : decode cX7_spreadOn 3 = .ok (.iconst 1, 1) := by decide +kernel
theorem dX7_spreadOn_4 : decode cX7_spreadOn 4 = .ok (.istore 7, 2) := by decide +kernel
theorem dX7_spreadOn_6 : decode cX7_spreadOn 6 = .ok (.iload 7, 2) := by decide +kernel
theorem dX7_spreadOn_8 : decode cX7_spreadOn 8 = .ok (.iconst 4, 1) := by decide +kernel
theorem dX7_spreadOn_9 : decode cX7_spreadOn 9 = .ok (.if_icmp .gt 79, 3) := by decide +kernel
theorem dX7_spreadOn_12 : decode cX7_spreadOn 12 = .ok (.iload_n 1, 1) := by decide +kernel
theorem dX7_spreadOn_13 : decode cX7_spreadOn 13 = .ok (.iload 7, 2) := by decide +kernel
theorem dX7_spreadOn_15 : decode cX7_spreadOn 15 = .ok (.invokestatic 44, 3) := by decide +kernel
theorem dX7_spreadOn_18 : decode cX7_spreadOn 18 = .ok (.istore 8, 2) := by decide +kernel
theorem dX7_spreadOn_20 : decode cX7_spreadOn 20 = .ok (.iload 8, 2) := by decide +kernel
theorem dX7_spreadOn_22 : decode cX7_spreadOn 22 = .ok (.iconst (-1), 1) := by decide +kernel
theorem dX7_spreadOn_23 : decode cX7_spreadOn 23 = .ok (.if_icmp .eq 59, 3) := by decide +kernel
theorem dX7_spreadOn_26 : decode cX7_spreadOn 26 = .ok (.aload_n 0, 1) := by decide +kernel
theorem dX7_spreadOn_27 : decode cX7_spreadOn 27 = .ok (.iload 8, 2) := by decide +kernel
theorem dX7_spreadOn_29 : decode cX7_spreadOn 29 = .ok (.invokevirtual 47, 3) := by decide +kernel
theorem dX7_spreadOn_32 : decode cX7_spreadOn 32 = .ok (.ifCond .ne 50, 3) := by decide +kernel
theorem dX7_spreadOn_35 : decode cX7_spreadOn 35 = .ok (.iload 4, 2) := by decide +kernel
theorem dX7_spreadOn_37 : decode cX7_spreadOn 37 = .ok (.iload 8, 2) := by decide +kernel
theorem dX7_spreadOn_39 : decode cX7_spreadOn 39 = .ok (.ishr, 1) := by decide +kernel
theorem dX7_spreadOn_40 : decode cX7_spreadOn 40 = .ok (.iconst 1, 1) := by decide +kernel
theorem dX7_spreadOn_41 : decode cX7_spreadOn 41 = .ok (.iand, 1) := by decide +kernel
theorem dX7_spreadOn_42 : decode cX7_spreadOn 42 = .ok (.ifCond .ne 40, 3) := by decide +kernel
theorem dX7_spreadOn_45 : decode cX7_spreadOn 45 = .ok (.aload 5, 2) := by decide +kernel
theorem dX7_spreadOn_47 : decode cX7_spreadOn 47 = .ok (.iload_n 1, 1) := by decide +kernel
theorem dX7_spreadOn_48 : decode cX7_spreadOn 48 = .ok (.iaload, 1) := by decide +kernel
theorem dX7_spreadOn_49 : decode cX7_spreadOn 49 = .ok (.aload_n 0, 1) := by decide +kernel
theorem dX7_spreadOn_50 : decode cX7_spreadOn 50 = .ok (.iload 8, 2) := by decide +kernel
theorem dX7_spreadOn_52 : decode cX7_spreadOn 52 = .ok (.iload 7, 2) := by decide +kernel
theorem dX7_spreadOn_54 : decode cX7_spreadOn 54 = .ok (.iload_n 2, 1) := by decide +kernel
theorem dX7_spreadOn_55 : decode cX7_spreadOn 55 = .ok (.iload_n 3, 1) := by decide +kernel
theorem dX7_spreadOn_56 : decode cX7_spreadOn 56 = .ok (.invokevirtual 51, 3) := by decide +kernel
theorem dX7_spreadOn_59 : decode cX7_spreadOn 59 = .ok (.isub, 1) := by decide +kernel
theorem dX7_spreadOn_60 : decode cX7_spreadOn 60 = .ok (.istore 9, 2) := by decide +kernel
theorem dX7_spreadOn_62 : decode cX7_spreadOn 62 = .ok (.iload 9, 2) := by decide +kernel
theorem dX7_spreadOn_64 : decode cX7_spreadOn 64 = .ok (.aload 5, 2) := by decide +kernel
theorem dX7_spreadOn_66 : decode cX7_spreadOn 66 = .ok (.iload 8, 2) := by decide +kernel
theorem dX7_spreadOn_68 : decode cX7_spreadOn 68 = .ok (.iaload, 1) := by decide +kernel
theorem dX7_spreadOn_69 : decode cX7_spreadOn 69 = .ok (.if_icmp .le 13, 3) := by decide +kernel
theorem dX7_spreadOn_72 : decode cX7_spreadOn 72 = .ok (.aload 5, 2) := by decide +kernel
theorem dX7_spreadOn_74 : decode cX7_spreadOn 74 = .ok (.iload 8, 2) := by decide +kernel
theorem dX7_spreadOn_76 : decode cX7_spreadOn 76 = .ok (.iload 9, 2) := by decide +kernel
theorem dX7_spreadOn_78 : decode cX7_spreadOn 78 = .ok (.iastore, 1) := by decide +kernel
theorem dX7_spreadOn_79 : decode cX7_spreadOn 79 = .ok (.iconst 1, 1) := by decide +kernel
theorem dX7_spreadOn_80 : decode cX7_spreadOn 80 = .ok (.istore 6, 2) := by decide +kernel
theorem dX7_spreadOn_82 : decode cX7_spreadOn 82 = .ok (.iinc 7 1, 3) := by decide +kernel
theorem dX7_spreadOn_85 : decode cX7_spreadOn 85 = .ok (.goto (-79), 3) := by decide +kernel
theorem dX7_spreadOn_88 : decode cX7_spreadOn 88 = .ok (.iload 6, 2) := by decide +kernel
theorem dX7_spreadOn_90 : decode cX7_spreadOn 90 = .ok (.ireturn, 1) := by decide +kernel
theorem dX8_init_0 : decode cX8_init 0 = .ok (.aload_n 0, 1) := by decide +kernel
theorem dX8_init_1 : decode cX8_init 1 = .ok (.iload_n 1, 1) := by decide +kernel
theorem dX8_init_2 : decode cX8_init 2 = .ok (.iload_n 2, 1) := by decide +kernel
theorem dX8_init_3 : decode cX8_init 3 = .ok (.iload_n 3, 1) := by decide +kernel
theorem dX8_init_4 : decode cX8_init 4 = .ok (.invokespecial 1, 3) := by decide +kernel
theorem dX8_init_7 : decode cX8_init 7 = .ok (.return_, 1) := by decide +kernel
theorem dX8_kindNumber_0 : decode cX8_kindNumber 0 = .ok (.iconst 4, 1) := by decide +kernel
theorem dX8_kindNumber_1 : decode cX8_kindNumber 1 = .ok (.ireturn, 1) := by decide +kernel
theorem dX8_smellsAt_0 : decode cX8_smellsAt 0 = .ok (.iconst 1, 1) := by decide +kernel
theorem dX8_smellsAt_1 : decode cX8_smellsAt 1 = .ok (.ireturn, 1) := by decide +kernel
theorem dX9_init_0 : decode cX9_init 0 = .ok (.aload_n 0, 1) := by decide +kernel
theorem dX9_init_1 : decode cX9_init 1 = .ok (.invokespecial 3, 3) := by decide +kernel
theorem dX9_init_4 : decode cX9_init 4 = .ok (.aload_n 0, 1) := by decide +kernel
theorem dX9_init_5 : decode cX9_init 5 = .ok (.new 9, 3) := by decide +kernel
theorem dX9_init_8 : decode cX9_init 8 = .ok (.dup, 1) := by decide +kernel
theorem dX9_init_9 : decode cX9_init 9 = .ok (.invokespecial 11, 3) := by decide +kernel
theorem dX9_init_12 : decode cX9_init 12 = .ok (.putfield 12, 3) := by decide +kernel
theorem dX9_init_15 : decode cX9_init 15 = .ok (.aload_n 0, 1) := by decide +kernel
theorem dX9_init_16 : decode cX9_init 16 = .ok (.new 16, 3) := by decide +kernel
theorem dX9_init_19 : decode cX9_init 19 = .ok (.dup, 1) := by decide +kernel
theorem dX9_init_20 : decode cX9_init 20 = .ok (.invokespecial 18, 3) := by decide +kernel
theorem dX9_init_23 : decode cX9_init 23 = .ok (.putfield 19, 3) := by decide +kernel
theorem dX9_init_26 : decode cX9_init 26 = .ok (.aload_n 0, 1) := by decide +kernel
theorem dX9_init_27 : decode cX9_init 27 = .ok (.bipush 6, 2) := by decide +kernel
theorem dX9_init_29 : decode cX9_init 29 = .ok (.anewarray 23, 3) := by decide +kernel
theorem dX9_init_32 : decode cX9_init 32 = .ok (.putfield 25, 3) := by decide +kernel
theorem dX9_init_35 : decode cX9_init 35 = .ok (.aload_n 0, 1) := by decide +kernel
theorem dX9_init_36 : decode cX9_init 36 = .ok (.new 29, 3) := by decide +kernel
theorem dX9_init_39 : decode cX9_init 39 = .ok (.dup, 1) := by decide +kernel
theorem dX9_init_40 : decode cX9_init 40 = .ok (.invokespecial 31, 3) := by decide +kernel
theorem dX9_init_43 : decode cX9_init 43 = .ok (.putfield 32, 3) := by decide +kernel
theorem dX9_init_46 : decode cX9_init 46 = .ok (.aload_n 0, 1) := by decide +kernel
theorem dX9_init_47 : decode cX9_init 47 = .ok (.new 29, 3) := by decide +kernel
theorem dX9_init_50 : decode cX9_init 50 = .ok (.dup, 1) := by decide +kernel
theorem dX9_init_51 : decode cX9_init 51 = .ok (.invokespecial 31, 3) := by decide +kernel
theorem dX9_init_54 : decode cX9_init 54 = .ok (.putfield 36, 3) := by decide +kernel
theorem dX9_init_57 : decode cX9_init 57 = .ok (.aload_n 0, 1) := by decide +kernel
theorem dX9_init_58 : decode cX9_init 58 = .ok (.new 29, 3) := by decide +kernel

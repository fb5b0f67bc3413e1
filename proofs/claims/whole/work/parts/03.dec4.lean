theorem dX10_burn_20 : decode cX10_burn 20 = .ok (.iadd, 1) := by decide +kernel
theorem dX10_burn_21 : decode cX10_burn 21 = .ok (.iaload, 1) := by decide +kernel
theorem dX10_burn_22 : decode cX10_burn 22 = .ok (.istore_n 3, 1) := by decide +kernel
theorem dX10_burn_23 : decode cX10_burn 23 = .ok (.aload_n 0, 1) := by decide +kernel
theorem dX10_burn_24 : decode cX10_burn 24 = .ok (.getfield 22, 3) := by decide +kernel
theorem dX10_burn_27 : decode cX10_burn 27 = .ok (.bipush 6, 2) := by decide +kernel
theorem dX10_burn_29 : decode cX10_burn 29 = .ok (.iload_n 1, 1) := by decide +kernel
theorem dX10_burn_30 : decode cX10_burn 30 = .ok (.imul, 1) := by decide +kernel
theorem dX10_burn_31 : decode cX10_burn 31 = .ok (.iconst 4, 1) := by decide +kernel
theorem dX10_burn_32 : decode cX10_burn 32 = .ok (.iadd, 1) := by decide +kernel
theorem dX10_burn_33 : decode cX10_burn 33 = .ok (.iload_n 2, 1) := by decide +kernel
theorem dX10_burn_34 : decode cX10_burn 34 = .ok (.ifCond .eq 7, 3) := by decide +kernel
theorem dX10_burn_37 : decode cX10_burn 37 = .ok (.iconst 1, 1) := by decide +kernel
theorem dX10_burn_38 : decode cX10_burn 38 = .ok (.goto 4, 3) := by decide +kernel
theorem dX10_burn_41 : decode cX10_burn 41 = .ok (.iconst 0, 1) := by decide +kernel
theorem dX10_burn_42 : decode cX10_burn 42 = .ok (.iastore, 1) := by decide +kernel
theorem dX10_burn_43 : decode cX10_burn 43 = .ok (.iload_n 3, 1) := by decide +kernel
theorem dX10_burn_44 : decode cX10_burn 44 = .ok (.ireturn, 1) := by decide +kernel
theorem dX10_wind_0 : decode cX10_wind 0 = .ok (.iload_n 1, 1) := by decide +kernel
theorem dX10_wind_1 : decode cX10_wind 1 = .ok (.i2l, 1) := by decide +kernel
theorem dX10_wind_2 : decode cX10_wind 2 = .ok (.lconst 0, 1) := by decide +kernel
theorem dX10_wind_3 : decode cX10_wind 3 = .ok (.ldc2_w 113, 3) := by decide +kernel
theorem dX10_wind_6 : decode cX10_wind 6 = .ok (.invokestatic 64, 3) := by decide +kernel
theorem dX10_wind_9 : decode cX10_wind 9 = .ok (.ifCond .ne 6, 3) := by decide +kernel
theorem dX10_wind_12 : decode cX10_wind 12 = .ok (.bipush (-102), 2) := by decide +kernel
theorem dX10_wind_14 : decode cX10_wind 14 = .ok (.ireturn, 1) := by decide +kernel
theorem dX10_wind_15 : decode cX10_wind 15 = .ok (.aload_n 0, 1) := by decide +kernel
theorem dX10_wind_16 : decode cX10_wind 16 = .ok (.invokevirtual 109, 3) := by decide +kernel
theorem dX10_wind_19 : decode cX10_wind 19 = .ok (.ifCond .eq 6, 3) := by decide +kernel
theorem dX10_wind_22 : decode cX10_wind 22 = .ok (.bipush (-103), 2) := by decide +kernel
theorem dX10_wind_24 : decode cX10_wind 24 = .ok (.ireturn, 1) := by decide +kernel
theorem dX10_wind_25 : decode cX10_wind 25 = .ok (.aload_n 0, 1) := by decide +kernel
theorem dX10_wind_26 : decode cX10_wind 26 = .ok (.getfield 86, 3) := by decide +kernel
theorem dX10_wind_29 : decode cX10_wind 29 = .ok (.istore_n 2, 1) := by decide +kernel
theorem dX10_wind_30 : decode cX10_wind 30 = .ok (.aload_n 0, 1) := by decide +kernel
theorem dX10_wind_31 : decode cX10_wind 31 = .ok (.iload_n 1, 1) := by decide +kernel
theorem dX10_wind_32 : decode cX10_wind 32 = .ok (.putfield 86, 3) := by decide +kernel
theorem dX10_wind_35 : decode cX10_wind 35 = .ok (.iload_n 2, 1) := by decide +kernel
theorem dX10_wind_36 : decode cX10_wind 36 = .ok (.ireturn, 1) := by decide +kernel
theorem dX10_frost_0 : decode cX10_frost 0 = .ok (.aload_n 0, 1) := by decide +kernel
theorem dX10_frost_1 : decode cX10_frost 1 = .ok (.invokevirtual 109, 3) := by decide +kernel
theorem dX10_frost_4 : decode cX10_frost 4 = .ok (.ifCond .eq 6, 3) := by decide +kernel
theorem dX10_frost_7 : decode cX10_frost 7 = .ok (.bipush (-103), 2) := by decide +kernel
theorem dX10_frost_9 : decode cX10_frost 9 = .ok (.ireturn, 1) := by decide +kernel
theorem dX10_frost_10 : decode cX10_frost 10 = .ok (.aload_n 0, 1) := by decide +kernel
theorem dX10_frost_11 : decode cX10_frost 11 = .ok (.getfield 89, 3) := by decide +kernel
theorem dX10_frost_14 : decode cX10_frost 14 = .ok (.istore_n 2, 1) := by decide +kernel
theorem dX10_frost_15 : decode cX10_frost 15 = .ok (.aload_n 0, 1) := by decide +kernel
theorem dX10_frost_16 : decode cX10_frost 16 = .ok (.iload_n 1, 1) := by decide +kernel
theorem dX10_frost_17 : decode cX10_frost 17 = .ok (.ifCond .eq 7, 3) := by decide +kernel
theorem dX10_frost_20 : decode cX10_frost 20 = .ok (.iconst 1, 1) := by decide +kernel
theorem dX10_frost_21 : decode cX10_frost 21 = .ok (.goto 4, 3) := by decide +kernel
theorem dX10_frost_24 : decode cX10_frost 24 = .ok (.iconst 0, 1) := by decide +kernel
theorem dX10_frost_25 : decode cX10_frost 25 = .ok (.putfield 89, 3) := by decide +kernel
theorem dX10_frost_28 : decode cX10_frost 28 = .ok (.iload_n 2, 1) := by decide +kernel
theorem dX10_frost_29 : decode cX10_frost 29 = .ok (.ireturn, 1) := by decide +kernel
theorem dX10_people_0 : decode cX10_people 0 = .ok (.aload_n 0, 1) := by decide +kernel
theorem dX10_people_1 : decode cX10_people 1 = .ok (.iload_n 1, 1) := by decide +kernel
theorem dX10_people_2 : decode cX10_people 2 = .ok (.invokevirtual 119, 3) := by decide +kernel
theorem dX10_people_5 : decode cX10_people 5 = .ok (.ifCond .ne 6, 3) := by decide +kernel
theorem dX10_people_8 : decode cX10_people 8 = .ok (.bipush (-101), 2) := by decide +kernel
theorem dX10_people_10 : decode cX10_people 10 = .ok (.ireturn, 1) := by decide +kernel
theorem dX10_people_11 : decode cX10_people 11 = .ok (.iload_n 2, 1) := by decide +kernel
theorem dX10_people_12 : decode cX10_people 12 = .ok (.i2l, 1) := by decide +kernel
theorem dX10_people_13 : decode cX10_people 13 = .ok (.lconst 0, 1) := by decide +kernel
theorem dX10_people_14 : decode cX10_people 14 = .ok (.ldc2_w 117, 3) := by decide +kernel
theorem dX10_people_17 : decode cX10_people 17 = .ok (.invokestatic 64, 3) := by decide +kernel
theorem dX10_people_20 : decode cX10_people 20 = .ok (.ifCond .ne 6, 3) := by decide +kernel
theorem dX10_people_23 : decode cX10_people 23 = .ok (.bipush (-102), 2) := by decide +kernel
theorem dX10_people_25 : decode cX10_people 25 = .ok (.ireturn, 1) := by decide +kernel
theorem dX10_people_26 : decode cX10_people 26 = .ok (.aload_n 0, 1) := by decide +kernel
theorem dX10_people_27 : decode cX10_people 27 = .ok (.getfield 13, 3) := by decide +kernel
theorem dX10_people_30 : decode cX10_people 30 = .ok (.iload_n 1, 1) := by decide +kernel
theorem dX10_people_31 : decode cX10_people 31 = .ok (.iaload, 1) := by decide +kernel
theorem dX10_people_32 : decode cX10_people 32 = .ok (.iconst 1, 1) := by decide +kernel
theorem dX10_people_33 : decode cX10_people 33 = .ok (.if_icmp .ne 6, 3) := by decide +kernel
theorem dX10_people_36 : decode cX10_people 36 = .ok (.bipush (-103), 2) := by decide +kernel
theorem dX10_people_38 : decode cX10_people 38 = .ok (.ireturn, 1) := by decide +kernel
theorem dX10_people_39 : decode cX10_people 39 = .ok (.aload_n 0, 1) := by decide +kernel
theorem dX10_people_40 : decode cX10_people 40 = .ok (.getfield 16, 3) := by decide +kernel
theorem dX10_people_43 : decode cX10_people 43 = .ok (.iload_n 1, 1) := by decide +kernel
theorem dX10_people_44 : decode cX10_people 44 = .ok (.iaload, 1) := by decide +kernel
theorem dX10_people_45 : decode cX10_people 45 = .ok (.istore_n 3, 1) := by decide +kernel
theorem dX10_people_46 : decode cX10_people 46 = .ok (.aload_n 0, 1) := by decide +kernel
theorem dX10_people_47 : decode cX10_people 47 = .ok (.getfield 16, 3) := by decide +kernel
theorem dX10_people_50 : decode cX10_people 50 = .ok (.iload_n 1, 1) := by decide +kernel
theorem dX10_people_51 : decode cX10_people 51 = .ok (.iload_n 2, 1) := by decide +kernel
theorem dX10_people_52 : decode cX10_people 52 = .ok (.iastore, 1) := by decide +kernel
theorem dX10_people_53 : decode cX10_people 53 = .ok (.iload_n 3, 1) := by decide +kernel
theorem dX10_people_54 : decode cX10_people 54 = .ok (.ireturn, 1) := by decide +kernel
theorem dX10_dusk_0 : decode cX10_dusk 0 = .ok (.aload_n 0, 1) := by decide +kernel
theorem dX10_dusk_1 : decode cX10_dusk 1 = .ok (.invokevirtual 109, 3) := by decide +kernel
theorem dX10_dusk_4 : decode cX10_dusk 4 = .ok (.ifCond .eq 6, 3) := by decide +kernel
theorem dX10_dusk_7 : decode cX10_dusk 7 = .ok (.bipush (-103), 2) := by decide +kernel
theorem dX10_dusk_9 : decode cX10_dusk 9 = .ok (.ireturn, 1) := by decide +kernel
theorem dX10_dusk_10 : decode cX10_dusk 10 = .ok (.aload_n 0, 1) := by decide +kernel
theorem dX10_dusk_11 : decode cX10_dusk 11 = .ok (.invokevirtual 149, 3) := by decide +kernel
theorem dX10_dusk_14 : decode cX10_dusk 14 = .ok (.iconst 0, 1) := by decide +kernel
theorem dX10_dusk_15 : decode cX10_dusk 15 = .ok (.istore_n 1, 1) := by decide +kernel
theorem dX10_dusk_16 : decode cX10_dusk 16 = .ok (.iconst 0, 1) := by decide +kernel
theorem dX10_dusk_17 : decode cX10_dusk 17 = .ok (.istore_n 2, 1) := by decide +kernel
theorem dX10_dusk_18 : decode cX10_dusk 18 = .ok (.iconst 0, 1) := by decide +kernel
theorem dX10_dusk_19 : decode cX10_dusk 19 = .ok (.istore_n 3, 1) := by decide +kernel
theorem dX10_dusk_20 : decode cX10_dusk 20 = .ok (.iload_n 3, 1) := by decide +kernel
theorem dX10_dusk_21 : decode cX10_dusk 21 = .ok (.bipush 8, 2) := by decide +kernel
theorem dX10_dusk_23 : decode cX10_dusk 23 = .ok (.if_icmp .ge 58, 3) := by decide +kernel
theorem dX10_dusk_26 : decode cX10_dusk 26 = .ok (.aload_n 0, 1) := by decide +kernel
theorem dX10_dusk_27 : decode cX10_dusk 27 = .ok (.iload_n 3, 1) := by decide +kernel
theorem dX10_dusk_28 : decode cX10_dusk 28 = .ok (.invokevirtual 152, 3) := by decide +kernel
theorem dX10_dusk_31 : decode cX10_dusk 31 = .ok (.iconst (-1), 1) := by decide +kernel
theorem dX10_dusk_32 : decode cX10_dusk 32 = .ok (.if_icmp .ne 15, 3) := by decide +kernel
theorem dX10_dusk_35 : decode cX10_dusk 35 = .ok (.iload_n 1, 1) := by decide +kernel
theorem dX10_dusk_36 : decode cX10_dusk 36 = .ok (.aload_n 0, 1) := by decide +kernel
theorem dX10_dusk_37 : decode cX10_dusk 37 = .ok (.getfield 16, 3) := by decide +kernel
theorem dX10_dusk_40 : decode cX10_dusk 40 = .ok (.iload_n 3, 1) := by decide +kernel
theorem dX10_dusk_41 : decode cX10_dusk 41 = .ok (.iaload, 1) := by decide +kernel
theorem dX10_dusk_42 : decode cX10_dusk 42 = .ok (.iadd, 1) := by decide +kernel
theorem dX10_dusk_43 : decode cX10_dusk 43 = .ok (.istore_n 1, 1) := by decide +kernel
theorem dX10_dusk_44 : decode cX10_dusk 44 = .ok (.goto 31, 3) := by decide +kernel
theorem dX10_dusk_47 : decode cX10_dusk 47 = .ok (.aload_n 0, 1) := by decide +kernel
theorem dX10_dusk_48 : decode cX10_dusk 48 = .ok (.getfield 19, 3) := by decide +kernel
theorem dX10_dusk_51 : decode cX10_dusk 51 = .ok (.aload_n 0, 1) := by decide +kernel
theorem dX10_dusk_52 : decode cX10_dusk 52 = .ok (.iload_n 3, 1) := by decide +kernel
theorem dX10_dusk_53 : decode cX10_dusk 53 = .ok (.invokevirtual 152, 3) := by decide +kernel
theorem dX10_dusk_56 : decode cX10_dusk 56 = .ok (.dup2, 1) := by decide +kernel
theorem dX10_dusk_57 : decode cX10_dusk 57 = .ok (.iaload, 1) := by decide +kernel
theorem dX10_dusk_58 : decode cX10_dusk 58 = .ok (.aload_n 0, 1) := by decide +kernel
theorem dX10_dusk_59 : decode cX10_dusk 59 = .ok (.getfield 16, 3) := by decide +kernel
theorem dX10_dusk_62 : decode cX10_dusk 62 = .ok (.iload_n 3, 1) := by decide +kernel
theorem dX10_dusk_63 : decode cX10_dusk 63 = .ok (.iaload, 1) := by decide +kernel
theorem dX10_dusk_64 : decode cX10_dusk 64 = .ok (.iadd, 1) := by decide +kernel
theorem dX10_dusk_65 : decode cX10_dusk 65 = .ok (.iastore, 1) := by decide +kernel
theorem dX10_dusk_66 : decode cX10_dusk 66 = .ok (.iload_n 2, 1) := by decide +kernel
theorem dX10_dusk_67 : decode cX10_dusk 67 = .ok (.aload_n 0, 1) := by decide +kernel
theorem dX10_dusk_68 : decode cX10_dusk 68 = .ok (.getfield 16, 3) := by decide +kernel
theorem dX10_dusk_71 : decode cX10_dusk 71 = .ok (.iload_n 3, 1) := by decide +kernel
theorem dX10_dusk_72 : decode cX10_dusk 72 = .ok (.iaload, 1) := by decide +kernel
theorem dX10_dusk_73 : decode cX10_dusk 73 = .ok (.iadd, 1) := by decide +kernel
theorem dX10_dusk_74 : decode cX10_dusk 74 = .ok (.istore_n 2, 1) := by decide +kernel
theorem dX10_dusk_75 : decode cX10_dusk 75 = .ok (.iinc 3 1, 3) := by decide +kernel
theorem dX10_dusk_78 : decode cX10_dusk 78 = .ok (.goto (-58), 3) := by decide +kernel
theorem dX10_dusk_81 : decode cX10_dusk 81 = .ok (.iconst 0, 1) := by decide +kernel
theorem dX10_dusk_82 : decode cX10_dusk 82 = .ok (.istore_n 3, 1) := by decide +kernel
theorem dX10_dusk_83 : decode cX10_dusk 83 = .ok (.iload_n 3, 1) := by decide +kernel
theorem dX10_dusk_84 : decode cX10_dusk 84 = .ok (.iconst 3, 1) := by decide +kernel
theorem dX10_dusk_85 : decode cX10_dusk 85 = .ok (.if_icmp .ge 27, 3) := by decide +kernel
theorem dX10_dusk_88 : decode cX10_dusk 88 = .ok (.aload_n 0, 1) := by decide +kernel
theorem dX10_dusk_89 : decode cX10_dusk 89 = .ok (.getfield 19, 3) := by decide +kernel
theorem dX10_dusk_92 : decode cX10_dusk 92 = .ok (.iload_n 3, 1) := by decide +kernel
theorem dX10_dusk_93 : decode cX10_dusk 93 = .ok (.dup2, 1) := by decide +kernel
theorem dX10_dusk_94 : decode cX10_dusk 94 = .ok (.iaload, 1) := by decide +kernel
theorem dX10_dusk_95 : decode cX10_dusk 95 = .ok (.iload_n 1, 1) := by decide +kernel
theorem dX10_dusk_96 : decode cX10_dusk 96 = .ok (.iconst 2, 1) := by decide +kernel
theorem dX10_dusk_97 : decode cX10_dusk 97 = .ok (.idiv, 1) := by decide +kernel
theorem dX10_dusk_98 : decode cX10_dusk 98 = .ok (.iadd, 1) := by decide +kernel
theorem dX10_dusk_99 : decode cX10_dusk 99 = .ok (.iastore, 1) := by decide +kernel
theorem dX10_dusk_100 : decode cX10_dusk 100 = .ok (.iload_n 2, 1) := by decide +kernel
theorem dX10_dusk_101 : decode cX10_dusk 101 = .ok (.iload_n 1, 1) := by decide +kernel
theorem dX10_dusk_102 : decode cX10_dusk 102 = .ok (.iconst 2, 1) := by decide +kernel
theorem dX10_dusk_103 : decode cX10_dusk 103 = .ok (.idiv, 1) := by decide +kernel
theorem dX10_dusk_104 : decode cX10_dusk 104 = .ok (.iadd, 1) := by decide +kernel
theorem dX10_dusk_105 : decode cX10_dusk 105 = .ok (.istore_n 2, 1) := by decide +kernel
theorem dX10_dusk_106 : decode cX10_dusk 106 = .ok (.iinc 3 1, 3) := by decide +kernel
theorem dX10_dusk_109 : decode cX10_dusk 109 = .ok (.goto (-26), 3) := by decide +kernel
theorem dX10_dusk_112 : decode cX10_dusk 112 = .ok (.iload_n 2, 1) := by decide +kernel
theorem dX10_dusk_113 : decode cX10_dusk 113 = .ok (.ireturn, 1) := by decide +kernel
theorem dX10_ends_0 : decode cX10_ends 0 = .ok (.iconst 0, 1) := by decide +kernel
theorem dX10_ends_1 : decode cX10_ends 1 = .ok (.istore_n 1, 1) := by decide +kernel
theorem dX10_ends_2 : decode cX10_ends 2 = .ok (.iload_n 1, 1) := by decide +kernel
theorem dX10_ends_3 : decode cX10_ends 3 = .ok (.aload_n 0, 1) := by decide +kernel
theorem dX10_ends_4 : decode cX10_ends 4 = .ok (.getfield 95, 3) := by decide +kernel
theorem dX10_ends_7 : decode cX10_ends 7 = .ok (.if_icmp .ge 34, 3) := by decide +kernel
theorem dX10_ends_10 : decode cX10_ends 10 = .ok (.aload_n 0, 1) := by decide +kernel
theorem dX10_ends_11 : decode cX10_ends 11 = .ok (.getfield 22, 3) := by decide +kernel
theorem dX10_ends_14 : decode cX10_ends 14 = .ok (.bipush 6, 2) := by decide +kernel
theorem dX10_ends_16 : decode cX10_ends 16 = .ok (.iload_n 1, 1) := by decide +kernel
theorem dX10_ends_17 : decode cX10_ends 17 = .ok (.imul, 1) := by decide +kernel
theorem dX10_ends_18 : decode cX10_ends 18 = .ok (.iconst 5, 1) := by decide +kernel
theorem dX10_ends_19 : decode cX10_ends 19 = .ok (.iadd, 1) := by decide +kernel
theorem dX10_ends_20 : decode cX10_ends 20 = .ok (.dup2, 1) := by decide +kernel
theorem dX10_ends_21 : decode cX10_ends 21 = .ok (.iaload, 1) := by decide +kernel
theorem dX10_ends_22 : decode cX10_ends 22 = .ok (.aload_n 0, 1) := by decide +kernel
theorem dX10_ends_23 : decode cX10_ends 23 = .ok (.getfield 22, 3) := by decide +kernel
theorem dX10_ends_26 : decode cX10_ends 26 = .ok (.bipush 6, 2) := by decide +kernel
theorem dX10_ends_28 : decode cX10_ends 28 = .ok (.iload_n 1, 1) := by decide +kernel
theorem dX10_ends_29 : decode cX10_ends 29 = .ok (.imul, 1) := by decide +kernel
theorem dX10_ends_30 : decode cX10_ends 30 = .ok (.iconst 4, 1) := by decide +kernel
theorem dX10_ends_31 : decode cX10_ends 31 = .ok (.iadd, 1) := by decide +kernel
theorem dX10_ends_32 : decode cX10_ends 32 = .ok (.iaload, 1) := by decide +kernel
theorem dX10_ends_33 : decode cX10_ends 33 = .ok (.iadd, 1) := by decide +kernel
theorem dX10_ends_34 : decode cX10_ends 34 = .ok (.iastore, 1) := by decide +kernel
theorem dX10_ends_35 : decode cX10_ends 35 = .ok (.iinc 1 1, 3) := by decide +kernel
theorem dX10_ends_38 : decode cX10_ends 38 = .ok (.goto (-36), 3) := by decide +kernel
theorem dX10_ends_41 : decode cX10_ends 41 = .ok (.aload_n 0, 1) := by decide +kernel
theorem dX10_ends_42 : decode cX10_ends 42 = .ok (.dup, 1) := by decide +kernel
theorem dX10_ends_43 : decode cX10_ends 43 = .ok (.getfield 92, 3) := by decide +kernel
theorem dX10_ends_46 : decode cX10_ends 46 = .ok (.iconst 1, 1) := by decide +kernel
theorem dX10_ends_47 : decode cX10_ends 47 = .ok (.iadd, 1) := by decide +kernel
theorem dX10_ends_48 : decode cX10_ends 48 = .ok (.putfield 92, 3) := by decide +kernel
theorem dX10_ends_51 : decode cX10_ends 51 = .ok (.return_, 1) := by decide +kernel
theorem dX10_hour_0 : decode cX10_hour 0 = .ok (.aload_n 0, 1) := by decide +kernel
theorem dX10_hour_1 : decode cX10_hour 1 = .ok (.invokevirtual 109, 3) := by decide +kernel
theorem dX10_hour_4 : decode cX10_hour 4 = .ok (.ifCond .eq 6, 3) := by decide +kernel
theorem dX10_hour_7 : decode cX10_hour 7 = .ok (.bipush (-103), 2) := by decide +kernel
theorem dX10_hour_9 : decode cX10_hour 9 = .ok (.ireturn, 1) := by decide +kernel
theorem dX10_hour_10 : decode cX10_hour 10 = .ok (.aload_n 0, 1) := by decide +kernel
theorem dX10_hour_11 : decode cX10_hour 11 = .ok (.invokevirtual 173, 3) := by decide +kernel
theorem dX10_hour_14 : decode cX10_hour 14 = .ok (.aload_n 0, 1) := by decide +kernel
theorem dX10_hour_15 : decode cX10_hour 15 = .ok (.getfield 92, 3) := by decide +kernel
theorem dX10_hour_18 : decode cX10_hour 18 = .ok (.ireturn, 1) := by decide +kernel
theorem dX10_whoseBy_0 : decode cX10_whoseBy 0 = .ok (.aload_n 0, 1) := by decide +kernel
theorem dX10_whoseBy_1 : decode cX10_whoseBy 1 = .ok (.aload_n 0, 1) := by decide +kernel
theorem dX10_whoseBy_2 : decode cX10_whoseBy 2 = .ok (.getfield 95, 3) := by decide +kernel
theorem dX10_whoseBy_5 : decode cX10_whoseBy 5 = .ok (.iconst 0, 1) := by decide +kernel
theorem dX10_whoseBy_6 : decode cX10_whoseBy 6 = .ok (.iload_n 2, 1) := by decide +kernel
theorem dX10_whoseBy_7 : decode cX10_whoseBy 7 = .ok (.iload_n 3, 1) := by decide +kernel
theorem dX10_whoseBy_8 : decode cX10_whoseBy 8 = .ok (.iload 4, 2) := by decide +kernel
theorem dX10_whoseBy_10 : decode cX10_whoseBy 10 = .ok (.invokevirtual 123, 3) := by decide +kernel
theorem dX10_whoseBy_13 : decode cX10_whoseBy 13 = .ok (.aload_n 0, 1) := by decide +kernel
theorem dX10_whoseBy_14 : decode cX10_whoseBy 14 = .ok (.dup, 1) := by decide +kernel
theorem dX10_whoseBy_15 : decode cX10_whoseBy 15 = .ok (.getfield 95, 3) := by decide +kernel
theorem dX10_whoseBy_18 : decode cX10_whoseBy 18 = .ok (.iconst 1, 1) := by decide +kernel
theorem dX10_whoseBy_19 : decode cX10_whoseBy 19 = .ok (.iadd, 1) := by decide +kernel
theorem dX10_whoseBy_20 : decode cX10_whoseBy 20 = .ok (.putfield 95, 3) := by decide +kernel
theorem dX10_whoseBy_23 : decode cX10_whoseBy 23 = .ok (.aload_n 0, 1) := by decide +kernel
theorem dX10_whoseBy_24 : decode cX10_whoseBy 24 = .ok (.invokevirtual 149, 3) := by decide +kernel
theorem dX10_whoseBy_27 : decode cX10_whoseBy 27 = .ok (.aload_n 0, 1) := by decide +kernel
theorem dX10_whoseBy_28 : decode cX10_whoseBy 28 = .ok (.iload_n 1, 1) := by decide +kernel
theorem dX10_whoseBy_29 : decode cX10_whoseBy 29 = .ok (.invokevirtual 152, 3) := by decide +kernel
theorem dX10_whoseBy_32 : decode cX10_whoseBy 32 = .ok (.istore 5, 2) := by decide +kernel
theorem dX10_whoseBy_34 : decode cX10_whoseBy 34 = .ok (.aload_n 0, 1) := by decide +kernel
theorem dX10_whoseBy_35 : decode cX10_whoseBy 35 = .ok (.dup, 1) := by decide +kernel
theorem dX10_whoseBy_36 : decode cX10_whoseBy 36 = .ok (.getfield 95, 3) := by decide +kernel
theorem dX10_whoseBy_39 : decode cX10_whoseBy 39 = .ok (.iconst 1, 1) := by decide +kernel
theorem dX10_whoseBy_40 : decode cX10_whoseBy 40 = .ok (.isub, 1) := by decide +kernel
theorem dX10_whoseBy_41 : decode cX10_whoseBy 41 = .ok (.putfield 95, 3) := by decide +kernel
theorem dX10_whoseBy_44 : decode cX10_whoseBy 44 = .ok (.iload 5, 2) := by decide +kernel
theorem dX10_whoseBy_46 : decode cX10_whoseBy 46 = .ok (.ireturn, 1) := by decide +kernel
theorem dX10_weakestOf_0 : decode cX10_weakestOf 0 = .ok (.aload_n 0, 1) := by decide +kernel
theorem dX10_weakestOf_1 : decode cX10_weakestOf 1 = .ok (.invokevirtual 149, 3) := by decide +kernel
theorem dX10_weakestOf_4 : decode cX10_weakestOf 4 = .ok (.aload_n 0, 1) := by decide +kernel
theorem dX10_weakestOf_5 : decode cX10_weakestOf 5 = .ok (.iload_n 1, 1) := by decide +kernel
theorem dX10_weakestOf_6 : decode cX10_weakestOf 6 = .ok (.invokevirtual 152, 3) := by decide +kernel
theorem dX10_weakestOf_9 : decode cX10_weakestOf 9 = .ok (.iload_n 2, 1) := by decide +kernel
theorem dX10_weakestOf_10 : decode cX10_weakestOf 10 = .ok (.if_icmp .ne 13, 3) := by decide +kernel
theorem dX10_weakestOf_13 : decode cX10_weakestOf 13 = .ok (.iload_n 3, 1) := by decide +kernel
theorem dX10_weakestOf_14 : decode cX10_weakestOf 14 = .ok (.ifCond .ne 7, 3) := by decide +kernel
theorem dX10_weakestOf_17 : decode cX10_weakestOf 17 = .ok (.iconst 0, 1) := by decide +kernel
theorem dX10_weakestOf_18 : decode cX10_weakestOf 18 = .ok (.goto 4, 3) := by decide +kernel
theorem dX10_weakestOf_21 : decode cX10_weakestOf 21 = .ok (.iconst (-1), 1) := by decide +kernel
theorem dX10_weakestOf_22 : decode cX10_weakestOf 22 = .ok (.ireturn, 1) := by decide +kernel
theorem dX10_weakestOf_23 : decode cX10_weakestOf 23 = .ok (.iconst 1, 1) := by decide +kernel
theorem dX10_weakestOf_24 : decode cX10_weakestOf 24 = .ok (.istore 4, 2) := by decide +kernel
theorem dX10_weakestOf_26 : decode cX10_weakestOf 26 = .ok (.iload 4, 2) := by decide +kernel
theorem dX10_weakestOf_28 : decode cX10_weakestOf 28 = .ok (.bipush 10, 2) := by decide +kernel
theorem dX10_weakestOf_30 : decode cX10_weakestOf 30 = .ok (.if_icmp .ge 61, 3) := by decide +kernel
theorem dX10_weakestOf_33 : decode cX10_weakestOf 33 = .ok (.iconst 0, 1) := by decide +kernel
theorem dX10_weakestOf_34 : decode cX10_weakestOf 34 = .ok (.istore 5, 2) := by decide +kernel
theorem dX10_weakestOf_36 : decode cX10_weakestOf 36 = .ok (.iload 5, 2) := by decide +kernel
theorem dX10_weakestOf_38 : decode cX10_weakestOf 38 = .ok (.bipush 8, 2) := by decide +kernel
theorem dX10_weakestOf_40 : decode cX10_weakestOf 40 = .ok (.if_icmp .ge 45, 3) := by decide +kernel
theorem dX10_weakestOf_43 : decode cX10_weakestOf 43 = .ok (.aload_n 0, 1) := by decide +kernel
theorem dX10_weakestOf_44 : decode cX10_weakestOf 44 = .ok (.getfield 13, 3) := by decide +kernel
theorem dX10_weakestOf_47 : decode cX10_weakestOf 47 = .ok (.iload 5, 2) := by decide +kernel
theorem dX10_weakestOf_49 : decode cX10_weakestOf 49 = .ok (.iaload, 1) := by decide +kernel
theorem dX10_weakestOf_50 : decode cX10_weakestOf 50 = .ok (.ifCond .ne 29, 3) := by decide +kernel
theorem dX10_weakestOf_53 : decode cX10_weakestOf 53 = .ok (.aload_n 0, 1) := by decide +kernel
theorem dX10_weakestOf_54 : decode cX10_weakestOf 54 = .ok (.iload_n 1, 1) := by decide +kernel
theorem dX10_weakestOf_55 : decode cX10_weakestOf 55 = .ok (.iload_n 2, 1) := by decide +kernel
theorem dX10_weakestOf_56 : decode cX10_weakestOf 56 = .ok (.iload 5, 2) := by decide +kernel
theorem dX10_weakestOf_58 : decode cX10_weakestOf 58 = .ok (.iload 4, 2) := by decide +kernel
theorem dX10_weakestOf_60 : decode cX10_weakestOf 60 = .ok (.invokevirtual 176, 3) := by decide +kernel
theorem dX10_weakestOf_63 : decode cX10_weakestOf 63 = .ok (.iload_n 2, 1) := by decide +kernel
theorem dX10_weakestOf_64 : decode cX10_weakestOf 64 = .ok (.if_icmp .ne 15, 3) := by decide +kernel
theorem dX10_weakestOf_67 : decode cX10_weakestOf 67 = .ok (.iload_n 3, 1) := by decide +kernel
theorem dX10_weakestOf_68 : decode cX10_weakestOf 68 = .ok (.ifCond .ne 8, 3) := by decide +kernel
theorem dX10_weakestOf_71 : decode cX10_weakestOf 71 = .ok (.iload 4, 2) := by decide +kernel
theorem dX10_weakestOf_73 : decode cX10_weakestOf 73 = .ok (.goto 5, 3) := by decide +kernel
theorem dX10_weakestOf_76 : decode cX10_weakestOf 76 = .ok (.iload 5, 2) := by decide +kernel
theorem dX10_weakestOf_78 : decode cX10_weakestOf 78 = .ok (.ireturn, 1) := by decide +kernel
theorem dX10_weakestOf_79 : decode cX10_weakestOf 79 = .ok (.iinc 5 1, 3) := by decide +kernel
theorem dX10_weakestOf_82 : decode cX10_weakestOf 82 = .ok (.goto (-46), 3) := by decide +kernel
theorem dX10_weakestOf_85 : decode cX10_weakestOf 85 = .ok (.iinc 4 1, 3) := by decide +kernel
theorem dX10_weakestOf_88 : decode cX10_weakestOf 88 = .ok (.goto (-62), 3) := by decide +kernel
theorem dX10_weakestOf_91 : decode cX10_weakestOf 91 = .ok (.iconst (-1), 1) := by decide +kernel
theorem dX10_weakestOf_92 : decode cX10_weakestOf 92 = .ok (.ireturn, 1) := by decide +kernel
theorem dX10_weakest_0 : decode cX10_weakest 0 = .ok (.aload_n 0, 1) := by decide +kernel
theorem dX10_weakest_1 : decode cX10_weakest 1 = .ok (.iload_n 1, 1) := by decide +kernel
theorem dX10_weakest_2 : decode cX10_weakest 2 = .ok (.invokevirtual 119, 3) := by decide +kernel
theorem dX10_weakest_5 : decode cX10_weakest 5 = .ok (.ifCond .ne 6, 3) := by decide +kernel
theorem dX10_weakest_8 : decode cX10_weakest 8 = .ok (.bipush (-101), 2) := by decide +kernel
theorem dX10_weakest_10 : decode cX10_weakest 10 = .ok (.ireturn, 1) := by decide +kernel
theorem dX10_weakest_11 : decode cX10_weakest 11 = .ok (.iload_n 2, 1) := by decide +kernel
theorem dX10_weakest_12 : decode cX10_weakest 12 = .ok (.i2l, 1) := by decide +kernel
theorem dX10_weakest_13 : decode cX10_weakest 13 = .ok (.lconst 0, 1) := by decide +kernel
theorem dX10_weakest_14 : decode cX10_weakest 14 = .ok (.ldc2_w 115, 3) := by decide +kernel
theorem dX10_weakest_17 : decode cX10_weakest 17 = .ok (.invokestatic 64, 3) := by decide +kernel
theorem dX10_weakest_20 : decode cX10_weakest 20 = .ok (.ifCond .eq 23, 3) := by decide +kernel
theorem dX10_weakest_23 : decode cX10_weakest 23 = .ok (.iload_n 3, 1) := by decide +kernel
theorem dX10_weakest_24 : decode cX10_weakest 24 = .ok (.i2l, 1) := by decide +kernel
theorem dX10_weakest_25 : decode cX10_weakest 25 = .ok (.lconst 0, 1) := by decide +kernel
theorem dX10_weakest_26 : decode cX10_weakest 26 = .ok (.lconst 1, 1) := by decide +kernel
theorem dX10_weakest_27 : decode cX10_weakest 27 = .ok (.invokestatic 64, 3) := by decide +kernel
theorem dX10_weakest_30 : decode cX10_weakest 30 = .ok (.ifCond .eq 13, 3) := by decide +kernel
theorem dX10_weakest_33 : decode cX10_weakest 33 = .ok (.aload_n 0, 1) := by decide +kernel
theorem dX10_weakest_34 : decode cX10_weakest 34 = .ok (.iload_n 1, 1) := by decide +kernel
theorem dX10_weakest_35 : decode cX10_weakest 35 = .ok (.iload_n 2, 1) := by decide +kernel
theorem dX10_weakest_36 : decode cX10_weakest 36 = .ok (.iload_n 3, 1) := by decide +kernel
theorem dX10_weakest_37 : decode cX10_weakest 37 = .ok (.invokevirtual 180, 3) := by decide +kernel
theorem dX10_weakest_40 : decode cX10_weakest 40 = .ok (.goto 5, 3) := by decide +kernel
theorem dX10_weakest_43 : decode cX10_weakest 43 = .ok (.bipush (-102), 2) := by decide +kernel
theorem dX10_weakest_45 : decode cX10_weakest 45 = .ok (.ireturn, 1) := by decide +kernel
theorem dX10_copy_0 : decode cX10_copy 0 = .ok (.iconst 0, 1) := by decide +kernel
theorem dX10_copy_1 : decode cX10_copy 1 = .ok (.istore_n 2, 1) := by decide +kernel
theorem dX10_copy_2 : decode cX10_copy 2 = .ok (.iload_n 2, 1) := by decide +kernel
theorem dX10_copy_3 : decode cX10_copy 3 = .ok (.aload_n 0, 1) := by decide +kernel
theorem dX10_copy_4 : decode cX10_copy 4 = .ok (.arraylength, 1) := by decide +kernel
theorem dX10_copy_5 : decode cX10_copy 5 = .ok (.if_icmp .ge 15, 3) := by decide +kernel
theorem dX10_copy_8 : decode cX10_copy 8 = .ok (.aload_n 1, 1) := by decide +kernel
theorem dX10_copy_9 : decode cX10_copy 9 = .ok (.iload_n 2, 1) := by decide +kernel
theorem dX10_copy_10 : decode cX10_copy 10 = .ok (.aload_n 0, 1) := by decide +kernel
theorem dX10_copy_11 : decode cX10_copy 11 = .ok (.iload_n 2, 1) := by decide +kernel
theorem dX10_copy_12 : decode cX10_copy 12 = .ok (.iaload, 1) := by decide +kernel
theorem dX10_copy_13 : decode cX10_copy 13 = .ok (.iastore, 1) := by decide +kernel
theorem dX10_copy_14 : decode cX10_copy 14 = .ok (.iinc 2 1, 3) := by decide +kernel
theorem dX10_copy_17 : decode cX10_copy 17 = .ok (.goto (-15), 3) := by decide +kernel
theorem dX10_copy_20 : decode cX10_copy 20 = .ok (.return_, 1) := by decide +kernel
theorem dX10_ones_0 : decode cX10_ones 0 = .ok (.iconst 0, 1) := by decide +kernel
theorem dX10_ones_1 : decode cX10_ones 1 = .ok (.istore_n 1, 1) := by decide +kernel
theorem dX10_ones_2 : decode cX10_ones 2 = .ok (.iconst 0, 1) := by decide +kernel
theorem dX10_ones_3 : decode cX10_ones 3 = .ok (.istore_n 2, 1) := by decide +kernel
theorem dX10_ones_4 : decode cX10_ones 4 = .ok (.iload_n 2, 1) := by decide +kernel
theorem dX10_ones_5 : decode cX10_ones 5 = .ok (.bipush 8, 2) := by decide +kernel
theorem dX10_ones_7 : decode cX10_ones 7 = .ok (.if_icmp .ge 17, 3) := by decide +kernel
theorem dX10_ones_10 : decode cX10_ones 10 = .ok (.iload_n 1, 1) := by decide +kernel
theorem dX10_ones_11 : decode cX10_ones 11 = .ok (.iload_n 0, 1) := by decide +kernel
theorem dX10_ones_12 : decode cX10_ones 12 = .ok (.iload_n 2, 1) := by decide +kernel
theorem dX10_ones_13 : decode cX10_ones 13 = .ok (.ishr, 1) := by decide +kernel
theorem dX10_ones_14 : decode cX10_ones 14 = .ok (.iconst 1, 1) := by decide +kernel
theorem dX10_ones_15 : decode cX10_ones 15 = .ok (.iand, 1) := by decide +kernel
theorem dX10_ones_16 : decode cX10_ones 16 = .ok (.iadd, 1) := by decide +kernel
theorem dX10_ones_17 : decode cX10_ones 17 = .ok (.istore_n 1, 1) := by decide +kernel
theorem dX10_ones_18 : decode cX10_ones 18 = .ok (.iinc 2 1, 3) := by decide +kernel
theorem dX10_ones_21 : decode cX10_ones 21 = .ok (.goto (-17), 3) := by decide +kernel
theorem dX10_ones_24 : decode cX10_ones 24 = .ok (.iload_n 1, 1) := by decide +kernel
theorem dX10_ones_25 : decode cX10_ones 25 = .ok (.ireturn, 1) := by decide +kernel
theorem dX10_mayBeWalls_0 : decode cX10_mayBeWalls 0 = .ok (.iconst 0, 1) := by decide +kernel
theorem dX10_mayBeWalls_1 : decode cX10_mayBeWalls 1 = .ok (.istore_n 2, 1) := by decide +kernel
theorem dX10_mayBeWalls_2 : decode cX10_mayBeWalls 2 = .ok (.iconst 0, 1) := by decide +kernel
theorem dX10_mayBeWalls_3 : decode cX10_mayBeWalls 3 = .ok (.istore_n 3, 1) := by decide +kernel
theorem dX10_mayBeWalls_4 : decode cX10_mayBeWalls 4 = .ok (.iload_n 3, 1) := by decide +kernel
theorem dX10_mayBeWalls_5 : decode cX10_mayBeWalls 5 = .ok (.bipush 8, 2) := by decide +kernel
theorem dX10_mayBeWalls_7 : decode cX10_mayBeWalls 7 = .ok (.if_icmp .ge 34, 3) := by decide +kernel
theorem dX10_mayBeWalls_10 : decode cX10_mayBeWalls 10 = .ok (.iload_n 2, 1) := by decide +kernel
theorem dX10_mayBeWalls_11 : decode cX10_mayBeWalls 11 = .ok (.aload_n 0, 1) := by decide +kernel
theorem dX10_mayBeWalls_12 : decode cX10_mayBeWalls 12 = .ok (.getfield 13, 3) := by decide +kernel
theorem dX10_mayBeWalls_15 : decode cX10_mayBeWalls 15 = .ok (.iload_n 3, 1) := by decide +kernel
theorem dX10_mayBeWalls_16 : decode cX10_mayBeWalls 16 = .ok (.iaload, 1) := by decide +kernel
theorem dX10_mayBeWalls_17 : decode cX10_mayBeWalls 17 = .ok (.iconst 1, 1) := by decide +kernel
theorem dX10_mayBeWalls_18 : decode cX10_mayBeWalls 18 = .ok (.if_icmp .eq 14, 3) := by decide +kernel
theorem dX10_mayBeWalls_21 : decode cX10_mayBeWalls 21 = .ok (.iload_n 3, 1) := by decide +kernel
theorem dX10_mayBeWalls_22 : decode cX10_mayBeWalls 22 = .ok (.iload_n 1, 1) := by decide +kernel
theorem dX10_mayBeWalls_23 : decode cX10_mayBeWalls 23 = .ok (.if_icmp .eq 9, 3) := by decide +kernel
theorem dX10_mayBeWalls_26 : decode cX10_mayBeWalls 26 = .ok (.iconst 1, 1) := by decide +kernel
theorem dX10_mayBeWalls_27 : decode cX10_mayBeWalls 27 = .ok (.iload_n 3, 1) := by decide +kernel
theorem dX10_mayBeWalls_28 : decode cX10_mayBeWalls 28 = .ok (.ishl, 1) := by decide +kernel
theorem dX10_mayBeWalls_29 : decode cX10_mayBeWalls 29 = .ok (.goto 4, 3) := by decide +kernel
theorem dX10_mayBeWalls_32 : decode cX10_mayBeWalls 32 = .ok (.iconst 0, 1) := by decide +kernel
theorem dX10_mayBeWalls_33 : decode cX10_mayBeWalls 33 = .ok (.ior, 1) := by decide +kernel
theorem dX10_mayBeWalls_34 : decode cX10_mayBeWalls 34 = .ok (.istore_n 2, 1) := by decide +kernel
theorem dX10_mayBeWalls_35 : decode cX10_mayBeWalls 35 = .ok (.iinc 3 1, 3) := by decide +kernel
theorem dX10_mayBeWalls_38 : decode cX10_mayBeWalls 38 = .ok (.goto (-34), 3) := by decide +kernel
theorem dX10_mayBeWalls_41 : decode cX10_mayBeWalls 41 = .ok (.iconst 0, 1) := by decide +kernel
theorem dX10_mayBeWalls_42 : decode cX10_mayBeWalls 42 = .ok (.istore_n 3, 1) := by decide +kernel
theorem dX10_mayBeWalls_43 : decode cX10_mayBeWalls 43 = .ok (.iload_n 3, 1) := by decide +kernel
theorem dX10_mayBeWalls_44 : decode cX10_mayBeWalls 44 = .ok (.aload_n 0, 1) := by decide +kernel
theorem dX10_mayBeWalls_45 : decode cX10_mayBeWalls 45 = .ok (.getfield 95, 3) := by decide +kernel
theorem dX10_mayBeWalls_48 : decode cX10_mayBeWalls 48 = .ok (.if_icmp .ge 27, 3) := by decide +kernel
theorem dX10_mayBeWalls_51 : decode cX10_mayBeWalls 51 = .ok (.iload_n 2, 1) := by decide +kernel
theorem dX10_mayBeWalls_52 : decode cX10_mayBeWalls 52 = .ok (.iconst 1, 1) := by decide +kernel
theorem dX10_mayBeWalls_53 : decode cX10_mayBeWalls 53 = .ok (.aload_n 0, 1) := by decide +kernel
theorem dX10_mayBeWalls_54 : decode cX10_mayBeWalls 54 = .ok (.getfield 22, 3) := by decide +kernel
theorem dX10_mayBeWalls_57 : decode cX10_mayBeWalls 57 = .ok (.bipush 6, 2) := by decide +kernel
theorem dX10_mayBeWalls_59 : decode cX10_mayBeWalls 59 = .ok (.iload_n 3, 1) := by decide +kernel
theorem dX10_mayBeWalls_60 : decode cX10_mayBeWalls 60 = .ok (.imul, 1) := by decide +kernel
theorem dX10_mayBeWalls_61 : decode cX10_mayBeWalls 61 = .ok (.iconst 2, 1) := by decide +kernel
theorem dX10_mayBeWalls_62 : decode cX10_mayBeWalls 62 = .ok (.iadd, 1) := by decide +kernel
theorem dX10_mayBeWalls_63 : decode cX10_mayBeWalls 63 = .ok (.iaload, 1) := by decide +kernel
theorem dX10_mayBeWalls_64 : decode cX10_mayBeWalls 64 = .ok (.ishl, 1) := by decide +kernel
theorem dX10_mayBeWalls_65 : decode cX10_mayBeWalls 65 = .ok (.iconst (-1), 1) := by decide +kernel
theorem dX10_mayBeWalls_66 : decode cX10_mayBeWalls 66 = .ok (.ixor, 1) := by decide +kernel
theorem dX10_mayBeWalls_67 : decode cX10_mayBeWalls 67 = .ok (.iand, 1) := by decide +kernel
theorem dX10_mayBeWalls_68 : decode cX10_mayBeWalls 68 = .ok (.istore_n 2, 1) := by decide +kernel
theorem dX10_mayBeWalls_69 : decode cX10_mayBeWalls 69 = .ok (.iinc 3 1, 3) := by decide +kernel
theorem dX10_mayBeWalls_72 : decode cX10_mayBeWalls 72 = .ok (.goto (-29), 3) := by decide +kernel
theorem dX10_mayBeWalls_75 : decode cX10_mayBeWalls 75 = .ok (.iload_n 2, 1) := by decide +kernel
theorem dX10_mayBeWalls_76 : decode cX10_mayBeWalls 76 = .ok (.ireturn, 1) := by decide +kernel
theorem dX10_walls_0 : decode cX10_walls 0 = .ok (.aload_n 0, 1) := by decide +kernel
theorem dX10_walls_1 : decode cX10_walls 1 = .ok (.iload_n 1, 1) := by decide +kernel
theorem dX10_walls_2 : decode cX10_walls 2 = .ok (.invokevirtual 119, 3) := by decide +kernel
theorem dX10_walls_5 : decode cX10_walls 5 = .ok (.ifCond .ne 6, 3) := by decide +kernel
theorem dX10_walls_8 : decode cX10_walls 8 = .ok (.bipush (-101), 2) := by decide +kernel
theorem dX10_walls_10 : decode cX10_walls 10 = .ok (.ireturn, 1) := by decide +kernel
theorem dX10_walls_11 : decode cX10_walls 11 = .ok (.iload_n 2, 1) := by decide +kernel
theorem dX10_walls_12 : decode cX10_walls 12 = .ok (.i2l, 1) := by decide +kernel
theorem dX10_walls_13 : decode cX10_walls 13 = .ok (.lconst 0, 1) := by decide +kernel
theorem dX10_walls_14 : decode cX10_walls 14 = .ok (.ldc2_w 115, 3) := by decide +kernel
theorem dX10_walls_17 : decode cX10_walls 17 = .ok (.invokestatic 64, 3) := by decide +kernel
theorem dX10_walls_20 : decode cX10_walls 20 = .ok (.ifCond .eq 13, 3) := by decide +kernel
theorem dX10_walls_23 : decode cX10_walls 23 = .ok (.iload_n 3, 1) := by decide +kernel
theorem dX10_walls_24 : decode cX10_walls 24 = .ok (.i2l, 1) := by decide +kernel
theorem dX10_walls_25 : decode cX10_walls 25 = .ok (.lconst 0, 1) := by decide +kernel
theorem dX10_walls_26 : decode cX10_walls 26 = .ok (.lconst 1, 1) := by decide +kernel
theorem dX10_walls_27 : decode cX10_walls 27 = .ok (.invokestatic 64, 3) := by decide +kernel
theorem dX10_walls_30 : decode cX10_walls 30 = .ok (.ifCond .ne 6, 3) := by decide +kernel
theorem dX10_walls_33 : decode cX10_walls 33 = .ok (.bipush (-102), 2) := by decide +kernel
theorem dX10_walls_35 : decode cX10_walls 35 = .ok (.ireturn, 1) := by decide +kernel
theorem dX10_walls_36 : decode cX10_walls 36 = .ok (.aload_n 0, 1) := by decide +kernel
theorem dX10_walls_37 : decode cX10_walls 37 = .ok (.getfield 183, 3) := by decide +kernel
theorem dX10_walls_40 : decode cX10_walls 40 = .ok (.bipush 20, 2) := by decide +kernel
theorem dX10_walls_42 : decode cX10_walls 42 = .ok (.if_icmp .ne 6, 3) := by decide +kernel
theorem dX10_walls_45 : decode cX10_walls 45 = .ok (.bipush (-103), 2) := by decide +kernel
theorem dX10_walls_47 : decode cX10_walls 47 = .ok (.ireturn, 1) := by decide +kernel
theorem dX10_walls_48 : decode cX10_walls 48 = .ok (.aload_n 0, 1) := by decide +kernel
theorem dX10_walls_49 : decode cX10_walls 49 = .ok (.dup, 1) := by decide +kernel
theorem dX10_walls_50 : decode cX10_walls 50 = .ok (.getfield 183, 3) := by decide +kernel
theorem dX10_walls_53 : decode cX10_walls 53 = .ok (.iconst 1, 1) := by decide +kernel
theorem dX10_walls_54 : decode cX10_walls 54 = .ok (.iadd, 1) := by decide +kernel
theorem dX10_walls_55 : decode cX10_walls 55 = .ok (.putfield 183, 3) := by decide +kernel
theorem dX10_walls_58 : decode cX10_walls 58 = .ok (.aload_n 0, 1) := by decide +kernel
theorem dX10_walls_59 : decode cX10_walls 59 = .ok (.getfield 13, 3) := by decide +kernel
theorem dX10_walls_62 : decode cX10_walls 62 = .ok (.aload_n 0, 1) := by decide +kernel
theorem dX10_walls_63 : decode cX10_walls 63 = .ok (.getfield 34, 3) := by decide +kernel
theorem dX10_walls_66 : decode cX10_walls 66 = .ok (.invokestatic 186, 3) := by decide +kernel
theorem dX10_walls_69 : decode cX10_walls 69 = .ok (.aload_n 0, 1) := by decide +kernel
theorem dX10_walls_70 : decode cX10_walls 70 = .ok (.iload_n 1, 1) := by decide +kernel
theorem dX10_walls_71 : decode cX10_walls 71 = .ok (.invokevirtual 190, 3) := by decide +kernel
theorem dX10_walls_74 : decode cX10_walls 74 = .ok (.istore 4, 2) := by decide +kernel
theorem dX10_walls_76 : decode cX10_walls 76 = .ok (.iconst (-1), 1) := by decide +kernel
theorem dX10_walls_77 : decode cX10_walls 77 = .ok (.istore 5, 2) := by decide +kernel
theorem dX10_walls_79 : decode cX10_walls 79 = .ok (.iconst 0, 1) := by decide +kernel
theorem dX10_walls_80 : decode cX10_walls 80 = .ok (.istore 6, 2) := by decide +kernel
theorem dX10_walls_82 : decode cX10_walls 82 = .ok (.iload 6, 2) := by decide +kernel
theorem dX10_walls_84 : decode cX10_walls 84 = .ok (.sipush 256, 3) := by decide +kernel
theorem dX10_walls_87 : decode cX10_walls 87 = .ok (.if_icmp .ge 105, 3) := by decide +kernel
theorem dX10_walls_90 : decode cX10_walls 90 = .ok (.iload 6, 2) := by decide +kernel
theorem dX10_walls_92 : decode cX10_walls 92 = .ok (.iload 4, 2) := by decide +kernel
theorem dX10_walls_94 : decode cX10_walls 94 = .ok (.iconst (-1), 1) := by decide +kernel
theorem dX10_walls_95 : decode cX10_walls 95 = .ok (.ixor, 1) := by decide +kernel
theorem dX10_walls_96 : decode cX10_walls 96 = .ok (.iand, 1) := by decide +kernel
theorem dX10_walls_97 : decode cX10_walls 97 = .ok (.ifCond .ne 89, 3) := by decide +kernel
theorem dX10_walls_100 : decode cX10_walls 100 = .ok (.iload 5, 2) := by decide +kernel
theorem dX10_walls_102 : decode cX10_walls 102 = .ok (.iconst (-1), 1) := by decide +kernel
theorem dX10_walls_103 : decode cX10_walls 103 = .ok (.if_icmp .eq 16, 3) := by decide +kernel
theorem dX10_walls_106 : decode cX10_walls 106 = .ok (.iload 6, 2) := by decide +kernel
theorem dX10_walls_108 : decode cX10_walls 108 = .ok (.invokestatic 193, 3) := by decide +kernel
theorem dX10_walls_111 : decode cX10_walls 111 = .ok (.iload 5, 2) := by decide +kernel
theorem dX10_walls_113 : decode cX10_walls 113 = .ok (.invokestatic 193, 3) := by decide +kernel
theorem dX10_walls_116 : decode cX10_walls 116 = .ok (.if_icmp .ge 70, 3) := by decide +kernel
theorem dX10_walls_119 : decode cX10_walls 119 = .ok (.iconst 0, 1) := by decide +kernel
theorem dX10_walls_120 : decode cX10_walls 120 = .ok (.istore 7, 2) := by decide +kernel
theorem dX10_walls_122 : decode cX10_walls 122 = .ok (.iload 7, 2) := by decide +kernel
theorem dX10_walls_124 : decode cX10_walls 124 = .ok (.bipush 8, 2) := by decide +kernel
theorem dX10_walls_126 : decode cX10_walls 126 = .ok (.if_icmp .ge 38, 3) := by decide +kernel
theorem dX10_walls_129 : decode cX10_walls 129 = .ok (.aload_n 0, 1) := by decide +kernel
theorem dX10_walls_130 : decode cX10_walls 130 = .ok (.getfield 13, 3) := by decide +kernel
theorem dX10_walls_133 : decode cX10_walls 133 = .ok (.iload 7, 2) := by decide +kernel
theorem dX10_walls_135 : decode cX10_walls 135 = .ok (.iload 6, 2) := by decide +kernel
theorem dX10_walls_137 : decode cX10_walls 137 = .ok (.iload 7, 2) := by decide +kernel
theorem dX10_walls_139 : decode cX10_walls 139 = .ok (.ishr, 1) := by decide +kernel
theorem dX10_walls_140 : decode cX10_walls 140 = .ok (.iconst 1, 1) := by decide +kernel
theorem dX10_walls_141 : decode cX10_walls 141 = .ok (.iand, 1) := by decide +kernel
theorem dX10_walls_142 : decode cX10_walls 142 = .ok (.iconst 1, 1) := by decide +kernel
theorem dX10_walls_143 : decode cX10_walls 143 = .ok (.if_icmp .ne 7, 3) := by decide +kernel
theorem dX10_walls_146 : decode cX10_walls 146 = .ok (.iconst 1, 1) := by decide +kernel
theorem dX10_walls_147 : decode cX10_walls 147 = .ok (.goto 10, 3) := by decide +kernel
theorem dX10_walls_150 : decode cX10_walls 150 = .ok (.aload_n 0, 1) := by decide +kernel
theorem dX10_walls_151 : decode cX10_walls 151 = .ok (.getfield 34, 3) := by decide +kernel
theorem dX10_walls_154 : decode cX10_walls 154 = .ok (.iload 7, 2) := by decide +kernel
theorem dX10_walls_156 : decode cX10_walls 156 = .ok (.iaload, 1) := by decide +kernel
theorem dX10_walls_157 : decode cX10_walls 157 = .ok (.iastore, 1) := by decide +kernel
theorem dX10_walls_158 : decode cX10_walls 158 = .ok (.iinc 7 1, 3) := by decide +kernel
theorem dX10_walls_161 : decode cX10_walls 161 = .ok (.goto (-39), 3) := by decide +kernel
theorem dX10_walls_164 : decode cX10_walls 164 = .ok (.aload_n 0, 1) := by decide +kernel
theorem dX10_walls_165 : decode cX10_walls 165 = .ok (.invokevirtual 149, 3) := by decide +kernel
theorem dX10_walls_168 : decode cX10_walls 168 = .ok (.aload_n 0, 1) := by decide +kernel
theorem dX10_walls_169 : decode cX10_walls 169 = .ok (.iload_n 1, 1) := by decide +kernel
theorem dX10_walls_170 : decode cX10_walls 170 = .ok (.invokevirtual 152, 3) := by decide +kernel
theorem dX10_walls_173 : decode cX10_walls 173 = .ok (.iload_n 2, 1) := by decide +kernel
theorem dX10_walls_174 : decode cX10_walls 174 = .ok (.if_icmp .ne 8, 3) := by decide +kernel
theorem dX10_walls_177 : decode cX10_walls 177 = .ok (.iload 5, 2) := by decide +kernel
theorem dX10_walls_179 : decode cX10_walls 179 = .ok (.goto 5, 3) := by decide +kernel
theorem dX10_walls_182 : decode cX10_walls 182 = .ok (.iload 6, 2) := by decide +kernel
theorem dX10_walls_184 : decode cX10_walls 184 = .ok (.istore 5, 2) := by decide +kernel
theorem dX10_walls_186 : decode cX10_walls 186 = .ok (.iinc 6 1, 3) := by decide +kernel
theorem dX10_walls_189 : decode cX10_walls 189 = .ok (.goto (-107), 3) := by decide +kernel
theorem dX10_walls_192 : decode cX10_walls 192 = .ok (.aload_n 0, 1) := by decide +kernel
theorem dX10_walls_193 : decode cX10_walls 193 = .ok (.getfield 34, 3) := by decide +kernel
theorem dX10_walls_196 : decode cX10_walls 196 = .ok (.aload_n 0, 1) := by decide +kernel
theorem dX10_walls_197 : decode cX10_walls 197 = .ok (.getfield 13, 3) := by decide +kernel
theorem dX10_walls_200 : decode cX10_walls 200 = .ok (.invokestatic 186, 3) := by decide +kernel
theorem dX10_walls_203 : decode cX10_walls 203 = .ok (.iload 5, 2) := by decide +kernel
theorem dX10_walls_205 : decode cX10_walls 205 = .ok (.iconst (-1), 1) := by decide +kernel
theorem dX10_walls_206 : decode cX10_walls 206 = .ok (.if_icmp .eq 8, 3) := by decide +kernel
theorem dX10_walls_209 : decode cX10_walls 209 = .ok (.iload_n 3, 1) := by decide +kernel
theorem dX10_walls_210 : decode cX10_walls 210 = .ok (.iconst 1, 1) := by decide +kernel
theorem dX10_walls_211 : decode cX10_walls 211 = .ok (.if_icmp .ne 8, 3) := by decide +kernel
theorem dX10_walls_214 : decode cX10_walls 214 = .ok (.iload 5, 2) := by decide +kernel
theorem dX10_walls_216 : decode cX10_walls 216 = .ok (.goto 8, 3) := by decide +kernel
theorem dX10_walls_219 : decode cX10_walls 219 = .ok (.iload 5, 2) := by decide +kernel
theorem dX10_walls_221 : decode cX10_walls 221 = .ok (.invokestatic 193, 3) := by decide +kernel
theorem dX10_walls_224 : decode cX10_walls 224 = .ok (.ireturn, 1) := by decide +kernel
theorem dX10_holdOf_0 : decode cX10_holdOf 0 = .ok (.aload_n 0, 1) := by decide +kernel
theorem dX10_holdOf_1 : decode cX10_holdOf 1 = .ok (.getfield 22, 3) := by decide +kernel
theorem dX10_holdOf_4 : decode cX10_holdOf 4 = .ok (.aload_n 0, 1) := by decide +kernel
theorem dX10_holdOf_5 : decode cX10_holdOf 5 = .ok (.getfield 37, 3) := by decide +kernel
theorem dX10_holdOf_8 : decode cX10_holdOf 8 = .ok (.invokestatic 186, 3) := by decide +kernel
theorem dX10_holdOf_11 : decode cX10_holdOf 11 = .ok (.aload_n 0, 1) := by decide +kernel
theorem dX10_holdOf_12 : decode cX10_holdOf 12 = .ok (.getfield 92, 3) := by decide +kernel
theorem dX10_holdOf_15 : decode cX10_holdOf 15 = .ok (.istore_n 3, 1) := by decide +kernel
theorem dX10_holdOf_16 : decode cX10_holdOf 16 = .ok (.iconst 0, 1) := by decide +kernel
theorem dX10_holdOf_17 : decode cX10_holdOf 17 = .ok (.istore 4, 2) := by decide +kernel
theorem dX10_holdOf_19 : decode cX10_holdOf 19 = .ok (.aload_n 0, 1) := by decide +kernel
theorem dX10_holdOf_20 : decode cX10_holdOf 20 = .ok (.invokevirtual 149, 3) := by decide +kernel
theorem dX10_holdOf_23 : decode cX10_holdOf 23 = .ok (.iload 4, 2) := by decide +kernel
theorem dX10_holdOf_25 : decode cX10_holdOf 25 = .ok (.bipush 24, 2) := by decide +kernel
theorem dX10_holdOf_27 : decode cX10_holdOf 27 = .ok (.if_icmp .ge 26, 3) := by decide +kernel
theorem dX10_holdOf_30 : decode cX10_holdOf 30 = .ok (.aload_n 0, 1) := by decide +kernel
theorem dX10_holdOf_31 : decode cX10_holdOf 31 = .ok (.iload_n 1, 1) := by decide +kernel
theorem dX10_holdOf_32 : decode cX10_holdOf 32 = .ok (.invokevirtual 152, 3) := by decide +kernel
theorem dX10_holdOf_35 : decode cX10_holdOf 35 = .ok (.iload_n 2, 1) := by decide +kernel
theorem dX10_holdOf_36 : decode cX10_holdOf 36 = .ok (.if_icmp .ne 17, 3) := by decide +kernel
theorem dX10_holdOf_39 : decode cX10_holdOf 39 = .ok (.iinc 4 1, 3) := by decide +kernel
theorem dX10_holdOf_42 : decode cX10_holdOf 42 = .ok (.aload_n 0, 1) := by decide +kernel
theorem dX10_holdOf_43 : decode cX10_holdOf 43 = .ok (.invokevirtual 173, 3) := by decide +kernel
theorem dX10_holdOf_46 : decode cX10_holdOf 46 = .ok (.aload_n 0, 1) := by decide +kernel
theorem dX10_holdOf_47 : decode cX10_holdOf 47 = .ok (.invokevirtual 149, 3) := by decide +kernel
theorem dX10_holdOf_50 : decode cX10_holdOf 50 = .ok (.goto (-27), 3) := by decide +kernel
theorem dX10_holdOf_53 : decode cX10_holdOf 53 = .ok (.aload_n 0, 1) := by decide +kernel
theorem dX10_holdOf_54 : decode cX10_holdOf 54 = .ok (.getfield 37, 3) := by decide +kernel
theorem dX10_holdOf_57 : decode cX10_holdOf 57 = .ok (.aload_n 0, 1) := by decide +kernel
theorem dX10_holdOf_58 : decode cX10_holdOf 58 = .ok (.getfield 22, 3) := by decide +kernel
theorem dX10_holdOf_61 : decode cX10_holdOf 61 = .ok (.invokestatic 186, 3) := by decide +kernel
theorem dX10_holdOf_64 : decode cX10_holdOf 64 = .ok (.aload_n 0, 1) := by decide +kernel
theorem dX10_holdOf_65 : decode cX10_holdOf 65 = .ok (.iload_n 3, 1) := by decide +kernel
theorem dX10_holdOf_66 : decode cX10_holdOf 66 = .ok (.putfield 92, 3) := by decide +kernel
theorem dX10_holdOf_69 : decode cX10_holdOf 69 = .ok (.iload 4, 2) := by decide +kernel
theorem dX10_holdOf_71 : decode cX10_holdOf 71 = .ok (.ireturn, 1) := by decide +kernel
theorem dX10_hold_0 : decode cX10_hold 0 = .ok (.aload_n 0, 1) := by decide +kernel
theorem dX10_hold_1 : decode cX10_hold 1 = .ok (.iload_n 1, 1) := by decide +kernel
theorem dX10_hold_2 : decode cX10_hold 2 = .ok (.invokevirtual 119, 3) := by decide +kernel
theorem dX10_hold_5 : decode cX10_hold 5 = .ok (.ifCond .ne 6, 3) := by decide +kernel
theorem dX10_hold_8 : decode cX10_hold 8 = .ok (.bipush (-101), 2) := by decide +kernel
theorem dX10_hold_10 : decode cX10_hold 10 = .ok (.ireturn, 1) := by decide +kernel
theorem dX10_hold_11 : decode cX10_hold 11 = .ok (.iload_n 2, 1) := by decide +kernel
theorem dX10_hold_12 : decode cX10_hold 12 = .ok (.i2l, 1) := by decide +kernel
theorem dX10_hold_13 : decode cX10_hold 13 = .ok (.lconst 0, 1) := by decide +kernel
theorem dX10_hold_14 : decode cX10_hold 14 = .ok (.ldc2_w 115, 3) := by decide +kernel
theorem dX10_hold_17 : decode cX10_hold 17 = .ok (.invokestatic 64, 3) := by decide +kernel
theorem dX10_hold_20 : decode cX10_hold 20 = .ok (.ifCond .eq 12, 3) := by decide +kernel
theorem dX10_hold_23 : decode cX10_hold 23 = .ok (.aload_n 0, 1) := by decide +kernel
theorem dX10_hold_24 : decode cX10_hold 24 = .ok (.iload_n 1, 1) := by decide +kernel
theorem dX10_hold_25 : decode cX10_hold 25 = .ok (.iload_n 2, 1) := by decide +kernel
theorem dX10_hold_26 : decode cX10_hold 26 = .ok (.invokevirtual 196, 3) := by decide +kernel
theorem dX10_hold_29 : decode cX10_hold 29 = .ok (.goto 5, 3) := by decide +kernel
theorem dX10_hold_32 : decode cX10_hold 32 = .ok (.bipush (-102), 2) := by decide +kernel
theorem dX10_hold_34 : decode cX10_hold 34 = .ok (.ireturn, 1) := by decide +kernel
theorem dX10_nose_0 : decode cX10_nose 0 = .ok (.aload_n 0, 1) := by decide +kernel
theorem dX10_nose_1 : decode cX10_nose 1 = .ok (.iload_n 1, 1) := by decide +kernel
theorem dX10_nose_2 : decode cX10_nose 2 = .ok (.invokevirtual 119, 3) := by decide +kernel
theorem dX10_nose_5 : decode cX10_nose 5 = .ok (.ifCond .ne 6, 3) := by decide +kernel
theorem dX10_nose_8 : decode cX10_nose 8 = .ok (.bipush (-101), 2) := by decide +kernel
theorem dX10_nose_10 : decode cX10_nose 10 = .ok (.ireturn, 1) := by decide +kernel
theorem dX10_nose_11 : decode cX10_nose 11 = .ok (.iload_n 2, 1) := by decide +kernel
theorem dX10_nose_12 : decode cX10_nose 12 = .ok (.i2l, 1) := by decide +kernel
theorem dX10_nose_13 : decode cX10_nose 13 = .ok (.ldc2_w 199, 3) := by decide +kernel
theorem dX10_nose_16 : decode cX10_nose 16 = .ok (.ldc2_w 115, 3) := by decide +kernel
theorem dX10_nose_19 : decode cX10_nose 19 = .ok (.invokestatic 64, 3) := by decide +kernel
theorem dX10_nose_22 : decode cX10_nose 22 = .ok (.ifCond .ne 6, 3) := by decide +kernel
theorem dX10_nose_25 : decode cX10_nose 25 = .ok (.bipush (-102), 2) := by decide +kernel
theorem dX10_nose_27 : decode cX10_nose 27 = .ok (.ireturn, 1) := by decide +kernel
theorem dX10_nose_28 : decode cX10_nose 28 = .ok (.aload_n 0, 1) := by decide +kernel
theorem dX10_nose_29 : decode cX10_nose 29 = .ok (.getfield 98, 3) := by decide +kernel
theorem dX10_nose_32 : decode cX10_nose 32 = .ok (.bipush 8, 2) := by decide +kernel
theorem dX10_nose_34 : decode cX10_nose 34 = .ok (.if_icmp .ne 6, 3) := by decide +kernel
theorem dX10_nose_37 : decode cX10_nose 37 = .ok (.bipush (-104), 2) := by decide +kernel
theorem dX10_nose_39 : decode cX10_nose 39 = .ok (.ireturn, 1) := by decide +kernel
theorem dX10_nose_40 : decode cX10_nose 40 = .ok (.aload_n 0, 1) := by decide +kernel
theorem dX10_nose_41 : decode cX10_nose 41 = .ok (.getfield 40, 3) := by decide +kernel
theorem dX10_nose_44 : decode cX10_nose 44 = .ok (.iconst 2, 1) := by decide +kernel
theorem dX10_nose_45 : decode cX10_nose 45 = .ok (.aload_n 0, 1) := by decide +kernel
theorem dX10_nose_46 : decode cX10_nose 46 = .ok (.getfield 98, 3) := by decide +kernel
theorem dX10_nose_49 : decode cX10_nose 49 = .ok (.imul, 1) := by decide +kernel
theorem dX10_nose_50 : decode cX10_nose 50 = .ok (.iload_n 1, 1) := by decide +kernel
theorem dX10_nose_51 : decode cX10_nose 51 = .ok (.iastore, 1) := by decide +kernel
theorem dX10_nose_52 : decode cX10_nose 52 = .ok (.aload_n 0, 1) := by decide +kernel
theorem dX10_nose_53 : decode cX10_nose 53 = .ok (.getfield 40, 3) := by decide +kernel
theorem dX10_nose_56 : decode cX10_nose 56 = .ok (.iconst 2, 1) := by decide +kernel
theorem dX10_nose_57 : decode cX10_nose 57 = .ok (.aload_n 0, 1) := by decide +kernel
theorem dX10_nose_58 : decode cX10_nose 58 = .ok (.getfield 98, 3) := by decide +kernel
theorem dX10_nose_61 : decode cX10_nose 61 = .ok (.imul, 1) := by decide +kernel
theorem dX10_nose_62 : decode cX10_nose 62 = .ok (.iconst 1, 1) := by decide +kernel
theorem dX10_nose_63 : decode cX10_nose 63 = .ok (.iadd, 1) := by decide +kernel
theorem dX10_nose_64 : decode cX10_nose 64 = .ok (.iload_n 2, 1) := by decide +kernel
theorem dX10_nose_65 : decode cX10_nose 65 = .ok (.iastore, 1) := by decide +kernel
theorem dX10_nose_66 : decode cX10_nose 66 = .ok (.aload_n 0, 1) := by decide +kernel
theorem dX10_nose_67 : decode cX10_nose 67 = .ok (.dup, 1) := by decide +kernel
theorem dX10_nose_68 : decode cX10_nose 68 = .ok (.getfield 98, 3) := by decide +kernel
theorem dX10_nose_71 : decode cX10_nose 71 = .ok (.iconst 1, 1) := by decide +kernel
theorem dX10_nose_72 : decode cX10_nose 72 = .ok (.iadd, 1) := by decide +kernel
theorem dX10_nose_73 : decode cX10_nose 73 = .ok (.putfield 98, 3) := by decide +kernel
theorem dX10_nose_76 : decode cX10_nose 76 = .ok (.aload_n 0, 1) := by decide +kernel
theorem dX10_nose_77 : decode cX10_nose 77 = .ok (.getfield 98, 3) := by decide +kernel
theorem dX10_nose_80 : decode cX10_nose 80 = .ok (.ireturn, 1) := by decide +kernel
theorem dX10_forget_0 : decode cX10_forget 0 = .ok (.aload_n 0, 1) := by decide +kernel
theorem dX10_forget_1 : decode cX10_forget 1 = .ok (.getfield 98, 3) := by decide +kernel
theorem dX10_forget_4 : decode cX10_forget 4 = .ok (.istore_n 1, 1) := by decide +kernel
theorem dX10_forget_5 : decode cX10_forget 5 = .ok (.aload_n 0, 1) := by decide +kernel
theorem dX10_forget_6 : decode cX10_forget 6 = .ok (.iconst 0, 1) := by decide +kernel
theorem dX10_forget_7 : decode cX10_forget 7 = .ok (.putfield 98, 3) := by decide +kernel
theorem dX10_forget_10 : decode cX10_forget 10 = .ok (.iload_n 1, 1) := by decide +kernel
theorem dX10_forget_11 : decode cX10_forget 11 = .ok (.ireturn, 1) := by decide +kernel
theorem dX10_isSmeltBy_0 : decode cX10_isSmeltBy 0 = .ok (.aload_n 0, 1) := by decide +kernel
theorem dX10_isSmeltBy_1 : decode cX10_isSmeltBy 1 = .ok (.getfield 13, 3) := by decide +kernel
theorem dX10_isSmeltBy_4 : decode cX10_isSmeltBy 4 = .ok (.iload_n 1, 1) := by decide +kernel
theorem dX10_isSmeltBy_5 : decode cX10_isSmeltBy 5 = .ok (.bipush 27, 2) := by decide +kernel
theorem dX10_isSmeltBy_7 : decode cX10_isSmeltBy 7 = .ok (.idiv, 1) := by decide +kernel
theorem dX10_isSmeltBy_8 : decode cX10_isSmeltBy 8 = .ok (.iaload, 1) := by decide +kernel
theorem dX10_isSmeltBy_9 : decode cX10_isSmeltBy 9 = .ok (.ifCond .eq 5, 3) := by decide +kernel
theorem dX10_isSmeltBy_12 : decode cX10_isSmeltBy 12 = .ok (.iconst 0, 1) := by decide +kernel
theorem dX10_isSmeltBy_13 : decode cX10_isSmeltBy 13 = .ok (.ireturn, 1) := by decide +kernel
theorem dX10_isSmeltBy_14 : decode cX10_isSmeltBy 14 = .ok (.aload_n 0, 1) := by decide +kernel
theorem dX10_isSmeltBy_15 : decode cX10_isSmeltBy 15 = .ok (.iconst 0, 1) := by decide +kernel
theorem dX10_isSmeltBy_16 : decode cX10_isSmeltBy 16 = .ok (.iload_n 1, 1) := by decide +kernel
theorem dX10_isSmeltBy_17 : decode cX10_isSmeltBy 17 = .ok (.bipush 9, 2) := by decide +kernel
theorem dX10_isSmeltBy_19 : decode cX10_isSmeltBy 19 = .ok (.idiv, 1) := by decide +kernel
theorem dX10_isSmeltBy_20 : decode cX10_isSmeltBy 20 = .ok (.iconst 3, 1) := by decide +kernel
theorem dX10_isSmeltBy_21 : decode cX10_isSmeltBy 21 = .ok (.irem, 1) := by decide +kernel
theorem dX10_isSmeltBy_22 : decode cX10_isSmeltBy 22 = .ok (.iload_n 1, 1) := by decide +kernel
theorem dX10_isSmeltBy_23 : decode cX10_isSmeltBy 23 = .ok (.bipush 27, 2) := by decide +kernel
theorem dX10_isSmeltBy_25 : decode cX10_isSmeltBy 25 = .ok (.idiv, 1) := by decide +kernel
theorem dX10_isSmeltBy_26 : decode cX10_isSmeltBy 26 = .ok (.iload_n 1, 1) := by decide +kernel
theorem dX10_isSmeltBy_27 : decode cX10_isSmeltBy 27 = .ok (.bipush 9, 2) := by decide +kernel
theorem dX10_isSmeltBy_29 : decode cX10_isSmeltBy 29 = .ok (.irem, 1) := by decide +kernel
theorem dX10_isSmeltBy_30 : decode cX10_isSmeltBy 30 = .ok (.iconst 1, 1) := by decide +kernel
theorem dX10_isSmeltBy_31 : decode cX10_isSmeltBy 31 = .ok (.iadd, 1) := by decide +kernel
theorem dX10_isSmeltBy_32 : decode cX10_isSmeltBy 32 = .ok (.invokevirtual 176, 3) := by decide +kernel
theorem dX10_isSmeltBy_35 : decode cX10_isSmeltBy 35 = .ok (.istore_n 2, 1) := by decide +kernel
theorem dX10_isSmeltBy_36 : decode cX10_isSmeltBy 36 = .ok (.iconst 1, 1) := by decide +kernel
theorem dX10_isSmeltBy_37 : decode cX10_isSmeltBy 37 = .ok (.istore_n 3, 1) := by decide +kernel
theorem dX10_isSmeltBy_38 : decode cX10_isSmeltBy 38 = .ok (.iconst 0, 1) := by decide +kernel
theorem dX10_isSmeltBy_39 : decode cX10_isSmeltBy 39 = .ok (.istore 4, 2) := by decide +kernel
theorem dX10_isSmeltBy_41 : decode cX10_isSmeltBy 41 = .ok (.iload 4, 2) := by decide +kernel
theorem dX10_isSmeltBy_43 : decode cX10_isSmeltBy 43 = .ok (.aload_n 0, 1) := by decide +kernel
theorem dX10_isSmeltBy_44 : decode cX10_isSmeltBy 44 = .ok (.getfield 98, 3) := by decide +kernel
theorem dX10_isSmeltBy_47 : decode cX10_isSmeltBy 47 = .ok (.if_icmp .ge 46, 3) := by decide +kernel
theorem dX10_isSmeltBy_50 : decode cX10_isSmeltBy 50 = .ok (.iload_n 3, 1) := by decide +kernel
theorem dX10_isSmeltBy_51 : decode cX10_isSmeltBy 51 = .ok (.ifCond .eq 34, 3) := by decide +kernel
theorem dX10_isSmeltBy_54 : decode cX10_isSmeltBy 54 = .ok (.aload_n 0, 1) := by decide +kernel
theorem dX10_isSmeltBy_55 : decode cX10_isSmeltBy 55 = .ok (.aload_n 0, 1) := by decide +kernel
theorem dX10_isSmeltBy_56 : decode cX10_isSmeltBy 56 = .ok (.getfield 40, 3) := by decide +kernel
theorem dX10_isSmeltBy_59 : decode cX10_isSmeltBy 59 = .ok (.iconst 2, 1) := by decide +kernel
theorem dX10_isSmeltBy_60 : decode cX10_isSmeltBy 60 = .ok (.iload 4, 2) := by decide +kernel
theorem dX10_isSmeltBy_62 : decode cX10_isSmeltBy 62 = .ok (.imul, 1) := by decide +kernel
theorem dX10_isSmeltBy_63 : decode cX10_isSmeltBy 63 = .ok (.iaload, 1) := by decide +kernel
theorem dX10_isSmeltBy_64 : decode cX10_isSmeltBy 64 = .ok (.invokevirtual 152, 3) := by decide +kernel
theorem dX10_isSmeltBy_67 : decode cX10_isSmeltBy 67 = .ok (.aload_n 0, 1) := by decide +kernel
theorem dX10_isSmeltBy_68 : decode cX10_isSmeltBy 68 = .ok (.getfield 40, 3) := by decide +kernel
theorem dX10_isSmeltBy_71 : decode cX10_isSmeltBy 71 = .ok (.iconst 2, 1) := by decide +kernel
theorem dX10_isSmeltBy_72 : decode cX10_isSmeltBy 72 = .ok (.iload 4, 2) := by decide +kernel
theorem dX10_isSmeltBy_74 : decode cX10_isSmeltBy 74 = .ok (.imul, 1) := by decide +kernel
theorem dX10_isSmeltBy_75 : decode cX10_isSmeltBy 75 = .ok (.iconst 1, 1) := by decide +kernel
theorem dX10_isSmeltBy_76 : decode cX10_isSmeltBy 76 = .ok (.iadd, 1) := by decide +kernel
theorem dX10_isSmeltBy_77 : decode cX10_isSmeltBy 77 = .ok (.iaload, 1) := by decide +kernel
theorem dX10_isSmeltBy_78 : decode cX10_isSmeltBy 78 = .ok (.if_icmp .ne 7, 3) := by decide +kernel
theorem dX10_isSmeltBy_81 : decode cX10_isSmeltBy 81 = .ok (.iconst 1, 1) := by decide +kernel
theorem dX10_isSmeltBy_82 : decode cX10_isSmeltBy 82 = .ok (.goto 4, 3) := by decide +kernel
theorem dX10_isSmeltBy_85 : decode cX10_isSmeltBy 85 = .ok (.iconst 0, 1) := by decide +kernel
theorem dX10_isSmeltBy_86 : decode cX10_isSmeltBy 86 = .ok (.istore_n 3, 1) := by decide +kernel
theorem dX10_isSmeltBy_87 : decode cX10_isSmeltBy 87 = .ok (.iinc 4 1, 3) := by decide +kernel
theorem dX10_isSmeltBy_90 : decode cX10_isSmeltBy 90 = .ok (.goto (-49), 3) := by decide +kernel
theorem dX10_isSmeltBy_93 : decode cX10_isSmeltBy 93 = .ok (.iload_n 3, 1) := by decide +kernel
theorem dX10_isSmeltBy_94 : decode cX10_isSmeltBy 94 = .ok (.ireturn, 1) := by decide +kernel
theorem dX10_unknown_0 : decode cX10_unknown 0 = .ok (.iload_n 1, 1) := by decide +kernel
theorem dX10_unknown_1 : decode cX10_unknown 1 = .ok (.i2l, 1) := by decide +kernel
theorem dX10_unknown_2 : decode cX10_unknown 2 = .ok (.lconst 0, 1) := by decide +kernel
theorem dX10_unknown_3 : decode cX10_unknown 3 = .ok (.lconst 1, 1) := by decide +kernel
theorem dX10_unknown_4 : decode cX10_unknown 4 = .ok (.invokestatic 64, 3) := by decide +kernel
theorem dX10_unknown_7 : decode cX10_unknown 7 = .ok (.ifCond .ne 6, 3) := by decide +kernel
theorem dX10_unknown_10 : decode cX10_unknown 10 = .ok (.bipush (-102), 2) := by decide +kernel
theorem dX10_unknown_12 : decode cX10_unknown 12 = .ok (.ireturn, 1) := by decide +kernel
theorem dX10_unknown_13 : decode cX10_unknown 13 = .ok (.aload_n 0, 1) := by decide +kernel
theorem dX10_unknown_14 : decode cX10_unknown 14 = .ok (.invokevirtual 109, 3) := by decide +kernel
theorem dX10_unknown_17 : decode cX10_unknown 17 = .ok (.ifCond .ne 12, 3) := by decide +kernel
theorem dX10_unknown_20 : decode cX10_unknown 20 = .ok (.aload_n 0, 1) := by decide +kernel
theorem dX10_unknown_21 : decode cX10_unknown 21 = .ok (.getfield 201, 3) := by decide +kernel
theorem dX10_unknown_24 : decode cX10_unknown 24 = .ok (.bipush 30, 2) := by decide +kernel
theorem dX10_unknown_26 : decode cX10_unknown 26 = .ok (.if_icmp .ne 6, 3) := by decide +kernel
theorem dX10_unknown_29 : decode cX10_unknown 29 = .ok (.bipush (-103), 2) := by decide +kernel
theorem dX10_unknown_31 : decode cX10_unknown 31 = .ok (.ireturn, 1) := by decide +kernel
theorem dX10_unknown_32 : decode cX10_unknown 32 = .ok (.aload_n 0, 1) := by decide +kernel
theorem dX10_unknown_33 : decode cX10_unknown 33 = .ok (.dup, 1) := by decide +kernel
theorem dX10_unknown_34 : decode cX10_unknown 34 = .ok (.getfield 201, 3) := by decide +kernel
theorem dX10_unknown_37 : decode cX10_unknown 37 = .ok (.iconst 1, 1) := by decide +kernel
theorem dX10_unknown_38 : decode cX10_unknown 38 = .ok (.iadd, 1) := by decide +kernel
theorem dX10_unknown_39 : decode cX10_unknown 39 = .ok (.putfield 201, 3) := by decide +kernel
theorem dX10_unknown_42 : decode cX10_unknown 42 = .ok (.iconst 0, 1) := by decide +kernel
theorem dX10_unknown_43 : decode cX10_unknown 43 = .ok (.istore_n 2, 1) := by decide +kernel
theorem dX10_unknown_44 : decode cX10_unknown 44 = .ok (.iconst (-1), 1) := by decide +kernel
theorem dX10_unknown_45 : decode cX10_unknown 45 = .ok (.istore_n 3, 1) := by decide +kernel
theorem dX10_unknown_46 : decode cX10_unknown 46 = .ok (.sipush 215, 3) := by decide +kernel
theorem dX10_unknown_49 : decode cX10_unknown 49 = .ok (.istore 4, 2) := by decide +kernel
theorem dX10_unknown_51 : decode cX10_unknown 51 = .ok (.iload 4, 2) := by decide +kernel
theorem dX10_unknown_53 : decode cX10_unknown 53 = .ok (.ifCond .lt 24, 3) := by decide +kernel
theorem dX10_unknown_56 : decode cX10_unknown 56 = .ok (.aload_n 0, 1) := by decide +kernel
theorem dX10_unknown_57 : decode cX10_unknown 57 = .ok (.iload 4, 2) := by decide +kernel
theorem dX10_unknown_59 : decode cX10_unknown 59 = .ok (.invokevirtual 204, 3) := by decide +kernel
theorem dX10_unknown_62 : decode cX10_unknown 62 = .ok (.ifCond .eq 9, 3) := by decide +kernel
theorem dX10_unknown_65 : decode cX10_unknown 65 = .ok (.iinc 2 1, 3) := by decide +kernel
theorem dX10_unknown_68 : decode cX10_unknown 68 = .ok (.iload 4, 2) := by decide +kernel
theorem dX10_unknown_70 : decode cX10_unknown 70 = .ok (.istore_n 3, 1) := by decide +kernel
theorem dX10_unknown_71 : decode cX10_unknown 71 = .ok (.iinc 4 (-1), 3) := by decide +kernel
theorem dX10_unknown_74 : decode cX10_unknown 74 = .ok (.goto (-23), 3) := by decide +kernel
theorem dX10_unknown_77 : decode cX10_unknown 77 = .ok (.iload_n 1, 1) := by decide +kernel
theorem dX10_unknown_78 : decode cX10_unknown 78 = .ok (.ifCond .ne 7, 3) := by decide +kernel
theorem dX10_unknown_81 : decode cX10_unknown 81 = .ok (.iload_n 2, 1) := by decide +kernel
theorem dX10_unknown_82 : decode cX10_unknown 82 = .ok (.goto 4, 3) := by decide +kernel
theorem dX10_unknown_85 : decode cX10_unknown 85 = .ok (.iload_n 3, 1) := by decide +kernel
theorem dX10_unknown_86 : decode cX10_unknown 86 = .ok (.ireturn, 1) := by decide +kernel
theorem dX10_sniff_0 : decode cX10_sniff 0 = .ok (.aload_n 0, 1) := by decide +kernel
theorem dX10_sniff_1 : decode cX10_sniff 1 = .ok (.invokevirtual 109, 3) := by decide +kernel
theorem dX10_sniff_4 : decode cX10_sniff 4 = .ok (.ifCond .ne 12, 3) := by decide +kernel
theorem dX10_sniff_7 : decode cX10_sniff 7 = .ok (.aload_n 0, 1) := by decide +kernel
theorem dX10_sniff_8 : decode cX10_sniff 8 = .ok (.getfield 201, 3) := by decide +kernel
theorem dX10_sniff_11 : decode cX10_sniff 11 = .ok (.bipush 30, 2) := by decide +kernel
theorem dX10_sniff_13 : decode cX10_sniff 13 = .ok (.if_icmp .ne 6, 3) := by decide +kernel
theorem dX10_sniff_16 : decode cX10_sniff 16 = .ok (.bipush (-103), 2) := by decide +kernel
theorem dX10_sniff_18 : decode cX10_sniff 18 = .ok (.ireturn, 1) := by decide +kernel
theorem dX10_sniff_19 : decode cX10_sniff 19 = .ok (.aload_n 0, 1) := by decide +kernel
theorem dX10_sniff_20 : decode cX10_sniff 20 = .ok (.dup, 1) := by decide +kernel
theorem dX10_sniff_21 : decode cX10_sniff 21 = .ok (.getfield 201, 3) := by decide +kernel
theorem dX10_sniff_24 : decode cX10_sniff 24 = .ok (.iconst 1, 1) := by decide +kernel
theorem dX10_sniff_25 : decode cX10_sniff 25 = .ok (.iadd, 1) := by decide +kernel
theorem dX10_sniff_26 : decode cX10_sniff 26 = .ok (.putfield 201, 3) := by decide +kernel
theorem dX10_sniff_29 : decode cX10_sniff 29 = .ok (.iconst 0, 1) := by decide +kernel
theorem dX10_sniff_30 : decode cX10_sniff 30 = .ok (.istore_n 1, 1) := by decide +kernel
theorem dX10_sniff_31 : decode cX10_sniff 31 = .ok (.iload_n 1, 1) := by decide +kernel
theorem dX10_sniff_32 : decode cX10_sniff 32 = .ok (.bipush 32, 2) := by decide +kernel
theorem dX10_sniff_34 : decode cX10_sniff 34 = .ok (.if_icmp .ge 16, 3) := by decide +kernel
theorem dX10_sniff_37 : decode cX10_sniff 37 = .ok (.aload_n 0, 1) := by decide +kernel
theorem dX10_sniff_38 : decode cX10_sniff 38 = .ok (.getfield 43, 3) := by decide +kernel
theorem dX10_sniff_41 : decode cX10_sniff 41 = .ok (.iload_n 1, 1) := by decide +kernel
theorem dX10_sniff_42 : decode cX10_sniff 42 = .ok (.iconst 0, 1) := by decide +kernel
theorem dX10_sniff_43 : decode cX10_sniff 43 = .ok (.iastore, 1) := by decide +kernel
theorem dX10_sniff_44 : decode cX10_sniff 44 = .ok (.iinc 1 1, 3) := by decide +kernel
theorem dX10_sniff_47 : decode cX10_sniff 47 = .ok (.goto (-16), 3) := by decide +kernel
theorem dX10_sniff_50 : decode cX10_sniff 50 = .ok (.iconst 0, 1) := by decide +kernel
theorem dX10_sniff_51 : decode cX10_sniff 51 = .ok (.istore_n 1, 1) := by decide +kernel
theorem dX10_sniff_52 : decode cX10_sniff 52 = .ok (.iconst 0, 1) := by decide +kernel
theorem dX10_sniff_53 : decode cX10_sniff 53 = .ok (.istore_n 2, 1) := by decide +kernel
theorem dX10_sniff_54 : decode cX10_sniff 54 = .ok (.iload_n 2, 1) := by decide +kernel
theorem dX10_sniff_55 : decode cX10_sniff 55 = .ok (.sipush 216, 3) := by decide +kernel
theorem dX10_sniff_58 : decode cX10_sniff 58 = .ok (.if_icmp .ge 65, 3) := by decide +kernel
theorem dX10_sniff_61 : decode cX10_sniff 61 = .ok (.aload_n 0, 1) := by decide +kernel
theorem dX10_sniff_62 : decode cX10_sniff 62 = .ok (.iload_n 2, 1) := by decide +kernel
theorem dX10_sniff_63 : decode cX10_sniff 63 = .ok (.invokevirtual 204, 3) := by decide +kernel
theorem dX10_sniff_66 : decode cX10_sniff 66 = .ok (.ifCond .eq 51, 3) := by decide +kernel
theorem dX10_sniff_69 : decode cX10_sniff 69 = .ok (.iinc 1 1, 3) := by decide +kernel
theorem dX10_sniff_72 : decode cX10_sniff 72 = .ok (.iconst 0, 1) := by decide +kernel
theorem dX10_sniff_73 : decode cX10_sniff 73 = .ok (.istore_n 3, 1) := by decide +kernel
theorem dX10_sniff_74 : decode cX10_sniff 74 = .ok (.iload_n 3, 1) := by decide +kernel
theorem dX10_sniff_75 : decode cX10_sniff 75 = .ok (.bipush 8, 2) := by decide +kernel
theorem dX10_sniff_77 : decode cX10_sniff 77 = .ok (.if_icmp .ge 40, 3) := by decide +kernel
theorem dX10_sniff_80 : decode cX10_sniff 80 = .ok (.aload_n 0, 1) := by decide +kernel
theorem dX10_sniff_81 : decode cX10_sniff 81 = .ok (.getfield 43, 3) := by decide +kernel
theorem dX10_sniff_84 : decode cX10_sniff 84 = .ok (.iconst 4, 1) := by decide +kernel
theorem dX10_sniff_85 : decode cX10_sniff 85 = .ok (.iload_n 3, 1) := by decide +kernel
theorem dX10_sniff_86 : decode cX10_sniff 86 = .ok (.imul, 1) := by decide +kernel
theorem dX10_sniff_87 : decode cX10_sniff 87 = .ok (.aload_n 0, 1) := by decide +kernel
theorem dX10_sniff_88 : decode cX10_sniff 88 = .ok (.iload_n 3, 1) := by decide +kernel
theorem dX10_sniff_89 : decode cX10_sniff 89 = .ok (.invokevirtual 152, 3) := by decide +kernel
theorem dX10_sniff_92 : decode cX10_sniff 92 = .ok (.iconst (-1), 1) := by decide +kernel
theorem dX10_sniff_93 : decode cX10_sniff 93 = .ok (.if_icmp .ne 7, 3) := by decide +kernel
theorem dX10_sniff_96 : decode cX10_sniff 96 = .ok (.iconst 3, 1) := by decide +kernel
theorem dX10_sniff_97 : decode cX10_sniff 97 = .ok (.goto 8, 3) := by decide +kernel
theorem dX10_sniff_100 : decode cX10_sniff 100 = .ok (.aload_n 0, 1) := by decide +kernel
theorem dX10_sniff_101 : decode cX10_sniff 101 = .ok (.iload_n 3, 1) := by decide +kernel
theorem dX10_sniff_102 : decode cX10_sniff 102 = .ok (.invokevirtual 152, 3) := by decide +kernel
theorem dX10_sniff_105 : decode cX10_sniff 105 = .ok (.iadd, 1) := by decide +kernel
theorem dX10_sniff_106 : decode cX10_sniff 106 = .ok (.dup2, 1) := by decide +kernel
theorem dX10_sniff_107 : decode cX10_sniff 107 = .ok (.iaload, 1) := by decide +kernel
theorem dX10_sniff_108 : decode cX10_sniff 108 = .ok (.iconst 1, 1) := by decide +kernel
theorem dX10_sniff_109 : decode cX10_sniff 109 = .ok (.iadd, 1) := by decide +kernel
theorem dX10_sniff_110 : decode cX10_sniff 110 = .ok (.iastore, 1) := by decide +kernel
theorem dX10_sniff_111 : decode cX10_sniff 111 = .ok (.iinc 3 1, 3) := by decide +kernel
theorem dX10_sniff_114 : decode cX10_sniff 114 = .ok (.goto (-40), 3) := by decide +kernel
theorem dX10_sniff_117 : decode cX10_sniff 117 = .ok (.iinc 2 1, 3) := by decide +kernel
theorem dX10_sniff_120 : decode cX10_sniff 120 = .ok (.goto (-66), 3) := by decide +kernel
theorem dX10_sniff_123 : decode cX10_sniff 123 = .ok (.iconst (-1), 1) := by decide +kernel
theorem dX10_sniff_124 : decode cX10_sniff 124 = .ok (.istore_n 2, 1) := by decide +kernel
theorem dX10_sniff_125 : decode cX10_sniff 125 = .ok (.sipush 1000, 3) := by decide +kernel
theorem dX10_sniff_128 : decode cX10_sniff 128 = .ok (.istore_n 3, 1) := by decide +kernel
theorem dX10_sniff_129 : decode cX10_sniff 129 = .ok (.iconst 0, 1) := by decide +kernel
theorem dX10_sniff_130 : decode cX10_sniff 130 = .ok (.istore 4, 2) := by decide +kernel
theorem dX10_sniff_132 : decode cX10_sniff 132 = .ok (.iload 4, 2) := by decide +kernel
theorem dX10_sniff_134 : decode cX10_sniff 134 = .ok (.bipush 8, 2) := by decide +kernel
theorem dX10_sniff_136 : decode cX10_sniff 136 = .ok (.if_icmp .ge 93, 3) := by decide +kernel
theorem dX10_sniff_139 : decode cX10_sniff 139 = .ok (.iload_n 1, 1) := by decide +kernel
theorem dX10_sniff_140 : decode cX10_sniff 140 = .ok (.ifCond .le 89, 3) := by decide +kernel
theorem dX10_sniff_143 : decode cX10_sniff 143 = .ok (.iconst 0, 1) := by decide +kernel
theorem dX10_sniff_144 : decode cX10_sniff 144 = .ok (.istore 5, 2) := by decide +kernel
theorem dX10_sniff_146 : decode cX10_sniff 146 = .ok (.iconst 0, 1) := by decide +kernel
theorem dX10_sniff_147 : decode cX10_sniff 147 = .ok (.istore 6, 2) := by decide +kernel
theorem dX10_sniff_149 : decode cX10_sniff 149 = .ok (.iload 6, 2) := by decide +kernel
theorem dX10_sniff_151 : decode cX10_sniff 151 = .ok (.iconst 4, 1) := by decide +kernel
theorem dX10_sniff_152 : decode cX10_sniff 152 = .ok (.if_icmp .ge 45, 3) := by decide +kernel
theorem dX10_sniff_155 : decode cX10_sniff 155 = .ok (.aload_n 0, 1) := by decide +kernel
theorem dX10_sniff_156 : decode cX10_sniff 156 = .ok (.getfield 43, 3) := by decide +kernel
theorem dX10_sniff_159 : decode cX10_sniff 159 = .ok (.iconst 4, 1) := by decide +kernel
theorem dX10_sniff_160 : decode cX10_sniff 160 = .ok (.iload 4, 2) := by decide +kernel
theorem dX10_sniff_162 : decode cX10_sniff 162 = .ok (.imul, 1) := by decide +kernel
theorem dX10_sniff_163 : decode cX10_sniff 163 = .ok (.iload 6, 2) := by decide +kernel
theorem dX10_sniff_165 : decode cX10_sniff 165 = .ok (.iadd, 1) := by decide +kernel
theorem dX10_sniff_166 : decode cX10_sniff 166 = .ok (.iaload, 1) := by decide +kernel
theorem dX10_sniff_167 : decode cX10_sniff 167 = .ok (.iload 5, 2) := by decide +kernel
theorem dX10_sniff_169 : decode cX10_sniff 169 = .ok (.if_icmp .le 18, 3) := by decide +kernel
theorem dX10_sniff_172 : decode cX10_sniff 172 = .ok (.aload_n 0, 1) := by decide +kernel
theorem dX10_sniff_173 : decode cX10_sniff 173 = .ok (.getfield 43, 3) := by decide +kernel
theorem dX10_sniff_176 : decode cX10_sniff 176 = .ok (.iconst 4, 1) := by decide +kernel
theorem dX10_sniff_177 : decode cX10_sniff 177 = .ok (.iload 4, 2) := by decide +kernel
theorem dX10_sniff_179 : decode cX10_sniff 179 = .ok (.imul, 1) := by decide +kernel
theorem dX10_sniff_180 : decode cX10_sniff 180 = .ok (.iload 6, 2) := by decide +kernel
theorem dX10_sniff_182 : decode cX10_sniff 182 = .ok (.iadd, 1) := by decide +kernel
theorem dX10_sniff_183 : decode cX10_sniff 183 = .ok (.iaload, 1) := by decide +kernel
theorem dX10_sniff_184 : decode cX10_sniff 184 = .ok (.goto 5, 3) := by decide +kernel
theorem dX10_sniff_187 : decode cX10_sniff 187 = .ok (.iload 5, 2) := by decide +kernel
theorem dX10_sniff_189 : decode cX10_sniff 189 = .ok (.istore 5, 2) := by decide +kernel
theorem dX10_sniff_191 : decode cX10_sniff 191 = .ok (.iinc 6 1, 3) := by decide +kernel
theorem dX10_sniff_194 : decode cX10_sniff 194 = .ok (.goto (-45), 3) := by decide +kernel
theorem dX10_sniff_197 : decode cX10_sniff 197 = .ok (.iload 5, 2) := by decide +kernel
theorem dX10_sniff_199 : decode cX10_sniff 199 = .ok (.iload_n 3, 1) := by decide +kernel
theorem dX10_sniff_200 : decode cX10_sniff 200 = .ok (.if_icmp .ge 8, 3) := by decide +kernel
theorem dX10_sniff_203 : decode cX10_sniff 203 = .ok (.iload 4, 2) := by decide +kernel
theorem dX10_sniff_205 : decode cX10_sniff 205 = .ok (.goto 4, 3) := by decide +kernel
theorem dX10_sniff_208 : decode cX10_sniff 208 = .ok (.iload_n 2, 1) := by decide +kernel
theorem dX10_sniff_209 : decode cX10_sniff 209 = .ok (.istore_n 2, 1) := by decide +kernel
theorem dX10_sniff_210 : decode cX10_sniff 210 = .ok (.iload 5, 2) := by decide +kernel
theorem dX10_sniff_212 : decode cX10_sniff 212 = .ok (.iload_n 3, 1) := by decide +kernel
theorem dX10_sniff_213 : decode cX10_sniff 213 = .ok (.if_icmp .ge 8, 3) := by decide +kernel
theorem dX10_sniff_216 : decode cX10_sniff 216 = .ok (.iload 5, 2) := by decide +kernel
theorem dX10_sniff_218 : decode cX10_sniff 218 = .ok (.goto 4, 3) := by decide +kernel
theorem dX10_sniff_221 : decode cX10_sniff 221 = .ok (.iload_n 3, 1) := by decide +kernel
theorem dX10_sniff_222 : decode cX10_sniff 222 = .ok (.istore_n 3, 1) := by decide +kernel
theorem dX10_sniff_223 : decode cX10_sniff 223 = .ok (.iinc 4 1, 3) := by decide +kernel
theorem dX10_sniff_226 : decode cX10_sniff 226 = .ok (.goto (-94), 3) := by decide +kernel
theorem dX10_sniff_229 : decode cX10_sniff 229 = .ok (.iload_n 2, 1) := by decide +kernel
theorem dX10_sniff_230 : decode cX10_sniff 230 = .ok (.ireturn, 1) := by decide +kernel
theorem dX10_draw_0 : decode cX10_draw 0 = .ok (.aload_n 0, 1) := by decide +kernel
theorem dX10_draw_1 : decode cX10_draw 1 = .ok (.ldc2_w 207, 3) := by decide +kernel
theorem dX10_draw_4 : decode cX10_draw 4 = .ok (.aload_n 0, 1) := by decide +kernel
theorem dX10_draw_5 : decode cX10_draw 5 = .ok (.getfield 209, 3) := by decide +kernel
theorem dX10_draw_8 : decode cX10_draw 8 = .ok (.i2l, 1) := by decide +kernel
theorem dX10_draw_9 : decode cX10_draw 9 = .ok (.lmul, 1) := by decide +kernel
theorem dX10_draw_10 : decode cX10_draw 10 = .ok (.ldc2_w 212, 3) := by decide +kernel
theorem dX10_draw_13 : decode cX10_draw 13 = .ok (.ladd, 1) := by decide +kernel
theorem dX10_draw_14 : decode cX10_draw 14 = .ok (.ldc2_w 214, 3) := by decide +kernel
theorem dX10_draw_17 : decode cX10_draw 17 = .ok (.land, 1) := by decide +kernel
theorem dX10_draw_18 : decode cX10_draw 18 = .ok (.l2i, 1) := by decide +kernel
theorem dX10_draw_19 : decode cX10_draw 19 = .ok (.putfield 209, 3) := by decide +kernel
theorem dX10_draw_22 : decode cX10_draw 22 = .ok (.aload_n 0, 1) := by decide +kernel
theorem dX10_draw_23 : decode cX10_draw 23 = .ok (.getfield 209, 3) := by decide +kernel
theorem dX10_draw_26 : decode cX10_draw 26 = .ok (.ldc 216, 2) := by decide +kernel
theorem dX10_draw_28 : decode cX10_draw 28 = .ok (.idiv, 1) := by decide +kernel
theorem dX10_draw_29 : decode cX10_draw 29 = .ok (.iload_n 1, 1) := by decide +kernel
theorem dX10_draw_30 : decode cX10_draw 30 = .ok (.irem, 1) := by decide +kernel
theorem dX10_draw_31 : decode cX10_draw 31 = .ok (.ireturn, 1) := by decide +kernel
theorem dX10_days_0 : decode cX10_days 0 = .ok (.iload_n 1, 1) := by decide +kernel
theorem dX10_days_1 : decode cX10_days 1 = .ok (.i2l, 1) := by decide +kernel
theorem dX10_days_2 : decode cX10_days 2 = .ok (.lconst 1, 1) := by decide +kernel
theorem dX10_days_3 : decode cX10_days 3 = .ok (.ldc2_w 217, 3) := by decide +kernel
theorem dX10_days_6 : decode cX10_days 6 = .ok (.invokestatic 64, 3) := by decide +kernel
theorem dX10_days_9 : decode cX10_days 9 = .ok (.ifCond .eq 17, 3) := by decide +kernel
theorem dX10_days_12 : decode cX10_days 12 = .ok (.iload_n 2, 1) := by decide +kernel
theorem dX10_days_13 : decode cX10_days 13 = .ok (.ifCond .lt 13, 3) := by decide +kernel
theorem dX10_days_16 : decode cX10_days 16 = .ok (.iload_n 3, 1) := by decide +kernel
theorem dX10_days_17 : decode cX10_days 17 = .ok (.i2l, 1) := by decide +kernel
theorem dX10_days_18 : decode cX10_days 18 = .ok (.lconst 0, 1) := by decide +kernel
theorem dX10_days_19 : decode cX10_days 19 = .ok (.lconst 1, 1) := by decide +kernel
theorem dX10_days_20 : decode cX10_days 20 = .ok (.invokestatic 64, 3) := by decide +kernel
theorem dX10_days_23 : decode cX10_days 23 = .ok (.ifCond .ne 6, 3) := by decide +kernel
theorem dX10_days_26 : decode cX10_days 26 = .ok (.bipush (-102), 2) := by decide +kernel
theorem dX10_days_28 : decode cX10_days 28 = .ok (.ireturn, 1) := by decide +kernel
theorem dX10_days_29 : decode cX10_days 29 = .ok (.aload_n 0, 1) := by decide +kernel
theorem dX10_days_30 : decode cX10_days 30 = .ok (.invokevirtual 109, 3) := by decide +kernel
theorem dX10_days_33 : decode cX10_days 33 = .ok (.ifCond .eq 6, 3) := by decide +kernel
theorem dX10_days_36 : decode cX10_days 36 = .ok (.bipush (-103), 2) := by decide +kernel
theorem dX10_days_38 : decode cX10_days 38 = .ok (.ireturn, 1) := by decide +kernel
theorem dX10_days_39 : decode cX10_days 39 = .ok (.aload_n 0, 1) := by decide +kernel
theorem dX10_days_40 : decode cX10_days 40 = .ok (.getfield 22, 3) := by decide +kernel
theorem dX10_days_43 : decode cX10_days 43 = .ok (.aload_n 0, 1) := by decide +kernel

theorem dX9_bit_5 : decode cX9_bit 5 = .ok (.goto 4, 3) := by decide +kernel
theorem dX9_bit_8 : decode cX9_bit 8 = .ok (.iconst 0, 1) := by decide +kernel
theorem dX9_bit_9 : decode cX9_bit 9 = .ok (.ireturn, 1) := by decide +kernel
theorem dX9_mix_0 : decode cX9_mix 0 = .ok (.ldc2_w 271, 3) := by decide +kernel
theorem dX9_mix_3 : decode cX9_mix 3 = .ok (.lload_n 0, 1) := by decide +kernel
theorem dX9_mix_4 : decode cX9_mix 4 = .ok (.lmul, 1) := by decide +kernel
theorem dX9_mix_5 : decode cX9_mix 5 = .ok (.lload_n 2, 1) := by decide +kernel
theorem dX9_mix_6 : decode cX9_mix 6 = .ok (.ladd, 1) := by decide +kernel
theorem dX9_mix_7 : decode cX9_mix 7 = .ok (.lreturn, 1) := by decide +kernel
theorem dX9_nextSeed_0 : decode cX9_nextSeed 0 = .ok (.ldc2_w 273, 3) := by decide +kernel
theorem dX9_nextSeed_3 : decode cX9_nextSeed 3 = .ok (.iload_n 0, 1) := by decide +kernel
theorem dX9_nextSeed_4 : decode cX9_nextSeed 4 = .ok (.i2l, 1) := by decide +kernel
theorem dX9_nextSeed_5 : decode cX9_nextSeed 5 = .ok (.lmul, 1) := by decide +kernel
theorem dX9_nextSeed_6 : decode cX9_nextSeed 6 = .ok (.ldc2_w 275, 3) := by decide +kernel
theorem dX9_nextSeed_9 : decode cX9_nextSeed 9 = .ok (.ladd, 1) := by decide +kernel
theorem dX9_nextSeed_10 : decode cX9_nextSeed 10 = .ok (.ldc2_w 277, 3) := by decide +kernel
theorem dX9_nextSeed_13 : decode cX9_nextSeed 13 = .ok (.lrem, 1) := by decide +kernel
theorem dX9_nextSeed_14 : decode cX9_nextSeed 14 = .ok (.l2i, 1) := by decide +kernel
theorem dX9_nextSeed_15 : decode cX9_nextSeed 15 = .ok (.ireturn, 1) := by decide +kernel
theorem dX9_draw_0 : decode cX9_draw 0 = .ok (.iload_n 1, 1) := by decide +kernel
theorem dX9_draw_1 : decode cX9_draw 1 = .ok (.ifCond .le 13, 3) := by decide +kernel
theorem dX9_draw_4 : decode cX9_draw 4 = .ok (.iload_n 0, 1) := by decide +kernel
theorem dX9_draw_5 : decode cX9_draw 5 = .ok (.ldc_w 279, 3) := by decide +kernel
theorem dX9_draw_8 : decode cX9_draw 8 = .ok (.idiv, 1) := by decide +kernel
theorem dX9_draw_9 : decode cX9_draw 9 = .ok (.iload_n 1, 1) := by decide +kernel
theorem dX9_draw_10 : decode cX9_draw 10 = .ok (.irem, 1) := by decide +kernel
theorem dX9_draw_11 : decode cX9_draw 11 = .ok (.goto 4, 3) := by decide +kernel
theorem dX9_draw_14 : decode cX9_draw 14 = .ok (.iconst 0, 1) := by decide +kernel
theorem dX9_draw_15 : decode cX9_draw 15 = .ok (.ireturn, 1) := by decide +kernel
theorem dX9_make_0 : decode cX9_make 0 = .ok (.iload_n 0, 1) := by decide +kernel
theorem dX9_make_1 : decode cX9_make 1 = .ok (.tableswitch 75 1 4 #[31, 42, 53, 64], 31) := by decide +kernel
theorem dX9_make_32 : decode cX9_make 32 = .ok (.new 280, 3) := by decide +kernel
theorem dX9_make_35 : decode cX9_make 35 = .ok (.dup, 1) := by decide +kernel
theorem dX9_make_36 : decode cX9_make 36 = .ok (.iload_n 1, 1) := by decide +kernel
theorem dX9_make_37 : decode cX9_make 37 = .ok (.iload_n 2, 1) := by decide +kernel
theorem dX9_make_38 : decode cX9_make 38 = .ok (.iload_n 3, 1) := by decide +kernel
theorem dX9_make_39 : decode cX9_make 39 = .ok (.invokespecial 282, 3) := by decide +kernel
theorem dX9_make_42 : decode cX9_make 42 = .ok (.areturn, 1) := by decide +kernel
theorem dX9_make_43 : decode cX9_make 43 = .ok (.new 285, 3) := by decide +kernel
theorem dX9_make_46 : decode cX9_make 46 = .ok (.dup, 1) := by decide +kernel
theorem dX9_make_47 : decode cX9_make 47 = .ok (.iload_n 1, 1) := by decide +kernel
theorem dX9_make_48 : decode cX9_make 48 = .ok (.iload_n 2, 1) := by decide +kernel
theorem dX9_make_49 : decode cX9_make 49 = .ok (.iload_n 3, 1) := by decide +kernel
theorem dX9_make_50 : decode cX9_make 50 = .ok (.invokespecial 287, 3) := by decide +kernel
theorem dX9_make_53 : decode cX9_make 53 = .ok (.areturn, 1) := by decide +kernel
theorem dX9_make_54 : decode cX9_make 54 = .ok (.new 288, 3) := by decide +kernel
theorem dX9_make_57 : decode cX9_make 57 = .ok (.dup, 1) := by decide +kernel
theorem dX9_make_58 : decode cX9_make 58 = .ok (.iload_n 1, 1) := by decide +kernel
theorem dX9_make_59 : decode cX9_make 59 = .ok (.iload_n 2, 1) := by decide +kernel
theorem dX9_make_60 : decode cX9_make 60 = .ok (.iload_n 3, 1) := by decide +kernel
theorem dX9_make_61 : decode cX9_make 61 = .ok (.invokespecial 290, 3) := by decide +kernel
theorem dX9_make_64 : decode cX9_make 64 = .ok (.areturn, 1) := by decide +kernel
theorem dX9_make_65 : decode cX9_make 65 = .ok (.new 291, 3) := by decide +kernel
theorem dX9_make_68 : decode cX9_make 68 = .ok (.dup, 1) := by decide +kernel
theorem dX9_make_69 : decode cX9_make 69 = .ok (.iload_n 1, 1) := by decide +kernel
theorem dX9_make_70 : decode cX9_make 70 = .ok (.iload_n 2, 1) := by decide +kernel
theorem dX9_make_71 : decode cX9_make 71 = .ok (.iload_n 3, 1) := by decide +kernel
theorem dX9_make_72 : decode cX9_make 72 = .ok (.invokespecial 293, 3) := by decide +kernel
theorem dX9_make_75 : decode cX9_make 75 = .ok (.areturn, 1) := by decide +kernel
theorem dX9_make_76 : decode cX9_make 76 = .ok (.new 23, 3) := by decide +kernel
theorem dX9_make_79 : decode cX9_make 79 = .ok (.dup, 1) := by decide +kernel
theorem dX9_make_80 : decode cX9_make 80 = .ok (.iload_n 1, 1) := by decide +kernel
theorem dX9_make_81 : decode cX9_make 81 = .ok (.iload_n 2, 1) := by decide +kernel
theorem dX9_make_82 : decode cX9_make 82 = .ok (.iload_n 3, 1) := by decide +kernel
theorem dX9_make_83 : decode cX9_make 83 = .ok (.invokespecial 294, 3) := by decide +kernel
theorem dX9_make_86 : decode cX9_make 86 = .ok (.areturn, 1) := by decide +kernel
theorem dX9_isOfKind_0 : decode cX9_isOfKind 0 = .ok (.iload_n 1, 1) := by decide +kernel
theorem dX9_isOfKind_1 : decode cX9_isOfKind 1 = .ok (.tableswitch 51 1 4 #[31, 36, 41, 46], 31) := by decide +kernel
theorem dX9_isOfKind_32 : decode cX9_isOfKind 32 = .ok (.aload_n 0, 1) := by decide +kernel
theorem dX9_isOfKind_33 : decode cX9_isOfKind 33 = .ok (.instanceof 280, 3) := by decide +kernel
theorem dX9_isOfKind_36 : decode cX9_isOfKind 36 = .ok (.ireturn, 1) := by decide +kernel
theorem dX9_isOfKind_37 : decode cX9_isOfKind 37 = .ok (.aload_n 0, 1) := by decide +kernel
theorem dX9_isOfKind_38 : decode cX9_isOfKind 38 = .ok (.instanceof 285, 3) := by decide +kernel
theorem dX9_isOfKind_41 : decode cX9_isOfKind 41 = .ok (.ireturn, 1) := by decide +kernel
theorem dX9_isOfKind_42 : decode cX9_isOfKind 42 = .ok (.aload_n 0, 1) := by decide +kernel
theorem dX9_isOfKind_43 : decode cX9_isOfKind 43 = .ok (.instanceof 288, 3) := by decide +kernel
theorem dX9_isOfKind_46 : decode cX9_isOfKind 46 = .ok (.ireturn, 1) := by decide +kernel
theorem dX9_isOfKind_47 : decode cX9_isOfKind 47 = .ok (.aload_n 0, 1) := by decide +kernel
theorem dX9_isOfKind_48 : decode cX9_isOfKind 48 = .ok (.instanceof 291, 3) := by decide +kernel
theorem dX9_isOfKind_51 : decode cX9_isOfKind 51 = .ok (.ireturn, 1) := by decide +kernel
theorem dX9_isOfKind_52 : decode cX9_isOfKind 52 = .ok (.iconst 1, 1) := by decide +kernel
theorem dX9_isOfKind_53 : decode cX9_isOfKind 53 = .ok (.ireturn, 1) := by decide +kernel
theorem dX9_isCell_0 : decode cX9_isCell 0 = .ok (.aload_n 0, 1) := by decide +kernel
theorem dX9_isCell_1 : decode cX9_isCell 1 = .ok (.getfield 19, 3) := by decide +kernel
theorem dX9_isCell_4 : decode cX9_isCell 4 = .ok (.invokevirtual 171, 3) := by decide +kernel
theorem dX9_isCell_7 : decode cX9_isCell 7 = .ok (.ifCond .eq 17, 3) := by decide +kernel
theorem dX9_isCell_10 : decode cX9_isCell 10 = .ok (.iload_n 1, 1) := by decide +kernel
theorem dX9_isCell_11 : decode cX9_isCell 11 = .ok (.ifCond .lt 13, 3) := by decide +kernel
theorem dX9_isCell_14 : decode cX9_isCell 14 = .ok (.iload_n 1, 1) := by decide +kernel
theorem dX9_isCell_15 : decode cX9_isCell 15 = .ok (.bipush 8, 2) := by decide +kernel
theorem dX9_isCell_17 : decode cX9_isCell 17 = .ok (.if_icmp .ge 7, 3) := by decide +kernel
theorem dX9_isCell_20 : decode cX9_isCell 20 = .ok (.iconst 1, 1) := by decide +kernel
theorem dX9_isCell_21 : decode cX9_isCell 21 = .ok (.goto 4, 3) := by decide +kernel
theorem dX9_isCell_24 : decode cX9_isCell 24 = .ok (.iconst 0, 1) := by decide +kernel
theorem dX9_isCell_25 : decode cX9_isCell 25 = .ok (.ireturn, 1) := by decide +kernel
theorem dX9_find_0 : decode cX9_find 0 = .ok (.iload_n 1, 1) := by decide +kernel
theorem dX9_find_1 : decode cX9_find 1 = .ok (.ifCond .lt 23, 3) := by decide +kernel
theorem dX9_find_4 : decode cX9_find 4 = .ok (.iload_n 1, 1) := by decide +kernel
theorem dX9_find_5 : decode cX9_find 5 = .ok (.aload_n 0, 1) := by decide +kernel
theorem dX9_find_6 : decode cX9_find 6 = .ok (.getfield 32, 3) := by decide +kernel
theorem dX9_find_9 : decode cX9_find 9 = .ok (.getfield 119, 3) := by decide +kernel
theorem dX9_find_12 : decode cX9_find 12 = .ok (.if_icmp .ge 12, 3) := by decide +kernel
theorem dX9_find_15 : decode cX9_find 15 = .ok (.aload_n 0, 1) := by decide +kernel
theorem dX9_find_16 : decode cX9_find 16 = .ok (.getfield 25, 3) := by decide +kernel
theorem dX9_find_19 : decode cX9_find 19 = .ok (.iload_n 1, 1) := by decide +kernel
theorem dX9_find_20 : decode cX9_find 20 = .ok (.aaload, 1) := by decide +kernel
theorem dX9_find_21 : decode cX9_find 21 = .ok (.goto 4, 3) := by decide +kernel
theorem dX9_find_24 : decode cX9_find 24 = .ok (.aconst_null, 1) := by decide +kernel
theorem dX9_find_25 : decode cX9_find 25 = .ok (.areturn, 1) := by decide +kernel
theorem dX9_settleNow_0 : decode cX9_settleNow 0 = .ok (.aload_n 0, 1) := by decide +kernel
theorem dX9_settleNow_1 : decode cX9_settleNow 1 = .ok (.getfield 45, 3) := by decide +kernel
theorem dX9_settleNow_4 : decode cX9_settleNow 4 = .ok (.aload_n 0, 1) := by decide +kernel
theorem dX9_settleNow_5 : decode cX9_settleNow 5 = .ok (.getfield 19, 3) := by decide +kernel
theorem dX9_settleNow_8 : decode cX9_settleNow 8 = .ok (.aload_n 0, 1) := by decide +kernel
theorem dX9_settleNow_9 : decode cX9_settleNow 9 = .ok (.getfield 25, 3) := by decide +kernel
theorem dX9_settleNow_12 : decode cX9_settleNow 12 = .ok (.aload_n 0, 1) := by decide +kernel
theorem dX9_settleNow_13 : decode cX9_settleNow 13 = .ok (.getfield 32, 3) := by decide +kernel
theorem dX9_settleNow_16 : decode cX9_settleNow 16 = .ok (.iconst 0, 1) := by decide +kernel
theorem dX9_settleNow_17 : decode cX9_settleNow 17 = .ok (.invokevirtual 247, 3) := by decide +kernel
theorem dX9_settleNow_20 : decode cX9_settleNow 20 = .ok (.return_, 1) := by decide +kernel
theorem dX9_mayAsk_0 : decode cX9_mayAsk 0 = .ok (.aload_n 0, 1) := by decide +kernel
theorem dX9_mayAsk_1 : decode cX9_mayAsk 1 = .ok (.getfield 19, 3) := by decide +kernel
theorem dX9_mayAsk_4 : decode cX9_mayAsk 4 = .ok (.invokevirtual 171, 3) := by decide +kernel
theorem dX9_mayAsk_7 : decode cX9_mayAsk 7 = .ok (.ifCond .eq 16, 3) := by decide +kernel
theorem dX9_mayAsk_10 : decode cX9_mayAsk 10 = .ok (.aload_n 0, 1) := by decide +kernel
theorem dX9_mayAsk_11 : decode cX9_mayAsk 11 = .ok (.getfield 229, 3) := by decide +kernel
theorem dX9_mayAsk_14 : decode cX9_mayAsk 14 = .ok (.bipush 30, 2) := by decide +kernel
theorem dX9_mayAsk_16 : decode cX9_mayAsk 16 = .ok (.if_icmp .ge 7, 3) := by decide +kernel
theorem dX9_mayAsk_19 : decode cX9_mayAsk 19 = .ok (.iconst 1, 1) := by decide +kernel
theorem dX9_mayAsk_20 : decode cX9_mayAsk 20 = .ok (.goto 4, 3) := by decide +kernel
theorem dX9_mayAsk_23 : decode cX9_mayAsk 23 = .ok (.iconst 0, 1) := by decide +kernel
theorem dX9_mayAsk_24 : decode cX9_mayAsk 24 = .ok (.ireturn, 1) := by decide +kernel
theorem dX9_tellOfCell_0 : decode cX9_tellOfCell 0 = .ok (.iload_n 2, 1) := by decide +kernel
theorem dX9_tellOfCell_1 : decode cX9_tellOfCell 1 = .ok (.tableswitch 71 0 3 #[31, 41, 51, 61], 31) := by decide +kernel
theorem dX9_tellOfCell_32 : decode cX9_tellOfCell 32 = .ok (.aload_n 0, 1) := by decide +kernel
theorem dX9_tellOfCell_33 : decode cX9_tellOfCell 33 = .ok (.getfield 19, 3) := by decide +kernel
theorem dX9_tellOfCell_36 : decode cX9_tellOfCell 36 = .ok (.getfield 295, 3) := by decide +kernel
theorem dX9_tellOfCell_39 : decode cX9_tellOfCell 39 = .ok (.iload_n 1, 1) := by decide +kernel
theorem dX9_tellOfCell_40 : decode cX9_tellOfCell 40 = .ok (.iaload, 1) := by decide +kernel
theorem dX9_tellOfCell_41 : decode cX9_tellOfCell 41 = .ok (.ireturn, 1) := by decide +kernel
theorem dX9_tellOfCell_42 : decode cX9_tellOfCell 42 = .ok (.aload_n 0, 1) := by decide +kernel
theorem dX9_tellOfCell_43 : decode cX9_tellOfCell 43 = .ok (.getfield 45, 3) := by decide +kernel
theorem dX9_tellOfCell_46 : decode cX9_tellOfCell 46 = .ok (.getfield 183, 3) := by decide +kernel
theorem dX9_tellOfCell_49 : decode cX9_tellOfCell 49 = .ok (.iload_n 1, 1) := by decide +kernel
theorem dX9_tellOfCell_50 : decode cX9_tellOfCell 50 = .ok (.iaload, 1) := by decide +kernel
theorem dX9_tellOfCell_51 : decode cX9_tellOfCell 51 = .ok (.ireturn, 1) := by decide +kernel
theorem dX9_tellOfCell_52 : decode cX9_tellOfCell 52 = .ok (.aload_n 0, 1) := by decide +kernel
theorem dX9_tellOfCell_53 : decode cX9_tellOfCell 53 = .ok (.getfield 45, 3) := by decide +kernel
theorem dX9_tellOfCell_56 : decode cX9_tellOfCell 56 = .ok (.getfield 298, 3) := by decide +kernel
theorem dX9_tellOfCell_59 : decode cX9_tellOfCell 59 = .ok (.iload_n 1, 1) := by decide +kernel
theorem dX9_tellOfCell_60 : decode cX9_tellOfCell 60 = .ok (.iaload, 1) := by decide +kernel
theorem dX9_tellOfCell_61 : decode cX9_tellOfCell 61 = .ok (.ireturn, 1) := by decide +kernel
theorem dX9_tellOfCell_62 : decode cX9_tellOfCell 62 = .ok (.aload_n 0, 1) := by decide +kernel
theorem dX9_tellOfCell_63 : decode cX9_tellOfCell 63 = .ok (.getfield 32, 3) := by decide +kernel
theorem dX9_tellOfCell_66 : decode cX9_tellOfCell 66 = .ok (.getfield 180, 3) := by decide +kernel
theorem dX9_tellOfCell_69 : decode cX9_tellOfCell 69 = .ok (.iload_n 1, 1) := by decide +kernel
theorem dX9_tellOfCell_70 : decode cX9_tellOfCell 70 = .ok (.iaload, 1) := by decide +kernel
theorem dX9_tellOfCell_71 : decode cX9_tellOfCell 71 = .ok (.ireturn, 1) := by decide +kernel
theorem dX9_tellOfCell_72 : decode cX9_tellOfCell 72 = .ok (.aload_n 0, 1) := by decide +kernel
theorem dX9_tellOfCell_73 : decode cX9_tellOfCell 73 = .ok (.getfield 45, 3) := by decide +kernel
theorem dX9_tellOfCell_76 : decode cX9_tellOfCell 76 = .ok (.getfield 301, 3) := by decide +kernel
theorem dX9_tellOfCell_79 : decode cX9_tellOfCell 79 = .ok (.iload_n 1, 1) := by decide +kernel
theorem dX9_tellOfCell_80 : decode cX9_tellOfCell 80 = .ok (.iaload, 1) := by decide +kernel
theorem dX9_tellOfCell_81 : decode cX9_tellOfCell 81 = .ok (.ireturn, 1) := by decide +kernel
theorem dX9_tellOfSource_0 : decode cX9_tellOfSource 0 = .ok (.iload_n 3, 1) := by decide +kernel
theorem dX9_tellOfSource_1 : decode cX9_tellOfSource 1 = .ok (.tableswitch 100 0 6 #[43, 48, 53, 58, 63, 76, 86], 43) := by decide +kernel
theorem dX9_tellOfSource_44 : decode cX9_tellOfSource 44 = .ok (.aload_n 1, 1) := by decide +kernel
theorem dX9_tellOfSource_45 : decode cX9_tellOfSource 45 = .ok (.invokevirtual 304, 3) := by decide +kernel
theorem dX9_tellOfSource_48 : decode cX9_tellOfSource 48 = .ok (.ireturn, 1) := by decide +kernel
theorem dX9_tellOfSource_49 : decode cX9_tellOfSource 49 = .ok (.aload_n 1, 1) := by decide +kernel
theorem dX9_tellOfSource_50 : decode cX9_tellOfSource 50 = .ok (.getfield 307, 3) := by decide +kernel
theorem dX9_tellOfSource_53 : decode cX9_tellOfSource 53 = .ok (.ireturn, 1) := by decide +kernel
theorem dX9_tellOfSource_54 : decode cX9_tellOfSource 54 = .ok (.aload_n 1, 1) := by decide +kernel
theorem dX9_tellOfSource_55 : decode cX9_tellOfSource 55 = .ok (.getfield 140, 3) := by decide +kernel
theorem dX9_tellOfSource_58 : decode cX9_tellOfSource 58 = .ok (.ireturn, 1) := by decide +kernel
theorem dX9_tellOfSource_59 : decode cX9_tellOfSource 59 = .ok (.aload_n 1, 1) := by decide +kernel
theorem dX9_tellOfSource_60 : decode cX9_tellOfSource 60 = .ok (.getfield 310, 3) := by decide +kernel
theorem dX9_tellOfSource_63 : decode cX9_tellOfSource 63 = .ok (.ireturn, 1) := by decide +kernel
theorem dX9_tellOfSource_64 : decode cX9_tellOfSource 64 = .ok (.aload_n 0, 1) := by decide +kernel
theorem dX9_tellOfSource_65 : decode cX9_tellOfSource 65 = .ok (.getfield 32, 3) := by decide +kernel
theorem dX9_tellOfSource_68 : decode cX9_tellOfSource 68 = .ok (.getfield 163, 3) := by decide +kernel
theorem dX9_tellOfSource_71 : decode cX9_tellOfSource 71 = .ok (.iload_n 2, 1) := by decide +kernel
theorem dX9_tellOfSource_72 : decode cX9_tellOfSource 72 = .ok (.baload, 1) := by decide +kernel
theorem dX9_tellOfSource_73 : decode cX9_tellOfSource 73 = .ok (.invokestatic 167, 3) := by decide +kernel
theorem dX9_tellOfSource_76 : decode cX9_tellOfSource 76 = .ok (.ireturn, 1) := by decide +kernel
theorem dX9_tellOfSource_77 : decode cX9_tellOfSource 77 = .ok (.aload_n 0, 1) := by decide +kernel
theorem dX9_tellOfSource_78 : decode cX9_tellOfSource 78 = .ok (.getfield 32, 3) := by decide +kernel
theorem dX9_tellOfSource_81 : decode cX9_tellOfSource 81 = .ok (.getfield 143, 3) := by decide +kernel
theorem dX9_tellOfSource_84 : decode cX9_tellOfSource 84 = .ok (.iload_n 2, 1) := by decide +kernel
theorem dX9_tellOfSource_85 : decode cX9_tellOfSource 85 = .ok (.iaload, 1) := by decide +kernel
theorem dX9_tellOfSource_86 : decode cX9_tellOfSource 86 = .ok (.ireturn, 1) := by decide +kernel
theorem dX9_tellOfSource_87 : decode cX9_tellOfSource 87 = .ok (.aload_n 1, 1) := by decide +kernel
theorem dX9_tellOfSource_88 : decode cX9_tellOfSource 88 = .ok (.aload_n 0, 1) := by decide +kernel
theorem dX9_tellOfSource_89 : decode cX9_tellOfSource 89 = .ok (.getfield 32, 3) := by decide +kernel
theorem dX9_tellOfSource_92 : decode cX9_tellOfSource 92 = .ok (.getfield 143, 3) := by decide +kernel
theorem dX9_tellOfSource_95 : decode cX9_tellOfSource 95 = .ok (.iload_n 2, 1) := by decide +kernel
theorem dX9_tellOfSource_96 : decode cX9_tellOfSource 96 = .ok (.iaload, 1) := by decide +kernel
theorem dX9_tellOfSource_97 : decode cX9_tellOfSource 97 = .ok (.invokevirtual 146, 3) := by decide +kernel
theorem dX9_tellOfSource_100 : decode cX9_tellOfSource 100 = .ok (.ireturn, 1) := by decide +kernel
theorem dX9_tellOfSource_101 : decode cX9_tellOfSource 101 = .ok (.aload_n 0, 1) := by decide +kernel
theorem dX9_tellOfSource_102 : decode cX9_tellOfSource 102 = .ok (.getfield 32, 3) := by decide +kernel
theorem dX9_tellOfSource_105 : decode cX9_tellOfSource 105 = .ok (.aload_n 1, 1) := by decide +kernel
theorem dX9_tellOfSource_106 : decode cX9_tellOfSource 106 = .ok (.iload_n 2, 1) := by decide +kernel
theorem dX9_tellOfSource_107 : decode cX9_tellOfSource 107 = .ok (.invokevirtual 136, 3) := by decide +kernel
theorem dX9_tellOfSource_110 : decode cX9_tellOfSource 110 = .ok (.invokestatic 167, 3) := by decide +kernel
theorem dX9_tellOfSource_113 : decode cX9_tellOfSource 113 = .ok (.ireturn, 1) := by decide +kernel
theorem dX9_tellOfAll_0 : decode cX9_tellOfAll 0 = .ok (.iload_n 1, 1) := by decide +kernel
theorem dX9_tellOfAll_1 : decode cX9_tellOfAll 1 = .ok (.tableswitch 181 0 14 #[75, 83, 91, 99, 107, 115, 126, 134, 134, 134, 147, 155, 163, 171, 176], 75) := by decide +kernel
theorem dX9_tellOfAll_76 : decode cX9_tellOfAll 76 = .ok (.aload_n 0, 1) := by decide +kernel
theorem dX9_tellOfAll_77 : decode cX9_tellOfAll 77 = .ok (.getfield 19, 3) := by decide +kernel
theorem dX9_tellOfAll_80 : decode cX9_tellOfAll 80 = .ok (.getfield 96, 3) := by decide +kernel
theorem dX9_tellOfAll_83 : decode cX9_tellOfAll 83 = .ok (.ireturn, 1) := by decide +kernel
theorem dX9_tellOfAll_84 : decode cX9_tellOfAll 84 = .ok (.aload_n 0, 1) := by decide +kernel
theorem dX9_tellOfAll_85 : decode cX9_tellOfAll 85 = .ok (.getfield 19, 3) := by decide +kernel
theorem dX9_tellOfAll_88 : decode cX9_tellOfAll 88 = .ok (.getfield 313, 3) := by decide +kernel
theorem dX9_tellOfAll_91 : decode cX9_tellOfAll 91 = .ok (.ireturn, 1) := by decide +kernel
theorem dX9_tellOfAll_92 : decode cX9_tellOfAll 92 = .ok (.aload_n 0, 1) := by decide +kernel
theorem dX9_tellOfAll_93 : decode cX9_tellOfAll 93 = .ok (.getfield 32, 3) := by decide +kernel
theorem dX9_tellOfAll_96 : decode cX9_tellOfAll 96 = .ok (.getfield 119, 3) := by decide +kernel
theorem dX9_tellOfAll_99 : decode cX9_tellOfAll 99 = .ok (.ireturn, 1) := by decide +kernel
theorem dX9_tellOfAll_100 : decode cX9_tellOfAll 100 = .ok (.aload_n 0, 1) := by decide +kernel
theorem dX9_tellOfAll_101 : decode cX9_tellOfAll 101 = .ok (.getfield 32, 3) := by decide +kernel
theorem dX9_tellOfAll_104 : decode cX9_tellOfAll 104 = .ok (.invokevirtual 316, 3) := by decide +kernel
theorem dX9_tellOfAll_107 : decode cX9_tellOfAll 107 = .ok (.ireturn, 1) := by decide +kernel
theorem dX9_tellOfAll_108 : decode cX9_tellOfAll 108 = .ok (.aload_n 0, 1) := by decide +kernel
theorem dX9_tellOfAll_109 : decode cX9_tellOfAll 109 = .ok (.getfield 32, 3) := by decide +kernel
theorem dX9_tellOfAll_112 : decode cX9_tellOfAll 112 = .ok (.getfield 153, 3) := by decide +kernel
theorem dX9_tellOfAll_115 : decode cX9_tellOfAll 115 = .ok (.ireturn, 1) := by decide +kernel
theorem dX9_tellOfAll_116 : decode cX9_tellOfAll 116 = .ok (.aload_n 0, 1) := by decide +kernel
theorem dX9_tellOfAll_117 : decode cX9_tellOfAll 117 = .ok (.getfield 32, 3) := by decide +kernel
theorem dX9_tellOfAll_120 : decode cX9_tellOfAll 120 = .ok (.getfield 174, 3) := by decide +kernel
theorem dX9_tellOfAll_123 : decode cX9_tellOfAll 123 = .ok (.invokestatic 167, 3) := by decide +kernel
theorem dX9_tellOfAll_126 : decode cX9_tellOfAll 126 = .ok (.ireturn, 1) := by decide +kernel
theorem dX9_tellOfAll_127 : decode cX9_tellOfAll 127 = .ok (.aload_n 0, 1) := by decide +kernel
theorem dX9_tellOfAll_128 : decode cX9_tellOfAll 128 = .ok (.getfield 32, 3) := by decide +kernel
theorem dX9_tellOfAll_131 : decode cX9_tellOfAll 131 = .ok (.getfield 192, 3) := by decide +kernel
theorem dX9_tellOfAll_134 : decode cX9_tellOfAll 134 = .ok (.ireturn, 1) := by decide +kernel
theorem dX9_tellOfAll_135 : decode cX9_tellOfAll 135 = .ok (.aload_n 0, 1) := by decide +kernel
theorem dX9_tellOfAll_136 : decode cX9_tellOfAll 136 = .ok (.getfield 32, 3) := by decide +kernel
theorem dX9_tellOfAll_139 : decode cX9_tellOfAll 139 = .ok (.getfield 186, 3) := by decide +kernel
theorem dX9_tellOfAll_142 : decode cX9_tellOfAll 142 = .ok (.iload_n 1, 1) := by decide +kernel
theorem dX9_tellOfAll_143 : decode cX9_tellOfAll 143 = .ok (.bipush 7, 2) := by decide +kernel
theorem dX9_tellOfAll_145 : decode cX9_tellOfAll 145 = .ok (.isub, 1) := by decide +kernel
theorem dX9_tellOfAll_146 : decode cX9_tellOfAll 146 = .ok (.iaload, 1) := by decide +kernel
theorem dX9_tellOfAll_147 : decode cX9_tellOfAll 147 = .ok (.ireturn, 1) := by decide +kernel
theorem dX9_tellOfAll_148 : decode cX9_tellOfAll 148 = .ok (.aload_n 0, 1) := by decide +kernel
theorem dX9_tellOfAll_149 : decode cX9_tellOfAll 149 = .ok (.getfield 45, 3) := by decide +kernel
theorem dX9_tellOfAll_152 : decode cX9_tellOfAll 152 = .ok (.invokevirtual 319, 3) := by decide +kernel
theorem dX9_tellOfAll_155 : decode cX9_tellOfAll 155 = .ok (.ireturn, 1) := by decide +kernel
theorem dX9_tellOfAll_156 : decode cX9_tellOfAll 156 = .ok (.aload_n 0, 1) := by decide +kernel
theorem dX9_tellOfAll_157 : decode cX9_tellOfAll 157 = .ok (.getfield 32, 3) := by decide +kernel
theorem dX9_tellOfAll_160 : decode cX9_tellOfAll 160 = .ok (.getfield 219, 3) := by decide +kernel
theorem dX9_tellOfAll_163 : decode cX9_tellOfAll 163 = .ok (.ireturn, 1) := by decide +kernel
theorem dX9_tellOfAll_164 : decode cX9_tellOfAll 164 = .ok (.aload_n 0, 1) := by decide +kernel
theorem dX9_tellOfAll_165 : decode cX9_tellOfAll 165 = .ok (.getfield 12, 3) := by decide +kernel
theorem dX9_tellOfAll_168 : decode cX9_tellOfAll 168 = .ok (.getfield 70, 3) := by decide +kernel
theorem dX9_tellOfAll_171 : decode cX9_tellOfAll 171 = .ok (.ireturn, 1) := by decide +kernel
theorem dX9_tellOfAll_172 : decode cX9_tellOfAll 172 = .ok (.aload_n 0, 1) := by decide +kernel
theorem dX9_tellOfAll_173 : decode cX9_tellOfAll 173 = .ok (.getfield 93, 3) := by decide +kernel
theorem dX9_tellOfAll_176 : decode cX9_tellOfAll 176 = .ok (.ireturn, 1) := by decide +kernel
theorem dX9_tellOfAll_177 : decode cX9_tellOfAll 177 = .ok (.aload_n 0, 1) := by decide +kernel
theorem dX9_tellOfAll_178 : decode cX9_tellOfAll 178 = .ok (.getfield 202, 3) := by decide +kernel
theorem dX9_tellOfAll_181 : decode cX9_tellOfAll 181 = .ok (.ireturn, 1) := by decide +kernel
theorem dX9_tellOfAll_182 : decode cX9_tellOfAll 182 = .ok (.aload_n 0, 1) := by decide +kernel
theorem dX9_tellOfAll_183 : decode cX9_tellOfAll 183 = .ok (.getfield 229, 3) := by decide +kernel
theorem dX9_tellOfAll_186 : decode cX9_tellOfAll 186 = .ok (.ireturn, 1) := by decide +kernel
theorem dX9_digestCells_0 : decode cX9_digestCells 0 = .ok (.lload_n 1, 1) := by decide +kernel
theorem dX9_digestCells_1 : decode cX9_digestCells 1 = .ok (.lstore_n 3, 1) := by decide +kernel
theorem dX9_digestCells_2 : decode cX9_digestCells 2 = .ok (.iconst 0, 1) := by decide +kernel
theorem dX9_digestCells_3 : decode cX9_digestCells 3 = .ok (.istore 5, 2) := by decide +kernel
theorem dX9_digestCells_5 : decode cX9_digestCells 5 = .ok (.iload 5, 2) := by decide +kernel
theorem dX9_digestCells_7 : decode cX9_digestCells 7 = .ok (.bipush 8, 2) := by decide +kernel
theorem dX9_digestCells_9 : decode cX9_digestCells 9 = .ok (.if_icmp .ge 67, 3) := by decide +kernel
theorem dX9_digestCells_12 : decode cX9_digestCells 12 = .ok (.iconst 0, 1) := by decide +kernel
theorem dX9_digestCells_13 : decode cX9_digestCells 13 = .ok (.istore 6, 2) := by decide +kernel
theorem dX9_digestCells_15 : decode cX9_digestCells 15 = .ok (.iload 6, 2) := by decide +kernel
theorem dX9_digestCells_17 : decode cX9_digestCells 17 = .ok (.iconst 4, 1) := by decide +kernel
theorem dX9_digestCells_18 : decode cX9_digestCells 18 = .ok (.if_icmp .gt 23, 3) := by decide +kernel
theorem dX9_digestCells_21 : decode cX9_digestCells 21 = .ok (.lload_n 3, 1) := by decide +kernel
theorem dX9_digestCells_22 : decode cX9_digestCells 22 = .ok (.aload_n 0, 1) := by decide +kernel
theorem dX9_digestCells_23 : decode cX9_digestCells 23 = .ok (.iload 5, 2) := by decide +kernel
theorem dX9_digestCells_25 : decode cX9_digestCells 25 = .ok (.iload 6, 2) := by decide +kernel
theorem dX9_digestCells_27 : decode cX9_digestCells 27 = .ok (.invokevirtual 106, 3) := by decide +kernel
theorem dX9_digestCells_30 : decode cX9_digestCells 30 = .ok (.i2l, 1) := by decide +kernel
theorem dX9_digestCells_31 : decode cX9_digestCells 31 = .ok (.invokestatic 264, 3) := by decide +kernel
theorem dX9_digestCells_34 : decode cX9_digestCells 34 = .ok (.lstore_n 3, 1) := by decide +kernel
theorem dX9_digestCells_35 : decode cX9_digestCells 35 = .ok (.iinc 6 1, 3) := by decide +kernel
theorem dX9_digestCells_38 : decode cX9_digestCells 38 = .ok (.goto (-23), 3) := by decide +kernel
theorem dX9_digestCells_41 : decode cX9_digestCells 41 = .ok (.iconst 0, 1) := by decide +kernel
theorem dX9_digestCells_42 : decode cX9_digestCells 42 = .ok (.istore 6, 2) := by decide +kernel
theorem dX9_digestCells_44 : decode cX9_digestCells 44 = .ok (.iload 6, 2) := by decide +kernel
theorem dX9_digestCells_46 : decode cX9_digestCells 46 = .ok (.iconst 3, 1) := by decide +kernel
theorem dX9_digestCells_47 : decode cX9_digestCells 47 = .ok (.if_icmp .ge 23, 3) := by decide +kernel
theorem dX9_digestCells_50 : decode cX9_digestCells 50 = .ok (.lload_n 3, 1) := by decide +kernel
theorem dX9_digestCells_51 : decode cX9_digestCells 51 = .ok (.aload_n 0, 1) := by decide +kernel
theorem dX9_digestCells_52 : decode cX9_digestCells 52 = .ok (.iload 5, 2) := by decide +kernel
theorem dX9_digestCells_54 : decode cX9_digestCells 54 = .ok (.iload 6, 2) := by decide +kernel
theorem dX9_digestCells_56 : decode cX9_digestCells 56 = .ok (.invokevirtual 216, 3) := by decide +kernel
theorem dX9_digestCells_59 : decode cX9_digestCells 59 = .ok (.i2l, 1) := by decide +kernel
theorem dX9_digestCells_60 : decode cX9_digestCells 60 = .ok (.invokestatic 264, 3) := by decide +kernel
theorem dX9_digestCells_63 : decode cX9_digestCells 63 = .ok (.lstore_n 3, 1) := by decide +kernel
theorem dX9_digestCells_64 : decode cX9_digestCells 64 = .ok (.iinc 6 1, 3) := by decide +kernel
theorem dX9_digestCells_67 : decode cX9_digestCells 67 = .ok (.goto (-23), 3) := by decide +kernel
theorem dX9_digestCells_70 : decode cX9_digestCells 70 = .ok (.iinc 5 1, 3) := by decide +kernel
theorem dX9_digestCells_73 : decode cX9_digestCells 73 = .ok (.goto (-68), 3) := by decide +kernel
theorem dX9_digestCells_76 : decode cX9_digestCells 76 = .ok (.lload_n 3, 1) := by decide +kernel
theorem dX9_digestCells_77 : decode cX9_digestCells 77 = .ok (.lreturn, 1) := by decide +kernel
theorem dX9_digestSource_0 : decode cX9_digestSource 0 = .ok (.aload_n 0, 1) := by decide +kernel
theorem dX9_digestSource_1 : decode cX9_digestSource 1 = .ok (.iload_n 3, 1) := by decide +kernel
theorem dX9_digestSource_2 : decode cX9_digestSource 2 = .ok (.invokevirtual 128, 3) := by decide +kernel
theorem dX9_digestSource_5 : decode cX9_digestSource 5 = .ok (.astore 4, 2) := by decide +kernel
theorem dX9_digestSource_7 : decode cX9_digestSource 7 = .ok (.aload 4, 2) := by decide +kernel
theorem dX9_digestSource_9 : decode cX9_digestSource 9 = .ok (.ifnonnull 5, 3) := by decide +kernel
theorem dX9_digestSource_12 : decode cX9_digestSource 12 = .ok (.lload_n 1, 1) := by decide +kernel
theorem dX9_digestSource_13 : decode cX9_digestSource 13 = .ok (.lreturn, 1) := by decide +kernel
theorem dX9_digestSource_14 : decode cX9_digestSource 14 = .ok (.lload_n 1, 1) := by decide +kernel
theorem dX9_digestSource_15 : decode cX9_digestSource 15 = .ok (.lstore 5, 2) := by decide +kernel
theorem dX9_digestSource_17 : decode cX9_digestSource 17 = .ok (.iconst 0, 1) := by decide +kernel
theorem dX9_digestSource_18 : decode cX9_digestSource 18 = .ok (.istore 7, 2) := by decide +kernel
theorem dX9_digestSource_20 : decode cX9_digestSource 20 = .ok (.iload 7, 2) := by decide +kernel
theorem dX9_digestSource_22 : decode cX9_digestSource 22 = .ok (.bipush 7, 2) := by decide +kernel
theorem dX9_digestSource_24 : decode cX9_digestSource 24 = .ok (.if_icmp .gt 26, 3) := by decide +kernel
theorem dX9_digestSource_27 : decode cX9_digestSource 27 = .ok (.lload 5, 2) := by decide +kernel
theorem dX9_digestSource_29 : decode cX9_digestSource 29 = .ok (.aload_n 0, 1) := by decide +kernel
theorem dX9_digestSource_30 : decode cX9_digestSource 30 = .ok (.aload 4, 2) := by decide +kernel
theorem dX9_digestSource_32 : decode cX9_digestSource 32 = .ok (.iload_n 3, 1) := by decide +kernel
theorem dX9_digestSource_33 : decode cX9_digestSource 33 = .ok (.iload 7, 2) := by decide +kernel
theorem dX9_digestSource_35 : decode cX9_digestSource 35 = .ok (.invokevirtual 132, 3) := by decide +kernel
theorem dX9_digestSource_38 : decode cX9_digestSource 38 = .ok (.i2l, 1) := by decide +kernel
theorem dX9_digestSource_39 : decode cX9_digestSource 39 = .ok (.invokestatic 264, 3) := by decide +kernel
theorem dX9_digestSource_42 : decode cX9_digestSource 42 = .ok (.lstore 5, 2) := by decide +kernel
theorem dX9_digestSource_44 : decode cX9_digestSource 44 = .ok (.iinc 7 1, 3) := by decide +kernel
theorem dX9_digestSource_47 : decode cX9_digestSource 47 = .ok (.goto (-27), 3) := by decide +kernel
theorem dX9_digestSource_50 : decode cX9_digestSource 50 = .ok (.lload 5, 2) := by decide +kernel
theorem dX9_digestSource_52 : decode cX9_digestSource 52 = .ok (.lreturn, 1) := by decide +kernel
theorem dX9_spreadOneMore_0 : decode cX9_spreadOneMore 0 = .ok (.aload_n 0, 1) := by decide +kernel
theorem dX9_spreadOneMore_1 : decode cX9_spreadOneMore 1 = .ok (.getfield 19, 3) := by decide +kernel
theorem dX9_spreadOneMore_4 : decode cX9_spreadOneMore 4 = .ok (.iload_n 1, 1) := by decide +kernel
theorem dX9_spreadOneMore_5 : decode cX9_spreadOneMore 5 = .ok (.aload_n 0, 1) := by decide +kernel
theorem dX9_spreadOneMore_6 : decode cX9_spreadOneMore 6 = .ok (.getfield 32, 3) := by decide +kernel
theorem dX9_spreadOneMore_9 : decode cX9_spreadOneMore 9 = .ok (.getfield 174, 3) := by decide +kernel
theorem dX9_spreadOneMore_12 : decode cX9_spreadOneMore 12 = .ok (.ifCond .eq 7, 3) := by decide +kernel
theorem dX9_spreadOneMore_15 : decode cX9_spreadOneMore 15 = .ok (.iconst 0, 1) := by decide +kernel
theorem dX9_spreadOneMore_16 : decode cX9_spreadOneMore 16 = .ok (.goto 4, 3) := by decide +kernel
theorem dX9_spreadOneMore_19 : decode cX9_spreadOneMore 19 = .ok (.iload_n 2, 1) := by decide +kernel
theorem dX9_spreadOneMore_20 : decode cX9_spreadOneMore 20 = .ok (.iconst 0, 1) := by decide +kernel
theorem dX9_spreadOneMore_21 : decode cX9_spreadOneMore 21 = .ok (.aload_n 0, 1) := by decide +kernel
theorem dX9_spreadOneMore_22 : decode cX9_spreadOneMore 22 = .ok (.getfield 32, 3) := by decide +kernel
theorem dX9_spreadOneMore_25 : decode cX9_spreadOneMore 25 = .ok (.getfield 153, 3) := by decide +kernel
theorem dX9_spreadOneMore_28 : decode cX9_spreadOneMore 28 = .ok (.iconst 0, 1) := by decide +kernel
theorem dX9_spreadOneMore_29 : decode cX9_spreadOneMore 29 = .ok (.aload_n 0, 1) := by decide +kernel
theorem dX9_spreadOneMore_30 : decode cX9_spreadOneMore 30 = .ok (.getfield 49, 3) := by decide +kernel
theorem dX9_spreadOneMore_33 : decode cX9_spreadOneMore 33 = .ok (.invokevirtual 156, 3) := by decide +kernel
theorem dX9_spreadOneMore_36 : decode cX9_spreadOneMore 36 = .ok (.return_, 1) := by decide +kernel
theorem dX9_wouldWin_0 : decode cX9_wouldWin 0 = .ok (.aload_n 0, 1) := by decide +kernel
theorem dX9_wouldWin_1 : decode cX9_wouldWin 1 = .ok (.iload_n 2, 1) := by decide +kernel
theorem dX9_wouldWin_2 : decode cX9_wouldWin 2 = .ok (.iload_n 3, 1) := by decide +kernel
theorem dX9_wouldWin_3 : decode cX9_wouldWin 3 = .ok (.invokevirtual 322, 3) := by decide +kernel
theorem dX9_wouldWin_6 : decode cX9_wouldWin 6 = .ok (.aload_n 0, 1) := by decide +kernel
theorem dX9_wouldWin_7 : decode cX9_wouldWin 7 = .ok (.getfield 49, 3) := by decide +kernel
theorem dX9_wouldWin_10 : decode cX9_wouldWin 10 = .ok (.iload_n 1, 1) := by decide +kernel
theorem dX9_wouldWin_11 : decode cX9_wouldWin 11 = .ok (.iaload, 1) := by decide +kernel
theorem dX9_wouldWin_12 : decode cX9_wouldWin 12 = .ok (.aload_n 0, 1) := by decide +kernel
theorem dX9_wouldWin_13 : decode cX9_wouldWin 13 = .ok (.getfield 45, 3) := by decide +kernel
theorem dX9_wouldWin_16 : decode cX9_wouldWin 16 = .ok (.getfield 298, 3) := by decide +kernel
theorem dX9_wouldWin_19 : decode cX9_wouldWin 19 = .ok (.iload_n 1, 1) := by decide +kernel
theorem dX9_wouldWin_20 : decode cX9_wouldWin 20 = .ok (.iaload, 1) := by decide +kernel
theorem dX9_wouldWin_21 : decode cX9_wouldWin 21 = .ok (.if_icmp .le 7, 3) := by decide +kernel
theorem dX9_wouldWin_24 : decode cX9_wouldWin 24 = .ok (.iconst 1, 1) := by decide +kernel
theorem dX9_wouldWin_25 : decode cX9_wouldWin 25 = .ok (.goto 4, 3) := by decide +kernel
theorem dX9_wouldWin_28 : decode cX9_wouldWin 28 = .ok (.iconst 0, 1) := by decide +kernel
theorem dX9_wouldWin_29 : decode cX9_wouldWin 29 = .ok (.ireturn, 1) := by decide +kernel
theorem dX9_fewestWalls_0 : decode cX9_fewestWalls 0 = .ok (.aload_n 0, 1) := by decide +kernel
theorem dX9_fewestWalls_1 : decode cX9_fewestWalls 1 = .ok (.iload_n 1, 1) := by decide +kernel
theorem dX9_fewestWalls_2 : decode cX9_fewestWalls 2 = .ok (.invokevirtual 325, 3) := by decide +kernel
theorem dX9_fewestWalls_5 : decode cX9_fewestWalls 5 = .ok (.istore_n 3, 1) := by decide +kernel
theorem dX9_fewestWalls_6 : decode cX9_fewestWalls 6 = .ok (.iconst (-1), 1) := by decide +kernel
theorem dX9_fewestWalls_7 : decode cX9_fewestWalls 7 = .ok (.istore 4, 2) := by decide +kernel
theorem dX9_fewestWalls_9 : decode cX9_fewestWalls 9 = .ok (.iconst 0, 1) := by decide +kernel
theorem dX9_fewestWalls_10 : decode cX9_fewestWalls 10 = .ok (.istore 5, 2) := by decide +kernel
theorem dX9_fewestWalls_12 : decode cX9_fewestWalls 12 = .ok (.iload 5, 2) := by decide +kernel
theorem dX9_fewestWalls_14 : decode cX9_fewestWalls 14 = .ok (.sipush 256, 3) := by decide +kernel
theorem dX9_fewestWalls_17 : decode cX9_fewestWalls 17 = .ok (.if_icmp .ge 87, 3) := by decide +kernel
theorem dX9_fewestWalls_20 : decode cX9_fewestWalls 20 = .ok (.iload 4, 2) := by decide +kernel
theorem dX9_fewestWalls_22 : decode cX9_fewestWalls 22 = .ok (.iconst (-1), 1) := by decide +kernel
theorem dX9_fewestWalls_23 : decode cX9_fewestWalls 23 = .ok (.if_icmp .eq 16, 3) := by decide +kernel
theorem dX9_fewestWalls_26 : decode cX9_fewestWalls 26 = .ok (.iload 5, 2) := by decide +kernel
theorem dX9_fewestWalls_28 : decode cX9_fewestWalls 28 = .ok (.invokestatic 208, 3) := by decide +kernel
theorem dX9_fewestWalls_31 : decode cX9_fewestWalls 31 = .ok (.iload 4, 2) := by decide +kernel
theorem dX9_fewestWalls_33 : decode cX9_fewestWalls 33 = .ok (.invokestatic 208, 3) := by decide +kernel
theorem dX9_fewestWalls_36 : decode cX9_fewestWalls 36 = .ok (.if_icmp .ge 7, 3) := by decide +kernel
theorem dX9_fewestWalls_39 : decode cX9_fewestWalls 39 = .ok (.iconst 1, 1) := by decide +kernel
theorem dX9_fewestWalls_40 : decode cX9_fewestWalls 40 = .ok (.goto 4, 3) := by decide +kernel
theorem dX9_fewestWalls_43 : decode cX9_fewestWalls 43 = .ok (.iconst 0, 1) := by decide +kernel
theorem dX9_fewestWalls_44 : decode cX9_fewestWalls 44 = .ok (.istore 6, 2) := by decide +kernel
theorem dX9_fewestWalls_46 : decode cX9_fewestWalls 46 = .ok (.iload 5, 2) := by decide +kernel
theorem dX9_fewestWalls_48 : decode cX9_fewestWalls 48 = .ok (.iload_n 3, 1) := by decide +kernel
theorem dX9_fewestWalls_49 : decode cX9_fewestWalls 49 = .ok (.iconst (-1), 1) := by decide +kernel
theorem dX9_fewestWalls_50 : decode cX9_fewestWalls 50 = .ok (.ixor, 1) := by decide +kernel
theorem dX9_fewestWalls_51 : decode cX9_fewestWalls 51 = .ok (.iand, 1) := by decide +kernel
theorem dX9_fewestWalls_52 : decode cX9_fewestWalls 52 = .ok (.ifCond .ne 46, 3) := by decide +kernel
theorem dX9_fewestWalls_55 : decode cX9_fewestWalls 55 = .ok (.iload 6, 2) := by decide +kernel
theorem dX9_fewestWalls_57 : decode cX9_fewestWalls 57 = .ok (.ifCond .eq 41, 3) := by decide +kernel
theorem dX9_fewestWalls_60 : decode cX9_fewestWalls 60 = .ok (.aload_n 0, 1) := by decide +kernel
theorem dX9_fewestWalls_61 : decode cX9_fewestWalls 61 = .ok (.getfield 45, 3) := by decide +kernel
theorem dX9_fewestWalls_64 : decode cX9_fewestWalls 64 = .ok (.aload_n 0, 1) := by decide +kernel
theorem dX9_fewestWalls_65 : decode cX9_fewestWalls 65 = .ok (.getfield 19, 3) := by decide +kernel
theorem dX9_fewestWalls_68 : decode cX9_fewestWalls 68 = .ok (.aload_n 0, 1) := by decide +kernel
theorem dX9_fewestWalls_69 : decode cX9_fewestWalls 69 = .ok (.getfield 25, 3) := by decide +kernel
theorem dX9_fewestWalls_72 : decode cX9_fewestWalls 72 = .ok (.aload_n 0, 1) := by decide +kernel
theorem dX9_fewestWalls_73 : decode cX9_fewestWalls 73 = .ok (.getfield 32, 3) := by decide +kernel
theorem dX9_fewestWalls_76 : decode cX9_fewestWalls 76 = .ok (.iload 5, 2) := by decide +kernel
theorem dX9_fewestWalls_78 : decode cX9_fewestWalls 78 = .ok (.invokevirtual 247, 3) := by decide +kernel
theorem dX9_fewestWalls_81 : decode cX9_fewestWalls 81 = .ok (.aload_n 0, 1) := by decide +kernel
theorem dX9_fewestWalls_82 : decode cX9_fewestWalls 82 = .ok (.getfield 45, 3) := by decide +kernel
theorem dX9_fewestWalls_85 : decode cX9_fewestWalls 85 = .ok (.getfield 183, 3) := by decide +kernel
theorem dX9_fewestWalls_88 : decode cX9_fewestWalls 88 = .ok (.iload_n 1, 1) := by decide +kernel
theorem dX9_fewestWalls_89 : decode cX9_fewestWalls 89 = .ok (.iaload, 1) := by decide +kernel
theorem dX9_fewestWalls_90 : decode cX9_fewestWalls 90 = .ok (.iload_n 2, 1) := by decide +kernel
theorem dX9_fewestWalls_91 : decode cX9_fewestWalls 91 = .ok (.if_icmp .eq 7, 3) := by decide +kernel
theorem dX9_fewestWalls_94 : decode cX9_fewestWalls 94 = .ok (.iload 5, 2) := by decide +kernel
theorem dX9_fewestWalls_96 : decode cX9_fewestWalls 96 = .ok (.istore 4, 2) := by decide +kernel
theorem dX9_fewestWalls_98 : decode cX9_fewestWalls 98 = .ok (.iinc 5 1, 3) := by decide +kernel
theorem dX9_fewestWalls_101 : decode cX9_fewestWalls 101 = .ok (.goto (-89), 3) := by decide +kernel
theorem dX9_fewestWalls_104 : decode cX9_fewestWalls 104 = .ok (.iload 4, 2) := by decide +kernel
theorem dX9_fewestWalls_106 : decode cX9_fewestWalls 106 = .ok (.ireturn, 1) := by decide +kernel
theorem dX9_cellsFreeForWalls_0 : decode cX9_cellsFreeForWalls 0 = .ok (.iconst 0, 1) := by decide +kernel
theorem dX9_cellsFreeForWalls_1 : decode cX9_cellsFreeForWalls 1 = .ok (.istore_n 2, 1) := by decide +kernel
theorem dX9_cellsFreeForWalls_2 : decode cX9_cellsFreeForWalls 2 = .ok (.iconst 0, 1) := by decide +kernel
theorem dX9_cellsFreeForWalls_3 : decode cX9_cellsFreeForWalls 3 = .ok (.istore_n 3, 1) := by decide +kernel
theorem dX9_cellsFreeForWalls_4 : decode cX9_cellsFreeForWalls 4 = .ok (.iload_n 3, 1) := by decide +kernel
theorem dX9_cellsFreeForWalls_5 : decode cX9_cellsFreeForWalls 5 = .ok (.bipush 8, 2) := by decide +kernel
theorem dX9_cellsFreeForWalls_7 : decode cX9_cellsFreeForWalls 7 = .ok (.if_icmp .ge 31, 3) := by decide +kernel
theorem dX9_cellsFreeForWalls_10 : decode cX9_cellsFreeForWalls 10 = .ok (.iload_n 3, 1) := by decide +kernel
theorem dX9_cellsFreeForWalls_11 : decode cX9_cellsFreeForWalls 11 = .ok (.iload_n 1, 1) := by decide +kernel
theorem dX9_cellsFreeForWalls_12 : decode cX9_cellsFreeForWalls 12 = .ok (.if_icmp .eq 20, 3) := by decide +kernel
theorem dX9_cellsFreeForWalls_15 : decode cX9_cellsFreeForWalls 15 = .ok (.aload_n 0, 1) := by decide +kernel
theorem dX9_cellsFreeForWalls_16 : decode cX9_cellsFreeForWalls 16 = .ok (.getfield 19, 3) := by decide +kernel
theorem dX9_cellsFreeForWalls_19 : decode cX9_cellsFreeForWalls 19 = .ok (.iload_n 3, 1) := by decide +kernel
theorem dX9_cellsFreeForWalls_20 : decode cX9_cellsFreeForWalls 20 = .ok (.invokevirtual 177, 3) := by decide +kernel
theorem dX9_cellsFreeForWalls_23 : decode cX9_cellsFreeForWalls 23 = .ok (.ifCond .ne 9, 3) := by decide +kernel
theorem dX9_cellsFreeForWalls_26 : decode cX9_cellsFreeForWalls 26 = .ok (.iload_n 2, 1) := by decide +kernel
theorem dX9_cellsFreeForWalls_27 : decode cX9_cellsFreeForWalls 27 = .ok (.iconst 1, 1) := by decide +kernel
theorem dX9_cellsFreeForWalls_28 : decode cX9_cellsFreeForWalls 28 = .ok (.iload_n 3, 1) := by decide +kernel
theorem dX9_cellsFreeForWalls_29 : decode cX9_cellsFreeForWalls 29 = .ok (.ishl, 1) := by decide +kernel
theorem dX9_cellsFreeForWalls_30 : decode cX9_cellsFreeForWalls 30 = .ok (.ior, 1) := by decide +kernel
theorem dX9_cellsFreeForWalls_31 : decode cX9_cellsFreeForWalls 31 = .ok (.istore_n 2, 1) := by decide +kernel
theorem dX9_cellsFreeForWalls_32 : decode cX9_cellsFreeForWalls 32 = .ok (.iinc 3 1, 3) := by decide +kernel
theorem dX9_cellsFreeForWalls_35 : decode cX9_cellsFreeForWalls 35 = .ok (.goto (-31), 3) := by decide +kernel
theorem dX9_cellsFreeForWalls_38 : decode cX9_cellsFreeForWalls 38 = .ok (.iconst 0, 1) := by decide +kernel
theorem dX9_cellsFreeForWalls_39 : decode cX9_cellsFreeForWalls 39 = .ok (.istore_n 3, 1) := by decide +kernel
theorem dX9_cellsFreeForWalls_40 : decode cX9_cellsFreeForWalls 40 = .ok (.iload_n 3, 1) := by decide +kernel
theorem dX9_cellsFreeForWalls_41 : decode cX9_cellsFreeForWalls 41 = .ok (.aload_n 0, 1) := by decide +kernel
theorem dX9_cellsFreeForWalls_42 : decode cX9_cellsFreeForWalls 42 = .ok (.getfield 32, 3) := by decide +kernel
theorem dX9_cellsFreeForWalls_45 : decode cX9_cellsFreeForWalls 45 = .ok (.getfield 119, 3) := by decide +kernel
theorem dX9_cellsFreeForWalls_48 : decode cX9_cellsFreeForWalls 48 = .ok (.if_icmp .ge 33, 3) := by decide +kernel
theorem dX9_cellsFreeForWalls_51 : decode cX9_cellsFreeForWalls 51 = .ok (.aload_n 0, 1) := by decide +kernel
theorem dX9_cellsFreeForWalls_52 : decode cX9_cellsFreeForWalls 52 = .ok (.iload_n 3, 1) := by decide +kernel
theorem dX9_cellsFreeForWalls_53 : decode cX9_cellsFreeForWalls 53 = .ok (.invokevirtual 128, 3) := by decide +kernel
theorem dX9_cellsFreeForWalls_56 : decode cX9_cellsFreeForWalls 56 = .ok (.astore 4, 2) := by decide +kernel
theorem dX9_cellsFreeForWalls_58 : decode cX9_cellsFreeForWalls 58 = .ok (.aload 4, 2) := by decide +kernel
theorem dX9_cellsFreeForWalls_60 : decode cX9_cellsFreeForWalls 60 = .ok (.ifnull 15, 3) := by decide +kernel
theorem dX9_cellsFreeForWalls_63 : decode cX9_cellsFreeForWalls 63 = .ok (.iload_n 2, 1) := by decide +kernel
theorem dX9_cellsFreeForWalls_64 : decode cX9_cellsFreeForWalls 64 = .ok (.iconst 1, 1) := by decide +kernel
theorem dX9_cellsFreeForWalls_65 : decode cX9_cellsFreeForWalls 65 = .ok (.aload 4, 2) := by decide +kernel
theorem dX9_cellsFreeForWalls_67 : decode cX9_cellsFreeForWalls 67 = .ok (.getfield 140, 3) := by decide +kernel
theorem dX9_cellsFreeForWalls_70 : decode cX9_cellsFreeForWalls 70 = .ok (.ishl, 1) := by decide +kernel
theorem dX9_cellsFreeForWalls_71 : decode cX9_cellsFreeForWalls 71 = .ok (.iconst (-1), 1) := by decide +kernel
theorem dX9_cellsFreeForWalls_72 : decode cX9_cellsFreeForWalls 72 = .ok (.ixor, 1) := by decide +kernel
theorem dX9_cellsFreeForWalls_73 : decode cX9_cellsFreeForWalls 73 = .ok (.iand, 1) := by decide +kernel
theorem dX9_cellsFreeForWalls_74 : decode cX9_cellsFreeForWalls 74 = .ok (.istore_n 2, 1) := by decide +kernel
theorem dX9_cellsFreeForWalls_75 : decode cX9_cellsFreeForWalls 75 = .ok (.iinc 3 1, 3) := by decide +kernel
theorem dX9_cellsFreeForWalls_78 : decode cX9_cellsFreeForWalls 78 = .ok (.goto (-38), 3) := by decide +kernel
theorem dX9_cellsFreeForWalls_81 : decode cX9_cellsFreeForWalls 81 = .ok (.iload_n 2, 1) := by decide +kernel
theorem dX9_cellsFreeForWalls_82 : decode cX9_cellsFreeForWalls 82 = .ok (.ireturn, 1) := by decide +kernel
theorem dX9_watchHolders_0 : decode cX9_watchHolders 0 = .ok (.aload_n 0, 1) := by decide +kernel
theorem dX9_watchHolders_1 : decode cX9_watchHolders 1 = .ok (.getfield 39, 3) := by decide +kernel
theorem dX9_watchHolders_4 : decode cX9_watchHolders 4 = .ok (.aload_n 0, 1) := by decide +kernel
theorem dX9_watchHolders_5 : decode cX9_watchHolders 5 = .ok (.getfield 32, 3) := by decide +kernel
theorem dX9_watchHolders_8 : decode cX9_watchHolders 8 = .ok (.invokevirtual 85, 3) := by decide +kernel
theorem dX9_watchHolders_11 : decode cX9_watchHolders 11 = .ok (.iconst 0, 1) := by decide +kernel
theorem dX9_watchHolders_12 : decode cX9_watchHolders 12 = .ok (.istore_n 1, 1) := by decide +kernel
theorem dX9_watchHolders_13 : decode cX9_watchHolders 13 = .ok (.iload_n 1, 1) := by decide +kernel
theorem dX9_watchHolders_14 : decode cX9_watchHolders 14 = .ok (.bipush 24, 2) := by decide +kernel
theorem dX9_watchHolders_16 : decode cX9_watchHolders 16 = .ok (.if_icmp .ge 124, 3) := by decide +kernel
theorem dX9_watchHolders_19 : decode cX9_watchHolders 19 = .ok (.aload_n 0, 1) := by decide +kernel
theorem dX9_watchHolders_20 : decode cX9_watchHolders 20 = .ok (.getfield 45, 3) := by decide +kernel
theorem dX9_watchHolders_23 : decode cX9_watchHolders 23 = .ok (.aload_n 0, 1) := by decide +kernel
theorem dX9_watchHolders_24 : decode cX9_watchHolders 24 = .ok (.getfield 19, 3) := by decide +kernel
theorem dX9_watchHolders_27 : decode cX9_watchHolders 27 = .ok (.aload_n 0, 1) := by decide +kernel
theorem dX9_watchHolders_28 : decode cX9_watchHolders 28 = .ok (.getfield 25, 3) := by decide +kernel
theorem dX9_watchHolders_31 : decode cX9_watchHolders 31 = .ok (.aload_n 0, 1) := by decide +kernel
theorem dX9_watchHolders_32 : decode cX9_watchHolders 32 = .ok (.getfield 39, 3) := by decide +kernel
theorem dX9_watchHolders_35 : decode cX9_watchHolders 35 = .ok (.iconst 0, 1) := by decide +kernel
theorem dX9_watchHolders_36 : decode cX9_watchHolders 36 = .ok (.invokevirtual 247, 3) := by decide +kernel
theorem dX9_watchHolders_39 : decode cX9_watchHolders 39 = .ok (.iconst 0, 1) := by decide +kernel
theorem dX9_watchHolders_40 : decode cX9_watchHolders 40 = .ok (.istore_n 2, 1) := by decide +kernel
theorem dX9_watchHolders_41 : decode cX9_watchHolders 41 = .ok (.iload_n 2, 1) := by decide +kernel
theorem dX9_watchHolders_42 : decode cX9_watchHolders 42 = .ok (.bipush 8, 2) := by decide +kernel
theorem dX9_watchHolders_44 : decode cX9_watchHolders 44 = .ok (.if_icmp .ge 83, 3) := by decide +kernel
theorem dX9_watchHolders_47 : decode cX9_watchHolders 47 = .ok (.iload_n 1, 1) := by decide +kernel
theorem dX9_watchHolders_48 : decode cX9_watchHolders 48 = .ok (.ifCond .ne 25, 3) := by decide +kernel
theorem dX9_watchHolders_51 : decode cX9_watchHolders 51 = .ok (.aload_n 0, 1) := by decide +kernel
theorem dX9_watchHolders_52 : decode cX9_watchHolders 52 = .ok (.getfield 53, 3) := by decide +kernel
theorem dX9_watchHolders_55 : decode cX9_watchHolders 55 = .ok (.iload_n 2, 1) := by decide +kernel
theorem dX9_watchHolders_56 : decode cX9_watchHolders 56 = .ok (.aload_n 0, 1) := by decide +kernel
theorem dX9_watchHolders_57 : decode cX9_watchHolders 57 = .ok (.getfield 45, 3) := by decide +kernel
theorem dX9_watchHolders_60 : decode cX9_watchHolders 60 = .ok (.getfield 183, 3) := by decide +kernel
theorem dX9_watchHolders_63 : decode cX9_watchHolders 63 = .ok (.iload_n 2, 1) := by decide +kernel
theorem dX9_watchHolders_64 : decode cX9_watchHolders 64 = .ok (.iaload, 1) := by decide +kernel
theorem dX9_watchHolders_65 : decode cX9_watchHolders 65 = .ok (.iastore, 1) := by decide +kernel
theorem dX9_watchHolders_66 : decode cX9_watchHolders 66 = .ok (.aload_n 0, 1) := by decide +kernel
theorem dX9_watchHolders_67 : decode cX9_watchHolders 67 = .ok (.getfield 56, 3) := by decide +kernel
theorem dX9_watchHolders_70 : decode cX9_watchHolders 70 = .ok (.iload_n 2, 1) := by decide +kernel
theorem dX9_watchHolders_71 : decode cX9_watchHolders 71 = .ok (.iconst 0, 1) := by decide +kernel
theorem dX9_watchHolders_72 : decode cX9_watchHolders 72 = .ok (.iastore, 1) := by decide +kernel
theorem dX9_watchHolders_73 : decode cX9_watchHolders 73 = .ok (.aload_n 0, 1) := by decide +kernel
theorem dX9_watchHolders_74 : decode cX9_watchHolders 74 = .ok (.getfield 56, 3) := by decide +kernel
theorem dX9_watchHolders_77 : decode cX9_watchHolders 77 = .ok (.iload_n 2, 1) := by decide +kernel
theorem dX9_watchHolders_78 : decode cX9_watchHolders 78 = .ok (.iaload, 1) := by decide +kernel
theorem dX9_watchHolders_79 : decode cX9_watchHolders 79 = .ok (.iload_n 1, 1) := by decide +kernel
theorem dX9_watchHolders_80 : decode cX9_watchHolders 80 = .ok (.if_icmp .ne 7, 3) := by decide +kernel
theorem dX9_watchHolders_83 : decode cX9_watchHolders 83 = .ok (.iconst 1, 1) := by decide +kernel
theorem dX9_watchHolders_84 : decode cX9_watchHolders 84 = .ok (.goto 4, 3) := by decide +kernel
theorem dX9_watchHolders_87 : decode cX9_watchHolders 87 = .ok (.iconst 0, 1) := by decide +kernel
theorem dX9_watchHolders_88 : decode cX9_watchHolders 88 = .ok (.istore_n 3, 1) := by decide +kernel
theorem dX9_watchHolders_89 : decode cX9_watchHolders 89 = .ok (.iload_n 3, 1) := by decide +kernel
theorem dX9_watchHolders_90 : decode cX9_watchHolders 90 = .ok (.ifCond .eq 31, 3) := by decide +kernel
theorem dX9_watchHolders_93 : decode cX9_watchHolders 93 = .ok (.aload_n 0, 1) := by decide +kernel
theorem dX9_watchHolders_94 : decode cX9_watchHolders 94 = .ok (.getfield 45, 3) := by decide +kernel
theorem dX9_watchHolders_97 : decode cX9_watchHolders 97 = .ok (.getfield 183, 3) := by decide +kernel
theorem dX9_watchHolders_100 : decode cX9_watchHolders 100 = .ok (.iload_n 2, 1) := by decide +kernel
theorem dX9_watchHolders_101 : decode cX9_watchHolders 101 = .ok (.iaload, 1) := by decide +kernel
theorem dX9_watchHolders_102 : decode cX9_watchHolders 102 = .ok (.aload_n 0, 1) := by decide +kernel
theorem dX9_watchHolders_103 : decode cX9_watchHolders 103 = .ok (.getfield 53, 3) := by decide +kernel
theorem dX9_watchHolders_106 : decode cX9_watchHolders 106 = .ok (.iload_n 2, 1) := by decide +kernel
theorem dX9_watchHolders_107 : decode cX9_watchHolders 107 = .ok (.iaload, 1) := by decide +kernel
theorem dX9_watchHolders_108 : decode cX9_watchHolders 108 = .ok (.if_icmp .ne 13, 3) := by decide +kernel
theorem dX9_watchHolders_111 : decode cX9_watchHolders 111 = .ok (.aload_n 0, 1) := by decide +kernel
theorem dX9_watchHolders_112 : decode cX9_watchHolders 112 = .ok (.getfield 56, 3) := by decide +kernel
theorem dX9_watchHolders_115 : decode cX9_watchHolders 115 = .ok (.iload_n 2, 1) := by decide +kernel
theorem dX9_watchHolders_116 : decode cX9_watchHolders 116 = .ok (.dup2, 1) := by decide +kernel
theorem dX9_watchHolders_117 : decode cX9_watchHolders 117 = .ok (.iaload, 1) := by decide +kernel
theorem dX9_watchHolders_118 : decode cX9_watchHolders 118 = .ok (.iconst 1, 1) := by decide +kernel
theorem dX9_watchHolders_119 : decode cX9_watchHolders 119 = .ok (.iadd, 1) := by decide +kernel
theorem dX9_watchHolders_120 : decode cX9_watchHolders 120 = .ok (.iastore, 1) := by decide +kernel
theorem dX9_watchHolders_121 : decode cX9_watchHolders 121 = .ok (.iinc 2 1, 3) := by decide +kernel
theorem dX9_watchHolders_124 : decode cX9_watchHolders 124 = .ok (.goto (-83), 3) := by decide +kernel
theorem dX9_watchHolders_127 : decode cX9_watchHolders 127 = .ok (.aload_n 0, 1) := by decide +kernel
theorem dX9_watchHolders_128 : decode cX9_watchHolders 128 = .ok (.getfield 39, 3) := by decide +kernel
theorem dX9_watchHolders_131 : decode cX9_watchHolders 131 = .ok (.invokevirtual 189, 3) := by decide +kernel
theorem dX9_watchHolders_134 : decode cX9_watchHolders 134 = .ok (.iinc 1 1, 3) := by decide +kernel
theorem dX9_watchHolders_137 : decode cX9_watchHolders 137 = .ok (.goto (-124), 3) := by decide +kernel
theorem dX9_watchHolders_140 : decode cX9_watchHolders 140 = .ok (.return_, 1) := by decide +kernel
theorem dX9_heldBy_0 : decode cX9_heldBy 0 = .ok (.aload_n 0, 1) := by decide +kernel
theorem dX9_heldBy_1 : decode cX9_heldBy 1 = .ok (.getfield 53, 3) := by decide +kernel
theorem dX9_heldBy_4 : decode cX9_heldBy 4 = .ok (.iload_n 1, 1) := by decide +kernel
theorem dX9_heldBy_5 : decode cX9_heldBy 5 = .ok (.iaload, 1) := by decide +kernel
theorem dX9_heldBy_6 : decode cX9_heldBy 6 = .ok (.iload_n 2, 1) := by decide +kernel
theorem dX9_heldBy_7 : decode cX9_heldBy 7 = .ok (.if_icmp .ne 12, 3) := by decide +kernel
theorem dX9_heldBy_10 : decode cX9_heldBy 10 = .ok (.aload_n 0, 1) := by decide +kernel
theorem dX9_heldBy_11 : decode cX9_heldBy 11 = .ok (.getfield 56, 3) := by decide +kernel
theorem dX9_heldBy_14 : decode cX9_heldBy 14 = .ok (.iload_n 1, 1) := by decide +kernel
theorem dX9_heldBy_15 : decode cX9_heldBy 15 = .ok (.iaload, 1) := by decide +kernel
theorem dX9_heldBy_16 : decode cX9_heldBy 16 = .ok (.goto 4, 3) := by decide +kernel
theorem dX9_heldBy_19 : decode cX9_heldBy 19 = .ok (.iconst 0, 1) := by decide +kernel
theorem dX9_heldBy_20 : decode cX9_heldBy 20 = .ok (.ireturn, 1) := by decide +kernel
theorem dX9_fitsNoses_0 : decode cX9_fitsNoses 0 = .ok (.iload_n 1, 1) := by decide +kernel
theorem dX9_fitsNoses_1 : decode cX9_fitsNoses 1 = .ok (.bipush 27, 2) := by decide +kernel
theorem dX9_fitsNoses_3 : decode cX9_fitsNoses 3 = .ok (.idiv, 1) := by decide +kernel
theorem dX9_fitsNoses_4 : decode cX9_fitsNoses 4 = .ok (.istore_n 2, 1) := by decide +kernel
theorem dX9_fitsNoses_5 : decode cX9_fitsNoses 5 = .ok (.aload_n 0, 1) := by decide +kernel
theorem dX9_fitsNoses_6 : decode cX9_fitsNoses 6 = .ok (.getfield 19, 3) := by decide +kernel
theorem dX9_fitsNoses_9 : decode cX9_fitsNoses 9 = .ok (.iload_n 2, 1) := by decide +kernel
theorem dX9_fitsNoses_10 : decode cX9_fitsNoses 10 = .ok (.invokevirtual 116, 3) := by decide +kernel
theorem dX9_fitsNoses_13 : decode cX9_fitsNoses 13 = .ok (.ifCond .ne 5, 3) := by decide +kernel
theorem dX9_fitsNoses_16 : decode cX9_fitsNoses 16 = .ok (.iconst 0, 1) := by decide +kernel
theorem dX9_fitsNoses_17 : decode cX9_fitsNoses 17 = .ok (.ireturn, 1) := by decide +kernel
theorem dX9_fitsNoses_18 : decode cX9_fitsNoses 18 = .ok (.aload_n 0, 1) := by decide +kernel
theorem dX9_fitsNoses_19 : decode cX9_fitsNoses 19 = .ok (.iload_n 2, 1) := by decide +kernel
theorem dX9_fitsNoses_20 : decode cX9_fitsNoses 20 = .ok (.iload_n 1, 1) := by decide +kernel
theorem dX9_fitsNoses_21 : decode cX9_fitsNoses 21 = .ok (.bipush 9, 2) := by decide +kernel
theorem dX9_fitsNoses_23 : decode cX9_fitsNoses 23 = .ok (.irem, 1) := by decide +kernel
theorem dX9_fitsNoses_24 : decode cX9_fitsNoses 24 = .ok (.iconst 1, 1) := by decide +kernel
theorem dX9_fitsNoses_25 : decode cX9_fitsNoses 25 = .ok (.iadd, 1) := by decide +kernel
theorem dX9_fitsNoses_26 : decode cX9_fitsNoses 26 = .ok (.invokevirtual 322, 3) := by decide +kernel
theorem dX9_fitsNoses_29 : decode cX9_fitsNoses 29 = .ok (.iload_n 1, 1) := by decide +kernel
theorem dX9_fitsNoses_30 : decode cX9_fitsNoses 30 = .ok (.invokestatic 328, 3) := by decide +kernel
theorem dX9_fitsNoses_33 : decode cX9_fitsNoses 33 = .ok (.istore_n 3, 1) := by decide +kernel
theorem dX9_fitsNoses_34 : decode cX9_fitsNoses 34 = .ok (.iconst 0, 1) := by decide +kernel
theorem dX9_fitsNoses_35 : decode cX9_fitsNoses 35 = .ok (.istore 4, 2) := by decide +kernel
theorem dX9_fitsNoses_37 : decode cX9_fitsNoses 37 = .ok (.iload 4, 2) := by decide +kernel
theorem dX9_fitsNoses_39 : decode cX9_fitsNoses 39 = .ok (.aload_n 0, 1) := by decide +kernel
theorem dX9_fitsNoses_40 : decode cX9_fitsNoses 40 = .ok (.getfield 32, 3) := by decide +kernel
theorem dX9_fitsNoses_43 : decode cX9_fitsNoses 43 = .ok (.getfield 219, 3) := by decide +kernel
theorem dX9_fitsNoses_46 : decode cX9_fitsNoses 46 = .ok (.if_icmp .ge 39, 3) := by decide +kernel
theorem dX9_fitsNoses_49 : decode cX9_fitsNoses 49 = .ok (.aload_n 0, 1) := by decide +kernel
theorem dX9_fitsNoses_50 : decode cX9_fitsNoses 50 = .ok (.aload_n 0, 1) := by decide +kernel
theorem dX9_fitsNoses_51 : decode cX9_fitsNoses 51 = .ok (.getfield 32, 3) := by decide +kernel
theorem dX9_fitsNoses_54 : decode cX9_fitsNoses 54 = .ok (.getfield 331, 3) := by decide +kernel
theorem dX9_fitsNoses_57 : decode cX9_fitsNoses 57 = .ok (.iload 4, 2) := by decide +kernel
theorem dX9_fitsNoses_59 : decode cX9_fitsNoses 59 = .ok (.iaload, 1) := by decide +kernel
theorem dX9_fitsNoses_60 : decode cX9_fitsNoses 60 = .ok (.iload_n 3, 1) := by decide +kernel
theorem dX9_fitsNoses_61 : decode cX9_fitsNoses 61 = .ok (.invokevirtual 334, 3) := by decide +kernel
theorem dX9_fitsNoses_64 : decode cX9_fitsNoses 64 = .ok (.aload_n 0, 1) := by decide +kernel
theorem dX9_fitsNoses_65 : decode cX9_fitsNoses 65 = .ok (.getfield 32, 3) := by decide +kernel
theorem dX9_fitsNoses_68 : decode cX9_fitsNoses 68 = .ok (.getfield 337, 3) := by decide +kernel
theorem dX9_fitsNoses_71 : decode cX9_fitsNoses 71 = .ok (.iload 4, 2) := by decide +kernel
theorem dX9_fitsNoses_73 : decode cX9_fitsNoses 73 = .ok (.iaload, 1) := by decide +kernel
theorem dX9_fitsNoses_74 : decode cX9_fitsNoses 74 = .ok (.if_icmp .eq 5, 3) := by decide +kernel
theorem dX9_fitsNoses_77 : decode cX9_fitsNoses 77 = .ok (.iconst 0, 1) := by decide +kernel
theorem dX9_fitsNoses_78 : decode cX9_fitsNoses 78 = .ok (.ireturn, 1) := by decide +kernel
theorem dX9_fitsNoses_79 : decode cX9_fitsNoses 79 = .ok (.iinc 4 1, 3) := by decide +kernel
theorem dX9_fitsNoses_82 : decode cX9_fitsNoses 82 = .ok (.goto (-45), 3) := by decide +kernel
theorem dX9_fitsNoses_85 : decode cX9_fitsNoses 85 = .ok (.iconst 1, 1) := by decide +kernel
theorem dX9_fitsNoses_86 : decode cX9_fitsNoses 86 = .ok (.ireturn, 1) := by decide +kernel
theorem dX9_parishOf_0 : decode cX9_parishOf 0 = .ok (.iload_n 0, 1) := by decide +kernel
theorem dX9_parishOf_1 : decode cX9_parishOf 1 = .ok (.bipush 9, 2) := by decide +kernel
theorem dX9_parishOf_3 : decode cX9_parishOf 3 = .ok (.idiv, 1) := by decide +kernel
theorem dX9_parishOf_4 : decode cX9_parishOf 4 = .ok (.iconst 3, 1) := by decide +kernel
theorem dX9_parishOf_5 : decode cX9_parishOf 5 = .ok (.irem, 1) := by decide +kernel
theorem dX9_parishOf_6 : decode cX9_parishOf 6 = .ok (.ireturn, 1) := by decide +kernel
theorem dX9_whoseWith_0 : decode cX9_whoseWith 0 = .ok (.aload_n 0, 1) := by decide +kernel
theorem dX9_whoseWith_1 : decode cX9_whoseWith 1 = .ok (.getfield 49, 3) := by decide +kernel
theorem dX9_whoseWith_4 : decode cX9_whoseWith 4 = .ok (.iload_n 1, 1) := by decide +kernel
theorem dX9_whoseWith_5 : decode cX9_whoseWith 5 = .ok (.iaload, 1) := by decide +kernel
theorem dX9_whoseWith_6 : decode cX9_whoseWith 6 = .ok (.aload_n 0, 1) := by decide +kernel
theorem dX9_whoseWith_7 : decode cX9_whoseWith 7 = .ok (.getfield 45, 3) := by decide +kernel
theorem dX9_whoseWith_10 : decode cX9_whoseWith 10 = .ok (.getfield 298, 3) := by decide +kernel
theorem dX9_whoseWith_13 : decode cX9_whoseWith 13 = .ok (.iload_n 1, 1) := by decide +kernel
theorem dX9_whoseWith_14 : decode cX9_whoseWith 14 = .ok (.iaload, 1) := by decide +kernel
theorem dX9_whoseWith_15 : decode cX9_whoseWith 15 = .ok (.if_icmp .le 7, 3) := by decide +kernel
theorem dX9_whoseWith_18 : decode cX9_whoseWith 18 = .ok (.iload_n 2, 1) := by decide +kernel
theorem dX9_whoseWith_19 : decode cX9_whoseWith 19 = .ok (.goto 12, 3) := by decide +kernel
theorem dX9_whoseWith_22 : decode cX9_whoseWith 22 = .ok (.aload_n 0, 1) := by decide +kernel
theorem dX9_whoseWith_23 : decode cX9_whoseWith 23 = .ok (.getfield 45, 3) := by decide +kernel
theorem dX9_whoseWith_26 : decode cX9_whoseWith 26 = .ok (.getfield 183, 3) := by decide +kernel
theorem dX9_whoseWith_29 : decode cX9_whoseWith 29 = .ok (.iload_n 1, 1) := by decide +kernel
theorem dX9_whoseWith_30 : decode cX9_whoseWith 30 = .ok (.iaload, 1) := by decide +kernel
theorem dX9_whoseWith_31 : decode cX9_whoseWith 31 = .ok (.ireturn, 1) := by decide +kernel
theorem dX9_tallyFindings_0 : decode cX9_tallyFindings 0 = .ok (.iconst 0, 1) := by decide +kernel
theorem dX9_tallyFindings_1 : decode cX9_tallyFindings 1 = .ok (.istore_n 1, 1) := by decide +kernel
theorem dX9_tallyFindings_2 : decode cX9_tallyFindings 2 = .ok (.iload_n 1, 1) := by decide +kernel
theorem dX9_tallyFindings_3 : decode cX9_tallyFindings 3 = .ok (.aload_n 0, 1) := by decide +kernel
theorem dX9_tallyFindings_4 : decode cX9_tallyFindings 4 = .ok (.getfield 59, 3) := by decide +kernel
theorem dX9_tallyFindings_7 : decode cX9_tallyFindings 7 = .ok (.arraylength, 1) := by decide +kernel
theorem dX9_tallyFindings_8 : decode cX9_tallyFindings 8 = .ok (.if_icmp .ge 16, 3) := by decide +kernel
theorem dX9_tallyFindings_11 : decode cX9_tallyFindings 11 = .ok (.aload_n 0, 1) := by decide +kernel
theorem dX9_tallyFindings_12 : decode cX9_tallyFindings 12 = .ok (.getfield 59, 3) := by decide +kernel
theorem dX9_tallyFindings_15 : decode cX9_tallyFindings 15 = .ok (.iload_n 1, 1) := by decide +kernel
theorem dX9_tallyFindings_16 : decode cX9_tallyFindings 16 = .ok (.iconst 0, 1) := by decide +kernel
theorem dX9_tallyFindings_17 : decode cX9_tallyFindings 17 = .ok (.iastore, 1) := by decide +kernel
theorem dX9_tallyFindings_18 : decode cX9_tallyFindings 18 = .ok (.iinc 1 1, 3) := by decide +kernel
theorem dX9_tallyFindings_21 : decode cX9_tallyFindings 21 = .ok (.goto (-19), 3) := by decide +kernel
theorem dX9_tallyFindings_24 : decode cX9_tallyFindings 24 = .ok (.iconst 0, 1) := by decide +kernel
theorem dX9_tallyFindings_25 : decode cX9_tallyFindings 25 = .ok (.istore_n 1, 1) := by decide +kernel
theorem dX9_tallyFindings_26 : decode cX9_tallyFindings 26 = .ok (.iconst 0, 1) := by decide +kernel
theorem dX9_tallyFindings_27 : decode cX9_tallyFindings 27 = .ok (.istore_n 2, 1) := by decide +kernel
theorem dX9_tallyFindings_28 : decode cX9_tallyFindings 28 = .ok (.iload_n 2, 1) := by decide +kernel
theorem dX9_tallyFindings_29 : decode cX9_tallyFindings 29 = .ok (.sipush 216, 3) := by decide +kernel
theorem dX9_tallyFindings_32 : decode cX9_tallyFindings 32 = .ok (.if_icmp .ge 62, 3) := by decide +kernel
theorem dX9_tallyFindings_35 : decode cX9_tallyFindings 35 = .ok (.aload_n 0, 1) := by decide +kernel
theorem dX9_tallyFindings_36 : decode cX9_tallyFindings 36 = .ok (.iload_n 2, 1) := by decide +kernel
theorem dX9_tallyFindings_37 : decode cX9_tallyFindings 37 = .ok (.invokevirtual 232, 3) := by decide +kernel
theorem dX9_tallyFindings_40 : decode cX9_tallyFindings 40 = .ok (.ifCond .eq 48, 3) := by decide +kernel
theorem dX9_tallyFindings_43 : decode cX9_tallyFindings 43 = .ok (.iinc 1 1, 3) := by decide +kernel
theorem dX9_tallyFindings_46 : decode cX9_tallyFindings 46 = .ok (.iconst 0, 1) := by decide +kernel
theorem dX9_tallyFindings_47 : decode cX9_tallyFindings 47 = .ok (.istore_n 3, 1) := by decide +kernel
theorem dX9_tallyFindings_48 : decode cX9_tallyFindings 48 = .ok (.iload_n 3, 1) := by decide +kernel
theorem dX9_tallyFindings_49 : decode cX9_tallyFindings 49 = .ok (.bipush 8, 2) := by decide +kernel
theorem dX9_tallyFindings_51 : decode cX9_tallyFindings 51 = .ok (.if_icmp .ge 37, 3) := by decide +kernel
theorem dX9_tallyFindings_54 : decode cX9_tallyFindings 54 = .ok (.aload_n 0, 1) := by decide +kernel
theorem dX9_tallyFindings_55 : decode cX9_tallyFindings 55 = .ok (.iload_n 3, 1) := by decide +kernel
theorem dX9_tallyFindings_56 : decode cX9_tallyFindings 56 = .ok (.iload_n 2, 1) := by decide +kernel
theorem dX9_tallyFindings_57 : decode cX9_tallyFindings 57 = .ok (.invokestatic 328, 3) := by decide +kernel
theorem dX9_tallyFindings_60 : decode cX9_tallyFindings 60 = .ok (.invokevirtual 334, 3) := by decide +kernel
theorem dX9_tallyFindings_63 : decode cX9_tallyFindings 63 = .ok (.istore 4, 2) := by decide +kernel
theorem dX9_tallyFindings_65 : decode cX9_tallyFindings 65 = .ok (.aload_n 0, 1) := by decide +kernel
theorem dX9_tallyFindings_66 : decode cX9_tallyFindings 66 = .ok (.getfield 59, 3) := by decide +kernel
theorem dX9_tallyFindings_69 : decode cX9_tallyFindings 69 = .ok (.iload_n 3, 1) := by decide +kernel
theorem dX9_tallyFindings_70 : decode cX9_tallyFindings 70 = .ok (.iconst 4, 1) := by decide +kernel
theorem dX9_tallyFindings_71 : decode cX9_tallyFindings 71 = .ok (.imul, 1) := by decide +kernel
theorem dX9_tallyFindings_72 : decode cX9_tallyFindings 72 = .ok (.iload 4, 2) := by decide +kernel
theorem dX9_tallyFindings_74 : decode cX9_tallyFindings 74 = .ok (.iadd, 1) := by decide +kernel
theorem dX9_tallyFindings_75 : decode cX9_tallyFindings 75 = .ok (.iconst 1, 1) := by decide +kernel
theorem dX9_tallyFindings_76 : decode cX9_tallyFindings 76 = .ok (.iadd, 1) := by decide +kernel
theorem dX9_tallyFindings_77 : decode cX9_tallyFindings 77 = .ok (.dup2, 1) := by decide +kernel
theorem dX9_tallyFindings_78 : decode cX9_tallyFindings 78 = .ok (.iaload, 1) := by decide +kernel
theorem dX9_tallyFindings_79 : decode cX9_tallyFindings 79 = .ok (.iconst 1, 1) := by decide +kernel
theorem dX9_tallyFindings_80 : decode cX9_tallyFindings 80 = .ok (.iadd, 1) := by decide +kernel
theorem dX9_tallyFindings_81 : decode cX9_tallyFindings 81 = .ok (.iastore, 1) := by decide +kernel
theorem dX9_tallyFindings_82 : decode cX9_tallyFindings 82 = .ok (.iinc 3 1, 3) := by decide +kernel
theorem dX9_tallyFindings_85 : decode cX9_tallyFindings 85 = .ok (.goto (-37), 3) := by decide +kernel
theorem dX9_tallyFindings_88 : decode cX9_tallyFindings 88 = .ok (.iinc 2 1, 3) := by decide +kernel
theorem dX9_tallyFindings_91 : decode cX9_tallyFindings 91 = .ok (.goto (-63), 3) := by decide +kernel
theorem dX9_tallyFindings_94 : decode cX9_tallyFindings 94 = .ok (.iload_n 1, 1) := by decide +kernel
theorem dX9_tallyFindings_95 : decode cX9_tallyFindings 95 = .ok (.ireturn, 1) := by decide +kernel
theorem dX9_cellOfFewestLeft_0 : decode cX9_cellOfFewestLeft 0 = .ok (.iconst (-1), 1) := by decide +kernel
theorem dX9_cellOfFewestLeft_1 : decode cX9_cellOfFewestLeft 1 = .ok (.istore_n 1, 1) := by decide +kernel
theorem dX9_cellOfFewestLeft_2 : decode cX9_cellOfFewestLeft 2 = .ok (.sipush 217, 3) := by decide +kernel
theorem dX9_cellOfFewestLeft_5 : decode cX9_cellOfFewestLeft 5 = .ok (.istore_n 2, 1) := by decide +kernel
theorem dX9_cellOfFewestLeft_6 : decode cX9_cellOfFewestLeft 6 = .ok (.iconst 0, 1) := by decide +kernel
theorem dX9_cellOfFewestLeft_7 : decode cX9_cellOfFewestLeft 7 = .ok (.istore_n 3, 1) := by decide +kernel
theorem dX9_cellOfFewestLeft_8 : decode cX9_cellOfFewestLeft 8 = .ok (.iload_n 3, 1) := by decide +kernel
theorem dX9_cellOfFewestLeft_9 : decode cX9_cellOfFewestLeft 9 = .ok (.bipush 8, 2) := by decide +kernel
theorem dX9_cellOfFewestLeft_11 : decode cX9_cellOfFewestLeft 11 = .ok (.if_icmp .ge 56, 3) := by decide +kernel
theorem dX9_cellOfFewestLeft_14 : decode cX9_cellOfFewestLeft 14 = .ok (.iconst 0, 1) := by decide +kernel
theorem dX9_cellOfFewestLeft_15 : decode cX9_cellOfFewestLeft 15 = .ok (.istore 4, 2) := by decide +kernel
theorem dX9_cellOfFewestLeft_17 : decode cX9_cellOfFewestLeft 17 = .ok (.iconst 0, 1) := by decide +kernel
theorem dX9_cellOfFewestLeft_18 : decode cX9_cellOfFewestLeft 18 = .ok (.istore 5, 2) := by decide +kernel
theorem dX9_cellOfFewestLeft_20 : decode cX9_cellOfFewestLeft 20 = .ok (.iload 5, 2) := by decide +kernel
theorem dX9_cellOfFewestLeft_22 : decode cX9_cellOfFewestLeft 22 = .ok (.iconst 4, 1) := by decide +kernel
theorem dX9_cellOfFewestLeft_23 : decode cX9_cellOfFewestLeft 23 = .ok (.if_icmp .ge 27, 3) := by decide +kernel
theorem dX9_cellOfFewestLeft_26 : decode cX9_cellOfFewestLeft 26 = .ok (.iload 4, 2) := by decide +kernel
theorem dX9_cellOfFewestLeft_28 : decode cX9_cellOfFewestLeft 28 = .ok (.aload_n 0, 1) := by decide +kernel
theorem dX9_cellOfFewestLeft_29 : decode cX9_cellOfFewestLeft 29 = .ok (.getfield 59, 3) := by decide +kernel
theorem dX9_cellOfFewestLeft_32 : decode cX9_cellOfFewestLeft 32 = .ok (.iload_n 3, 1) := by decide +kernel
theorem dX9_cellOfFewestLeft_33 : decode cX9_cellOfFewestLeft 33 = .ok (.iconst 4, 1) := by decide +kernel
theorem dX9_cellOfFewestLeft_34 : decode cX9_cellOfFewestLeft 34 = .ok (.imul, 1) := by decide +kernel
theorem dX9_cellOfFewestLeft_35 : decode cX9_cellOfFewestLeft 35 = .ok (.iload 5, 2) := by decide +kernel
theorem dX9_cellOfFewestLeft_37 : decode cX9_cellOfFewestLeft 37 = .ok (.iadd, 1) := by decide +kernel
theorem dX9_cellOfFewestLeft_38 : decode cX9_cellOfFewestLeft 38 = .ok (.iaload, 1) := by decide +kernel
theorem dX9_cellOfFewestLeft_39 : decode cX9_cellOfFewestLeft 39 = .ok (.invokestatic 340, 3) := by decide +kernel
theorem dX9_cellOfFewestLeft_42 : decode cX9_cellOfFewestLeft 42 = .ok (.istore 4, 2) := by decide +kernel
theorem dX9_cellOfFewestLeft_44 : decode cX9_cellOfFewestLeft 44 = .ok (.iinc 5 1, 3) := by decide +kernel
theorem dX9_cellOfFewestLeft_47 : decode cX9_cellOfFewestLeft 47 = .ok (.goto (-27), 3) := by decide +kernel
theorem dX9_cellOfFewestLeft_50 : decode cX9_cellOfFewestLeft 50 = .ok (.iload 4, 2) := by decide +kernel
theorem dX9_cellOfFewestLeft_52 : decode cX9_cellOfFewestLeft 52 = .ok (.iload_n 2, 1) := by decide +kernel
theorem dX9_cellOfFewestLeft_53 : decode cX9_cellOfFewestLeft 53 = .ok (.if_icmp .ge 8, 3) := by decide +kernel
theorem dX9_cellOfFewestLeft_56 : decode cX9_cellOfFewestLeft 56 = .ok (.iload 4, 2) := by decide +kernel
theorem dX9_cellOfFewestLeft_58 : decode cX9_cellOfFewestLeft 58 = .ok (.istore_n 2, 1) := by decide +kernel
theorem dX9_cellOfFewestLeft_59 : decode cX9_cellOfFewestLeft 59 = .ok (.iload_n 3, 1) := by decide +kernel
theorem dX9_cellOfFewestLeft_60 : decode cX9_cellOfFewestLeft 60 = .ok (.istore_n 1, 1) := by decide +kernel
theorem dX9_cellOfFewestLeft_61 : decode cX9_cellOfFewestLeft 61 = .ok (.iinc 3 1, 3) := by decide +kernel
theorem dX9_cellOfFewestLeft_64 : decode cX9_cellOfFewestLeft 64 = .ok (.goto (-56), 3) := by decide +kernel
theorem dX9_cellOfFewestLeft_67 : decode cX9_cellOfFewestLeft 67 = .ok (.iload_n 1, 1) := by decide +kernel
theorem dX9_cellOfFewestLeft_68 : decode cX9_cellOfFewestLeft 68 = .ok (.ireturn, 1) := by decide +kernel
theorem dX10_init_0 : decode cX10_init 0 = .ok (.aload_n 0, 1) := by decide +kernel
theorem dX10_init_1 : decode cX10_init 1 = .ok (.invokespecial 1, 3) := by decide +kernel
theorem dX10_init_4 : decode cX10_init 4 = .ok (.aload_n 0, 1) := by decide +kernel
theorem dX10_init_5 : decode cX10_init 5 = .ok (.bipush 14, 2) := by decide +kernel
theorem dX10_init_7 : decode cX10_init 7 = .ok (.newarray .int, 2) := by decide +kernel
theorem dX10_init_9 : decode cX10_init 9 = .ok (.putfield 7, 3) := by decide +kernel
theorem dX10_init_12 : decode cX10_init 12 = .ok (.aload_n 0, 1) := by decide +kernel
theorem dX10_init_13 : decode cX10_init 13 = .ok (.bipush 8, 2) := by decide +kernel
theorem dX10_init_15 : decode cX10_init 15 = .ok (.newarray .int, 2) := by decide +kernel
theorem dX10_init_17 : decode cX10_init 17 = .ok (.putfield 13, 3) := by decide +kernel
theorem dX10_init_20 : decode cX10_init 20 = .ok (.aload_n 0, 1) := by decide +kernel
theorem dX10_init_21 : decode cX10_init 21 = .ok (.bipush 8, 2) := by decide +kernel
theorem dX10_init_23 : decode cX10_init 23 = .ok (.newarray .int, 2) := by decide +kernel
theorem dX10_init_25 : decode cX10_init 25 = .ok (.putfield 16, 3) := by decide +kernel
theorem dX10_init_28 : decode cX10_init 28 = .ok (.aload_n 0, 1) := by decide +kernel
theorem dX10_init_29 : decode cX10_init 29 = .ok (.iconst 3, 1) := by decide +kernel
theorem dX10_init_30 : decode cX10_init 30 = .ok (.newarray .int, 2) := by decide +kernel
theorem dX10_init_32 : decode cX10_init 32 = .ok (.putfield 19, 3) := by decide +kernel
theorem dX10_init_35 : decode cX10_init 35 = .ok (.aload_n 0, 1) := by decide +kernel
theorem dX10_init_36 : decode cX10_init 36 = .ok (.bipush 42, 2) := by decide +kernel
theorem dX10_init_38 : decode cX10_init 38 = .ok (.newarray .int, 2) := by decide +kernel
theorem dX10_init_40 : decode cX10_init 40 = .ok (.putfield 22, 3) := by decide +kernel
theorem dX10_init_43 : decode cX10_init 43 = .ok (.aload_n 0, 1) := by decide +kernel
theorem dX10_init_44 : decode cX10_init 44 = .ok (.bipush 8, 2) := by decide +kernel
theorem dX10_init_46 : decode cX10_init 46 = .ok (.newarray .int, 2) := by decide +kernel
theorem dX10_init_48 : decode cX10_init 48 = .ok (.putfield 25, 3) := by decide +kernel
theorem dX10_init_51 : decode cX10_init 51 = .ok (.aload_n 0, 1) := by decide +kernel
theorem dX10_init_52 : decode cX10_init 52 = .ok (.bipush 8, 2) := by decide +kernel
theorem dX10_init_54 : decode cX10_init 54 = .ok (.newarray .int, 2) := by decide +kernel
theorem dX10_init_56 : decode cX10_init 56 = .ok (.putfield 28, 3) := by decide +kernel
theorem dX10_init_59 : decode cX10_init 59 = .ok (.aload_n 0, 1) := by decide +kernel
theorem dX10_init_60 : decode cX10_init 60 = .ok (.bipush 8, 2) := by decide +kernel
theorem dX10_init_62 : decode cX10_init 62 = .ok (.newarray .int, 2) := by decide +kernel
theorem dX10_init_64 : decode cX10_init 64 = .ok (.putfield 31, 3) := by decide +kernel
theorem dX10_init_67 : decode cX10_init 67 = .ok (.aload_n 0, 1) := by decide +kernel
theorem dX10_init_68 : decode cX10_init 68 = .ok (.bipush 8, 2) := by decide +kernel
theorem dX10_init_70 : decode cX10_init 70 = .ok (.newarray .int, 2) := by decide +kernel
theorem dX10_init_72 : decode cX10_init 72 = .ok (.putfield 34, 3) := by decide +kernel
theorem dX10_init_75 : decode cX10_init 75 = .ok (.aload_n 0, 1) := by decide +kernel
theorem dX10_init_76 : decode cX10_init 76 = .ok (.bipush 42, 2) := by decide +kernel
theorem dX10_init_78 : decode cX10_init 78 = .ok (.newarray .int, 2) := by decide +kernel
theorem dX10_init_80 : decode cX10_init 80 = .ok (.putfield 37, 3) := by decide +kernel
theorem dX10_init_83 : decode cX10_init 83 = .ok (.aload_n 0, 1) := by decide +kernel
theorem dX10_init_84 : decode cX10_init 84 = .ok (.bipush 16, 2) := by decide +kernel
theorem dX10_init_86 : decode cX10_init 86 = .ok (.newarray .int, 2) := by decide +kernel
theorem dX10_init_88 : decode cX10_init 88 = .ok (.putfield 40, 3) := by decide +kernel
theorem dX10_init_91 : decode cX10_init 91 = .ok (.aload_n 0, 1) := by decide +kernel
theorem dX10_init_92 : decode cX10_init 92 = .ok (.bipush 32, 2) := by decide +kernel
theorem dX10_init_94 : decode cX10_init 94 = .ok (.newarray .int, 2) := by decide +kernel
theorem dX10_init_96 : decode cX10_init 96 = .ok (.putfield 43, 3) := by decide +kernel
theorem dX10_init_99 : decode cX10_init 99 = .ok (.aload_n 0, 1) := by decide +kernel
theorem dX10_init_100 : decode cX10_init 100 = .ok (.bipush 42, 2) := by decide +kernel
theorem dX10_init_102 : decode cX10_init 102 = .ok (.newarray .int, 2) := by decide +kernel
theorem dX10_init_104 : decode cX10_init 104 = .ok (.putfield 46, 3) := by decide +kernel
theorem dX10_init_107 : decode cX10_init 107 = .ok (.aload_n 0, 1) := by decide +kernel
theorem dX10_init_108 : decode cX10_init 108 = .ok (.bipush 8, 2) := by decide +kernel
theorem dX10_init_110 : decode cX10_init 110 = .ok (.newarray .int, 2) := by decide +kernel
theorem dX10_init_112 : decode cX10_init 112 = .ok (.putfield 49, 3) := by decide +kernel
theorem dX10_init_115 : decode cX10_init 115 = .ok (.aload_n 0, 1) := by decide +kernel
theorem dX10_init_116 : decode cX10_init 116 = .ok (.iconst 3, 1) := by decide +kernel
theorem dX10_init_117 : decode cX10_init 117 = .ok (.newarray .int, 2) := by decide +kernel
theorem dX10_init_119 : decode cX10_init 119 = .ok (.putfield 52, 3) := by decide +kernel
theorem dX10_init_122 : decode cX10_init 122 = .ok (.aload_n 0, 1) := by decide +kernel
theorem dX10_init_123 : decode cX10_init 123 = .ok (.bipush 16, 2) := by decide +kernel
theorem dX10_init_125 : decode cX10_init 125 = .ok (.newarray .int, 2) := by decide +kernel
theorem dX10_init_127 : decode cX10_init 127 = .ok (.putfield 55, 3) := by decide +kernel
theorem dX10_init_130 : decode cX10_init 130 = .ok (.aload_n 0, 1) := by decide +kernel
theorem dX10_init_131 : decode cX10_init 131 = .ok (.iconst (-1), 1) := by decide +kernel
theorem dX10_init_132 : decode cX10_init 132 = .ok (.putfield 58, 3) := by decide +kernel
theorem dX10_init_135 : decode cX10_init 135 = .ok (.return_, 1) := by decide +kernel
theorem dX10_in_0 : decode cX10_in 0 = .ok (.lload_n 0, 1) := by decide +kernel
theorem dX10_in_1 : decode cX10_in 1 = .ok (.lload_n 2, 1) := by decide +kernel
theorem dX10_in_2 : decode cX10_in 2 = .ok (.lcmp, 1) := by decide +kernel
theorem dX10_in_3 : decode cX10_in 3 = .ok (.ifCond .lt 14, 3) := by decide +kernel
theorem dX10_in_6 : decode cX10_in 6 = .ok (.lload_n 0, 1) := by decide +kernel
theorem dX10_in_7 : decode cX10_in 7 = .ok (.lload 4, 2) := by decide +kernel
theorem dX10_in_9 : decode cX10_in 9 = .ok (.lcmp, 1) := by decide +kernel
theorem dX10_in_10 : decode cX10_in 10 = .ok (.ifCond .gt 7, 3) := by decide +kernel
theorem dX10_in_13 : decode cX10_in 13 = .ok (.iconst 1, 1) := by decide +kernel
theorem dX10_in_14 : decode cX10_in 14 = .ok (.goto 4, 3) := by decide +kernel
theorem dX10_in_17 : decode cX10_in 17 = .ok (.iconst 0, 1) := by decide +kernel
theorem dX10_in_18 : decode cX10_in 18 = .ok (.ireturn, 1) := by decide +kernel
theorem dX10_letter_0 : decode cX10_letter 0 = .ok (.iload_n 1, 1) := by decide +kernel
theorem dX10_letter_1 : decode cX10_letter 1 = .ok (.i2l, 1) := by decide +kernel
theorem dX10_letter_2 : decode cX10_letter 2 = .ok (.lconst 1, 1) := by decide +kernel
theorem dX10_letter_3 : decode cX10_letter 3 = .ok (.ldc2_w 62, 3) := by decide +kernel
theorem dX10_letter_6 : decode cX10_letter 6 = .ok (.invokestatic 64, 3) := by decide +kernel
theorem dX10_letter_9 : decode cX10_letter 9 = .ok (.ifCond .ne 6, 3) := by decide +kernel
theorem dX10_letter_12 : decode cX10_letter 12 = .ok (.bipush (-102), 2) := by decide +kernel
theorem dX10_letter_14 : decode cX10_letter 14 = .ok (.ireturn, 1) := by decide +kernel
theorem dX10_letter_15 : decode cX10_letter 15 = .ok (.aload_n 0, 1) := by decide +kernel
theorem dX10_letter_16 : decode cX10_letter 16 = .ok (.getfield 68, 3) := by decide +kernel
theorem dX10_letter_19 : decode cX10_letter 19 = .ok (.bipush 14, 2) := by decide +kernel
theorem dX10_letter_21 : decode cX10_letter 21 = .ok (.if_icmp .ne 6, 3) := by decide +kernel
theorem dX10_letter_24 : decode cX10_letter 24 = .ok (.bipush (-104), 2) := by decide +kernel
theorem dX10_letter_26 : decode cX10_letter 26 = .ok (.ireturn, 1) := by decide +kernel
theorem dX10_letter_27 : decode cX10_letter 27 = .ok (.aload_n 0, 1) := by decide +kernel
theorem dX10_letter_28 : decode cX10_letter 28 = .ok (.getfield 7, 3) := by decide +kernel
theorem dX10_letter_31 : decode cX10_letter 31 = .ok (.aload_n 0, 1) := by decide +kernel
theorem dX10_letter_32 : decode cX10_letter 32 = .ok (.getfield 68, 3) := by decide +kernel
theorem dX10_letter_35 : decode cX10_letter 35 = .ok (.iload_n 1, 1) := by decide +kernel
theorem dX10_letter_36 : decode cX10_letter 36 = .ok (.iastore, 1) := by decide +kernel
theorem dX10_letter_37 : decode cX10_letter 37 = .ok (.aload_n 0, 1) := by decide +kernel
theorem dX10_letter_38 : decode cX10_letter 38 = .ok (.dup, 1) := by decide +kernel
theorem dX10_letter_39 : decode cX10_letter 39 = .ok (.getfield 68, 3) := by decide +kernel
theorem dX10_letter_42 : decode cX10_letter 42 = .ok (.iconst 1, 1) := by decide +kernel
theorem dX10_letter_43 : decode cX10_letter 43 = .ok (.iadd, 1) := by decide +kernel
theorem dX10_letter_44 : decode cX10_letter 44 = .ok (.putfield 68, 3) := by decide +kernel
theorem dX10_letter_47 : decode cX10_letter 47 = .ok (.aload_n 0, 1) := by decide +kernel
theorem dX10_letter_48 : decode cX10_letter 48 = .ok (.getfield 68, 3) := by decide +kernel
theorem dX10_letter_51 : decode cX10_letter 51 = .ok (.ireturn, 1) := by decide +kernel
theorem dX10_blank_0 : decode cX10_blank 0 = .ok (.aload_n 0, 1) := by decide +kernel
theorem dX10_blank_1 : decode cX10_blank 1 = .ok (.getfield 68, 3) := by decide +kernel
theorem dX10_blank_4 : decode cX10_blank 4 = .ok (.istore_n 1, 1) := by decide +kernel
theorem dX10_blank_5 : decode cX10_blank 5 = .ok (.aload_n 0, 1) := by decide +kernel
theorem dX10_blank_6 : decode cX10_blank 6 = .ok (.iconst 0, 1) := by decide +kernel
theorem dX10_blank_7 : decode cX10_blank 7 = .ok (.putfield 68, 3) := by decide +kernel
theorem dX10_blank_10 : decode cX10_blank 10 = .ok (.iload_n 1, 1) := by decide +kernel
theorem dX10_blank_11 : decode cX10_blank 11 = .ok (.ireturn, 1) := by decide +kernel
theorem dX10_isGood_0 : decode cX10_isGood 0 = .ok (.iload_n 0, 1) := by decide +kernel
theorem dX10_isGood_1 : decode cX10_isGood 1 = .ok (.iconst 4, 1) := by decide +kernel
theorem dX10_isGood_2 : decode cX10_isGood 2 = .ok (.if_icmp .ne 15, 3) := by decide +kernel
theorem dX10_isGood_5 : decode cX10_isGood 5 = .ok (.iload_n 1, 1) := by decide +kernel
theorem dX10_isGood_6 : decode cX10_isGood 6 = .ok (.bipush 47, 2) := by decide +kernel
theorem dX10_isGood_8 : decode cX10_isGood 8 = .ok (.if_icmp .ne 7, 3) := by decide +kernel
theorem dX10_isGood_11 : decode cX10_isGood 11 = .ok (.iconst 1, 1) := by decide +kernel
theorem dX10_isGood_12 : decode cX10_isGood 12 = .ok (.goto 4, 3) := by decide +kernel
theorem dX10_isGood_15 : decode cX10_isGood 15 = .ok (.iconst 0, 1) := by decide +kernel
theorem dX10_isGood_16 : decode cX10_isGood 16 = .ok (.ireturn, 1) := by decide +kernel
theorem dX10_isGood_17 : decode cX10_isGood 17 = .ok (.iload_n 0, 1) := by decide +kernel
theorem dX10_isGood_18 : decode cX10_isGood 18 = .ok (.bipush 9, 2) := by decide +kernel
theorem dX10_isGood_20 : decode cX10_isGood 20 = .ok (.if_icmp .ne 15, 3) := by decide +kernel
theorem dX10_isGood_23 : decode cX10_isGood 23 = .ok (.iload_n 1, 1) := by decide +kernel
theorem dX10_isGood_24 : decode cX10_isGood 24 = .ok (.bipush 59, 2) := by decide +kernel
theorem dX10_isGood_26 : decode cX10_isGood 26 = .ok (.if_icmp .ne 7, 3) := by decide +kernel
theorem dX10_isGood_29 : decode cX10_isGood 29 = .ok (.iconst 1, 1) := by decide +kernel
theorem dX10_isGood_30 : decode cX10_isGood 30 = .ok (.goto 4, 3) := by decide +kernel
theorem dX10_isGood_33 : decode cX10_isGood 33 = .ok (.iconst 0, 1) := by decide +kernel
theorem dX10_isGood_34 : decode cX10_isGood 34 = .ok (.ireturn, 1) := by decide +kernel
theorem dX10_isGood_35 : decode cX10_isGood 35 = .ok (.iload_n 0, 1) := by decide +kernel
theorem dX10_isGood_36 : decode cX10_isGood 36 = .ok (.bipush 10, 2) := by decide +kernel
theorem dX10_isGood_38 : decode cX10_isGood 38 = .ok (.if_icmp .ge 29, 3) := by decide +kernel
theorem dX10_isGood_41 : decode cX10_isGood 41 = .ok (.iload_n 1, 1) := by decide +kernel
theorem dX10_isGood_42 : decode cX10_isGood 42 = .ok (.bipush 46, 2) := by decide +kernel
theorem dX10_isGood_44 : decode cX10_isGood 44 = .ok (.if_icmp .eq 15, 3) := by decide +kernel
theorem dX10_isGood_47 : decode cX10_isGood 47 = .ok (.iload_n 1, 1) := by decide +kernel
theorem dX10_isGood_48 : decode cX10_isGood 48 = .ok (.bipush 35, 2) := by decide +kernel
theorem dX10_isGood_50 : decode cX10_isGood 50 = .ok (.if_icmp .eq 9, 3) := by decide +kernel
theorem dX10_isGood_53 : decode cX10_isGood 53 = .ok (.iload_n 1, 1) := by decide +kernel
theorem dX10_isGood_54 : decode cX10_isGood 54 = .ok (.bipush 119, 2) := by decide +kernel
theorem dX10_isGood_56 : decode cX10_isGood 56 = .ok (.if_icmp .ne 7, 3) := by decide +kernel
theorem dX10_isGood_59 : decode cX10_isGood 59 = .ok (.iconst 1, 1) := by decide +kernel
theorem dX10_isGood_60 : decode cX10_isGood 60 = .ok (.goto 32, 3) := by decide +kernel
theorem dX10_isGood_63 : decode cX10_isGood 63 = .ok (.iconst 0, 1) := by decide +kernel
theorem dX10_isGood_64 : decode cX10_isGood 64 = .ok (.goto 28, 3) := by decide +kernel
theorem dX10_isGood_67 : decode cX10_isGood 67 = .ok (.iload_n 0, 1) := by decide +kernel
theorem dX10_isGood_68 : decode cX10_isGood 68 = .ok (.bipush 10, 2) := by decide +kernel
theorem dX10_isGood_70 : decode cX10_isGood 70 = .ok (.if_icmp .ne 21, 3) := by decide +kernel
theorem dX10_isGood_73 : decode cX10_isGood 73 = .ok (.iload_n 1, 1) := by decide +kernel
theorem dX10_isGood_74 : decode cX10_isGood 74 = .ok (.i2l, 1) := by decide +kernel
theorem dX10_isGood_75 : decode cX10_isGood 75 = .ok (.ldc2_w 71, 3) := by decide +kernel
theorem dX10_isGood_78 : decode cX10_isGood 78 = .ok (.ldc2_w 73, 3) := by decide +kernel
theorem dX10_isGood_81 : decode cX10_isGood 81 = .ok (.invokestatic 64, 3) := by decide +kernel

theorem dX9_init_61 : decode cX9_init 61 = .ok (.dup, 1) := by decide +kernel
theorem dX9_init_62 : decode cX9_init 62 = .ok (.invokespecial 31, 3) := by decide +kernel
theorem dX9_init_65 : decode cX9_init 65 = .ok (.putfield 39, 3) := by decide +kernel
theorem dX9_init_68 : decode cX9_init 68 = .ok (.aload_n 0, 1) := by decide +kernel
theorem dX9_init_69 : decode cX9_init 69 = .ok (.new 42, 3) := by decide +kernel
theorem dX9_init_72 : decode cX9_init 72 = .ok (.dup, 1) := by decide +kernel
theorem dX9_init_73 : decode cX9_init 73 = .ok (.invokespecial 44, 3) := by decide +kernel
theorem dX9_init_76 : decode cX9_init 76 = .ok (.putfield 45, 3) := by decide +kernel
theorem dX9_init_79 : decode cX9_init 79 = .ok (.aload_n 0, 1) := by decide +kernel
theorem dX9_init_80 : decode cX9_init 80 = .ok (.bipush 8, 2) := by decide +kernel
theorem dX9_init_82 : decode cX9_init 82 = .ok (.newarray .int, 2) := by decide +kernel
theorem dX9_init_84 : decode cX9_init 84 = .ok (.putfield 49, 3) := by decide +kernel
theorem dX9_init_87 : decode cX9_init 87 = .ok (.aload_n 0, 1) := by decide +kernel
theorem dX9_init_88 : decode cX9_init 88 = .ok (.bipush 8, 2) := by decide +kernel
theorem dX9_init_90 : decode cX9_init 90 = .ok (.newarray .int, 2) := by decide +kernel
theorem dX9_init_92 : decode cX9_init 92 = .ok (.putfield 53, 3) := by decide +kernel
theorem dX9_init_95 : decode cX9_init 95 = .ok (.aload_n 0, 1) := by decide +kernel
theorem dX9_init_96 : decode cX9_init 96 = .ok (.bipush 8, 2) := by decide +kernel
theorem dX9_init_98 : decode cX9_init 98 = .ok (.newarray .int, 2) := by decide +kernel
theorem dX9_init_100 : decode cX9_init 100 = .ok (.putfield 56, 3) := by decide +kernel
theorem dX9_init_103 : decode cX9_init 103 = .ok (.aload_n 0, 1) := by decide +kernel
theorem dX9_init_104 : decode cX9_init 104 = .ok (.bipush 32, 2) := by decide +kernel
theorem dX9_init_106 : decode cX9_init 106 = .ok (.newarray .int, 2) := by decide +kernel
theorem dX9_init_108 : decode cX9_init 108 = .ok (.putfield 59, 3) := by decide +kernel
theorem dX9_init_111 : decode cX9_init 111 = .ok (.return_, 1) := by decide +kernel
theorem dX9_letter_0 : decode cX9_letter 0 = .ok (.iload_n 1, 1) := by decide +kernel
theorem dX9_letter_1 : decode cX9_letter 1 = .ok (.iconst 1, 1) := by decide +kernel
theorem dX9_letter_2 : decode cX9_letter 2 = .ok (.if_icmp .lt 9, 3) := by decide +kernel
theorem dX9_letter_5 : decode cX9_letter 5 = .ok (.iload_n 1, 1) := by decide +kernel
theorem dX9_letter_6 : decode cX9_letter 6 = .ok (.bipush 126, 2) := by decide +kernel
theorem dX9_letter_8 : decode cX9_letter 8 = .ok (.if_icmp .le 6, 3) := by decide +kernel
theorem dX9_letter_11 : decode cX9_letter 11 = .ok (.bipush (-102), 2) := by decide +kernel
theorem dX9_letter_13 : decode cX9_letter 13 = .ok (.ireturn, 1) := by decide +kernel
theorem dX9_letter_14 : decode cX9_letter 14 = .ok (.aload_n 0, 1) := by decide +kernel
theorem dX9_letter_15 : decode cX9_letter 15 = .ok (.getfield 12, 3) := by decide +kernel
theorem dX9_letter_18 : decode cX9_letter 18 = .ok (.invokevirtual 62, 3) := by decide +kernel
theorem dX9_letter_21 : decode cX9_letter 21 = .ok (.ifCond .eq 6, 3) := by decide +kernel
theorem dX9_letter_24 : decode cX9_letter 24 = .ok (.bipush (-104), 2) := by decide +kernel
theorem dX9_letter_26 : decode cX9_letter 26 = .ok (.ireturn, 1) := by decide +kernel
theorem dX9_letter_27 : decode cX9_letter 27 = .ok (.aload_n 0, 1) := by decide +kernel
theorem dX9_letter_28 : decode cX9_letter 28 = .ok (.getfield 12, 3) := by decide +kernel
theorem dX9_letter_31 : decode cX9_letter 31 = .ok (.iload_n 1, 1) := by decide +kernel
theorem dX9_letter_32 : decode cX9_letter 32 = .ok (.invokevirtual 66, 3) := by decide +kernel
theorem dX9_letter_35 : decode cX9_letter 35 = .ok (.aload_n 0, 1) := by decide +kernel
theorem dX9_letter_36 : decode cX9_letter 36 = .ok (.getfield 12, 3) := by decide +kernel
theorem dX9_letter_39 : decode cX9_letter 39 = .ok (.getfield 70, 3) := by decide +kernel
theorem dX9_letter_42 : decode cX9_letter 42 = .ok (.ireturn, 1) := by decide +kernel
theorem dX9_blank_0 : decode cX9_blank 0 = .ok (.aload_n 0, 1) := by decide +kernel
theorem dX9_blank_1 : decode cX9_blank 1 = .ok (.getfield 12, 3) := by decide +kernel
theorem dX9_blank_4 : decode cX9_blank 4 = .ok (.getfield 70, 3) := by decide +kernel
theorem dX9_blank_7 : decode cX9_blank 7 = .ok (.istore_n 1, 1) := by decide +kernel
theorem dX9_blank_8 : decode cX9_blank 8 = .ok (.aload_n 0, 1) := by decide +kernel
theorem dX9_blank_9 : decode cX9_blank 9 = .ok (.getfield 12, 3) := by decide +kernel
theorem dX9_blank_12 : decode cX9_blank 12 = .ok (.iconst 0, 1) := by decide +kernel
theorem dX9_blank_13 : decode cX9_blank 13 = .ok (.putfield 70, 3) := by decide +kernel
theorem dX9_blank_16 : decode cX9_blank 16 = .ok (.iload_n 1, 1) := by decide +kernel
theorem dX9_blank_17 : decode cX9_blank 17 = .ok (.ireturn, 1) := by decide +kernel
theorem dX9_fault_0 : decode cX9_fault 0 = .ok (.aload_n 0, 1) := by decide +kernel
theorem dX9_fault_1 : decode cX9_fault 1 = .ok (.getfield 12, 3) := by decide +kernel
theorem dX9_fault_4 : decode cX9_fault 4 = .ok (.invokevirtual 74, 3) := by decide +kernel
theorem dX9_fault_7 : decode cX9_fault 7 = .ok (.ireturn, 1) := by decide +kernel
theorem dX9_valley_0 : decode cX9_valley 0 = .ok (.aload_n 0, 1) := by decide +kernel
theorem dX9_valley_1 : decode cX9_valley 1 = .ok (.getfield 12, 3) := by decide +kernel
theorem dX9_valley_4 : decode cX9_valley 4 = .ok (.invokevirtual 78, 3) := by decide +kernel
theorem dX9_valley_7 : decode cX9_valley 7 = .ok (.ifCond .ne 6, 3) := by decide +kernel
theorem dX9_valley_10 : decode cX9_valley 10 = .ok (.bipush (-103), 2) := by decide +kernel
theorem dX9_valley_12 : decode cX9_valley 12 = .ok (.ireturn, 1) := by decide +kernel
theorem dX9_valley_13 : decode cX9_valley 13 = .ok (.aload_n 0, 1) := by decide +kernel
theorem dX9_valley_14 : decode cX9_valley 14 = .ok (.getfield 19, 3) := by decide +kernel
theorem dX9_valley_17 : decode cX9_valley 17 = .ok (.aload_n 0, 1) := by decide +kernel
theorem dX9_valley_18 : decode cX9_valley 18 = .ok (.getfield 12, 3) := by decide +kernel
theorem dX9_valley_21 : decode cX9_valley 21 = .ok (.invokevirtual 81, 3) := by decide +kernel
theorem dX9_valley_24 : decode cX9_valley 24 = .ok (.aload_n 0, 1) := by decide +kernel
theorem dX9_valley_25 : decode cX9_valley 25 = .ok (.getfield 12, 3) := by decide +kernel
theorem dX9_valley_28 : decode cX9_valley 28 = .ok (.iconst 0, 1) := by decide +kernel
theorem dX9_valley_29 : decode cX9_valley 29 = .ok (.putfield 70, 3) := by decide +kernel
theorem dX9_valley_32 : decode cX9_valley 32 = .ok (.aload_n 0, 1) := by decide +kernel
theorem dX9_valley_33 : decode cX9_valley 33 = .ok (.getfield 32, 3) := by decide +kernel
theorem dX9_valley_36 : decode cX9_valley 36 = .ok (.new 29, 3) := by decide +kernel
theorem dX9_valley_39 : decode cX9_valley 39 = .ok (.dup, 1) := by decide +kernel
theorem dX9_valley_40 : decode cX9_valley 40 = .ok (.invokespecial 31, 3) := by decide +kernel
theorem dX9_valley_43 : decode cX9_valley 43 = .ok (.invokevirtual 85, 3) := by decide +kernel
theorem dX9_valley_46 : decode cX9_valley 46 = .ok (.aload_n 0, 1) := by decide +kernel
theorem dX9_valley_47 : decode cX9_valley 47 = .ok (.iconst 0, 1) := by decide +kernel
theorem dX9_valley_48 : decode cX9_valley 48 = .ok (.putfield 89, 3) := by decide +kernel
theorem dX9_valley_51 : decode cX9_valley 51 = .ok (.aload_n 0, 1) := by decide +kernel
theorem dX9_valley_52 : decode cX9_valley 52 = .ok (.dup, 1) := by decide +kernel
theorem dX9_valley_53 : decode cX9_valley 53 = .ok (.getfield 93, 3) := by decide +kernel
theorem dX9_valley_56 : decode cX9_valley 56 = .ok (.iconst 1, 1) := by decide +kernel
theorem dX9_valley_57 : decode cX9_valley 57 = .ok (.iadd, 1) := by decide +kernel
theorem dX9_valley_58 : decode cX9_valley 58 = .ok (.putfield 93, 3) := by decide +kernel
theorem dX9_valley_61 : decode cX9_valley 61 = .ok (.aload_n 0, 1) := by decide +kernel
theorem dX9_valley_62 : decode cX9_valley 62 = .ok (.getfield 19, 3) := by decide +kernel
theorem dX9_valley_65 : decode cX9_valley 65 = .ok (.getfield 96, 3) := by decide +kernel
theorem dX9_valley_68 : decode cX9_valley 68 = .ok (.ireturn, 1) := by decide +kernel
theorem dX9_cell_0 : decode cX9_cell 0 = .ok (.aload_n 0, 1) := by decide +kernel
theorem dX9_cell_1 : decode cX9_cell 1 = .ok (.iload_n 1, 1) := by decide +kernel
theorem dX9_cell_2 : decode cX9_cell 2 = .ok (.invokevirtual 99, 3) := by decide +kernel
theorem dX9_cell_5 : decode cX9_cell 5 = .ok (.ifCond .ne 6, 3) := by decide +kernel
theorem dX9_cell_8 : decode cX9_cell 8 = .ok (.bipush (-101), 2) := by decide +kernel
theorem dX9_cell_10 : decode cX9_cell 10 = .ok (.ireturn, 1) := by decide +kernel
theorem dX9_cell_11 : decode cX9_cell 11 = .ok (.iload_n 2, 1) := by decide +kernel
theorem dX9_cell_12 : decode cX9_cell 12 = .ok (.ifCond .lt 8, 3) := by decide +kernel
theorem dX9_cell_15 : decode cX9_cell 15 = .ok (.iload_n 2, 1) := by decide +kernel
theorem dX9_cell_16 : decode cX9_cell 16 = .ok (.iconst 4, 1) := by decide +kernel
theorem dX9_cell_17 : decode cX9_cell 17 = .ok (.if_icmp .le 6, 3) := by decide +kernel
theorem dX9_cell_20 : decode cX9_cell 20 = .ok (.bipush (-102), 2) := by decide +kernel
theorem dX9_cell_22 : decode cX9_cell 22 = .ok (.ireturn, 1) := by decide +kernel
theorem dX9_cell_23 : decode cX9_cell 23 = .ok (.aload_n 0, 1) := by decide +kernel
theorem dX9_cell_24 : decode cX9_cell 24 = .ok (.invokevirtual 103, 3) := by decide +kernel
theorem dX9_cell_27 : decode cX9_cell 27 = .ok (.aload_n 0, 1) := by decide +kernel
theorem dX9_cell_28 : decode cX9_cell 28 = .ok (.iload_n 1, 1) := by decide +kernel
theorem dX9_cell_29 : decode cX9_cell 29 = .ok (.iload_n 2, 1) := by decide +kernel
theorem dX9_cell_30 : decode cX9_cell 30 = .ok (.invokevirtual 106, 3) := by decide +kernel
theorem dX9_cell_33 : decode cX9_cell 33 = .ok (.ireturn, 1) := by decide +kernel
theorem dX9_borders_0 : decode cX9_borders 0 = .ok (.aload_n 0, 1) := by decide +kernel
theorem dX9_borders_1 : decode cX9_borders 1 = .ok (.invokevirtual 103, 3) := by decide +kernel
theorem dX9_borders_4 : decode cX9_borders 4 = .ok (.aload_n 0, 1) := by decide +kernel
theorem dX9_borders_5 : decode cX9_borders 5 = .ok (.getfield 45, 3) := by decide +kernel
theorem dX9_borders_8 : decode cX9_borders 8 = .ok (.invokevirtual 110, 3) := by decide +kernel
theorem dX9_borders_11 : decode cX9_borders 11 = .ok (.ireturn, 1) := by decide +kernel
theorem dX9_source_0 : decode cX9_source 0 = .ok (.iload_n 1, 1) := by decide +kernel
theorem dX9_source_1 : decode cX9_source 1 = .ok (.ifCond .lt 15, 3) := by decide +kernel
theorem dX9_source_4 : decode cX9_source 4 = .ok (.iload_n 1, 1) := by decide +kernel
theorem dX9_source_5 : decode cX9_source 5 = .ok (.iconst 5, 1) := by decide +kernel
theorem dX9_source_6 : decode cX9_source 6 = .ok (.if_icmp .ge 10, 3) := by decide +kernel
theorem dX9_source_9 : decode cX9_source 9 = .ok (.iload_n 2, 1) := by decide +kernel
theorem dX9_source_10 : decode cX9_source 10 = .ok (.invokestatic 113, 3) := by decide +kernel
theorem dX9_source_13 : decode cX9_source 13 = .ok (.ifCond .ne 6, 3) := by decide +kernel
theorem dX9_source_16 : decode cX9_source 16 = .ok (.bipush (-102), 2) := by decide +kernel
theorem dX9_source_18 : decode cX9_source 18 = .ok (.ireturn, 1) := by decide +kernel
theorem dX9_source_19 : decode cX9_source 19 = .ok (.iload 4, 2) := by decide +kernel
theorem dX9_source_21 : decode cX9_source 21 = .ok (.iconst 1, 1) := by decide +kernel
theorem dX9_source_22 : decode cX9_source 22 = .ok (.if_icmp .lt 10, 3) := by decide +kernel
theorem dX9_source_25 : decode cX9_source 25 = .ok (.iload 4, 2) := by decide +kernel
theorem dX9_source_27 : decode cX9_source 27 = .ok (.bipush 9, 2) := by decide +kernel
theorem dX9_source_29 : decode cX9_source 29 = .ok (.if_icmp .le 6, 3) := by decide +kernel
theorem dX9_source_32 : decode cX9_source 32 = .ok (.bipush (-102), 2) := by decide +kernel
theorem dX9_source_34 : decode cX9_source 34 = .ok (.ireturn, 1) := by decide +kernel
theorem dX9_source_35 : decode cX9_source 35 = .ok (.aload_n 0, 1) := by decide +kernel
theorem dX9_source_36 : decode cX9_source 36 = .ok (.iload_n 3, 1) := by decide +kernel
theorem dX9_source_37 : decode cX9_source 37 = .ok (.invokevirtual 99, 3) := by decide +kernel
theorem dX9_source_40 : decode cX9_source 40 = .ok (.ifCond .ne 6, 3) := by decide +kernel
theorem dX9_source_43 : decode cX9_source 43 = .ok (.bipush (-101), 2) := by decide +kernel
theorem dX9_source_45 : decode cX9_source 45 = .ok (.ireturn, 1) := by decide +kernel
theorem dX9_source_46 : decode cX9_source 46 = .ok (.aload_n 0, 1) := by decide +kernel
theorem dX9_source_47 : decode cX9_source 47 = .ok (.getfield 19, 3) := by decide +kernel
theorem dX9_source_50 : decode cX9_source 50 = .ok (.iload_n 3, 1) := by decide +kernel
theorem dX9_source_51 : decode cX9_source 51 = .ok (.invokevirtual 116, 3) := by decide +kernel
theorem dX9_source_54 : decode cX9_source 54 = .ok (.ifCond .ne 6, 3) := by decide +kernel
theorem dX9_source_57 : decode cX9_source 57 = .ok (.bipush (-103), 2) := by decide +kernel
theorem dX9_source_59 : decode cX9_source 59 = .ok (.ireturn, 1) := by decide +kernel
theorem dX9_source_60 : decode cX9_source 60 = .ok (.aload_n 0, 1) := by decide +kernel
theorem dX9_source_61 : decode cX9_source 61 = .ok (.getfield 32, 3) := by decide +kernel
theorem dX9_source_64 : decode cX9_source 64 = .ok (.getfield 119, 3) := by decide +kernel
theorem dX9_source_67 : decode cX9_source 67 = .ok (.bipush 6, 2) := by decide +kernel
theorem dX9_source_69 : decode cX9_source 69 = .ok (.if_icmp .lt 6, 3) := by decide +kernel
theorem dX9_source_72 : decode cX9_source 72 = .ok (.bipush (-104), 2) := by decide +kernel
theorem dX9_source_74 : decode cX9_source 74 = .ok (.ireturn, 1) := by decide +kernel
theorem dX9_source_75 : decode cX9_source 75 = .ok (.aload_n 0, 1) := by decide +kernel
theorem dX9_source_76 : decode cX9_source 76 = .ok (.getfield 25, 3) := by decide +kernel
theorem dX9_source_79 : decode cX9_source 79 = .ok (.aload_n 0, 1) := by decide +kernel
theorem dX9_source_80 : decode cX9_source 80 = .ok (.getfield 32, 3) := by decide +kernel
theorem dX9_source_83 : decode cX9_source 83 = .ok (.getfield 119, 3) := by decide +kernel
theorem dX9_source_86 : decode cX9_source 86 = .ok (.iload_n 1, 1) := by decide +kernel
theorem dX9_source_87 : decode cX9_source 87 = .ok (.iload_n 2, 1) := by decide +kernel
theorem dX9_source_88 : decode cX9_source 88 = .ok (.iload_n 3, 1) := by decide +kernel
theorem dX9_source_89 : decode cX9_source 89 = .ok (.iload 4, 2) := by decide +kernel
theorem dX9_source_91 : decode cX9_source 91 = .ok (.invokestatic 121, 3) := by decide +kernel
theorem dX9_source_94 : decode cX9_source 94 = .ok (.aastore, 1) := by decide +kernel
theorem dX9_source_95 : decode cX9_source 95 = .ok (.aload_n 0, 1) := by decide +kernel
theorem dX9_source_96 : decode cX9_source 96 = .ok (.getfield 32, 3) := by decide +kernel
theorem dX9_source_99 : decode cX9_source 99 = .ok (.invokevirtual 125, 3) := by decide +kernel
theorem dX9_source_102 : decode cX9_source 102 = .ok (.ireturn, 1) := by decide +kernel
theorem dX9_about_0 : decode cX9_about 0 = .ok (.aload_n 0, 1) := by decide +kernel
theorem dX9_about_1 : decode cX9_about 1 = .ok (.iload_n 1, 1) := by decide +kernel
theorem dX9_about_2 : decode cX9_about 2 = .ok (.invokevirtual 128, 3) := by decide +kernel
theorem dX9_about_5 : decode cX9_about 5 = .ok (.astore_n 3, 1) := by decide +kernel
theorem dX9_about_6 : decode cX9_about 6 = .ok (.aload_n 3, 1) := by decide +kernel
theorem dX9_about_7 : decode cX9_about 7 = .ok (.ifnonnull 6, 3) := by decide +kernel
theorem dX9_about_10 : decode cX9_about 10 = .ok (.bipush (-101), 2) := by decide +kernel
theorem dX9_about_12 : decode cX9_about 12 = .ok (.ireturn, 1) := by decide +kernel
theorem dX9_about_13 : decode cX9_about 13 = .ok (.iload_n 2, 1) := by decide +kernel
theorem dX9_about_14 : decode cX9_about 14 = .ok (.ifCond .lt 17, 3) := by decide +kernel
theorem dX9_about_17 : decode cX9_about 17 = .ok (.iload_n 2, 1) := by decide +kernel
theorem dX9_about_18 : decode cX9_about 18 = .ok (.bipush 7, 2) := by decide +kernel
theorem dX9_about_20 : decode cX9_about 20 = .ok (.if_icmp .gt 11, 3) := by decide +kernel
theorem dX9_about_23 : decode cX9_about 23 = .ok (.aload_n 0, 1) := by decide +kernel
theorem dX9_about_24 : decode cX9_about 24 = .ok (.aload_n 3, 1) := by decide +kernel
theorem dX9_about_25 : decode cX9_about 25 = .ok (.iload_n 1, 1) := by decide +kernel
theorem dX9_about_26 : decode cX9_about 26 = .ok (.iload_n 2, 1) := by decide +kernel
theorem dX9_about_27 : decode cX9_about 27 = .ok (.invokevirtual 132, 3) := by decide +kernel
theorem dX9_about_30 : decode cX9_about 30 = .ok (.ireturn, 1) := by decide +kernel
theorem dX9_about_31 : decode cX9_about 31 = .ok (.iload_n 2, 1) := by decide +kernel
theorem dX9_about_32 : decode cX9_about 32 = .ok (.bipush 10, 2) := by decide +kernel
theorem dX9_about_34 : decode cX9_about 34 = .ok (.if_icmp .lt 9, 3) := by decide +kernel
theorem dX9_about_37 : decode cX9_about 37 = .ok (.iload_n 2, 1) := by decide +kernel
theorem dX9_about_38 : decode cX9_about 38 = .ok (.bipush 18, 2) := by decide +kernel
theorem dX9_about_40 : decode cX9_about 40 = .ok (.if_icmp .lt 6, 3) := by decide +kernel
theorem dX9_about_43 : decode cX9_about 43 = .ok (.bipush (-102), 2) := by decide +kernel
theorem dX9_about_45 : decode cX9_about 45 = .ok (.ireturn, 1) := by decide +kernel
theorem dX9_about_46 : decode cX9_about 46 = .ok (.aload_n 0, 1) := by decide +kernel
theorem dX9_about_47 : decode cX9_about 47 = .ok (.getfield 32, 3) := by decide +kernel
theorem dX9_about_50 : decode cX9_about 50 = .ok (.aload_n 3, 1) := by decide +kernel
theorem dX9_about_51 : decode cX9_about 51 = .ok (.iload_n 1, 1) := by decide +kernel
theorem dX9_about_52 : decode cX9_about 52 = .ok (.invokevirtual 136, 3) := by decide +kernel
theorem dX9_about_55 : decode cX9_about 55 = .ok (.ifCond .ne 5, 3) := by decide +kernel
theorem dX9_about_58 : decode cX9_about 58 = .ok (.iconst 0, 1) := by decide +kernel
theorem dX9_about_59 : decode cX9_about 59 = .ok (.ireturn, 1) := by decide +kernel
theorem dX9_about_60 : decode cX9_about 60 = .ok (.aload_n 0, 1) := by decide +kernel
theorem dX9_about_61 : decode cX9_about 61 = .ok (.getfield 19, 3) := by decide +kernel
theorem dX9_about_64 : decode cX9_about 64 = .ok (.aload_n 3, 1) := by decide +kernel
theorem dX9_about_65 : decode cX9_about 65 = .ok (.getfield 140, 3) := by decide +kernel
theorem dX9_about_68 : decode cX9_about 68 = .ok (.aload_n 3, 1) := by decide +kernel
theorem dX9_about_69 : decode cX9_about 69 = .ok (.aload_n 0, 1) := by decide +kernel
theorem dX9_about_70 : decode cX9_about 70 = .ok (.getfield 32, 3) := by decide +kernel
theorem dX9_about_73 : decode cX9_about 73 = .ok (.getfield 143, 3) := by decide +kernel
theorem dX9_about_76 : decode cX9_about 76 = .ok (.iload_n 1, 1) := by decide +kernel
theorem dX9_about_77 : decode cX9_about 77 = .ok (.iaload, 1) := by decide +kernel
theorem dX9_about_78 : decode cX9_about 78 = .ok (.invokevirtual 146, 3) := by decide +kernel
theorem dX9_about_81 : decode cX9_about 81 = .ok (.aload_n 3, 1) := by decide +kernel
theorem dX9_about_82 : decode cX9_about 82 = .ok (.invokevirtual 150, 3) := by decide +kernel
theorem dX9_about_85 : decode cX9_about 85 = .ok (.aload_n 0, 1) := by decide +kernel
theorem dX9_about_86 : decode cX9_about 86 = .ok (.getfield 32, 3) := by decide +kernel
theorem dX9_about_89 : decode cX9_about 89 = .ok (.getfield 153, 3) := by decide +kernel
theorem dX9_about_92 : decode cX9_about 92 = .ok (.iconst 0, 1) := by decide +kernel
theorem dX9_about_93 : decode cX9_about 93 = .ok (.aload_n 0, 1) := by decide +kernel
theorem dX9_about_94 : decode cX9_about 94 = .ok (.getfield 49, 3) := by decide +kernel
theorem dX9_about_97 : decode cX9_about 97 = .ok (.invokevirtual 156, 3) := by decide +kernel
theorem dX9_about_100 : decode cX9_about 100 = .ok (.aload_n 0, 1) := by decide +kernel
theorem dX9_about_101 : decode cX9_about 101 = .ok (.getfield 49, 3) := by decide +kernel
theorem dX9_about_104 : decode cX9_about 104 = .ok (.iload_n 2, 1) := by decide +kernel
theorem dX9_about_105 : decode cX9_about 105 = .ok (.bipush 10, 2) := by decide +kernel
theorem dX9_about_107 : decode cX9_about 107 = .ok (.isub, 1) := by decide +kernel
theorem dX9_about_108 : decode cX9_about 108 = .ok (.iaload, 1) := by decide +kernel
theorem dX9_about_109 : decode cX9_about 109 = .ok (.ireturn, 1) := by decide +kernel
theorem dX9_as_0 : decode cX9_as 0 = .ok (.aload_n 0, 1) := by decide +kernel
theorem dX9_as_1 : decode cX9_as 1 = .ok (.iload_n 1, 1) := by decide +kernel
theorem dX9_as_2 : decode cX9_as 2 = .ok (.invokevirtual 128, 3) := by decide +kernel
theorem dX9_as_5 : decode cX9_as 5 = .ok (.astore_n 3, 1) := by decide +kernel
theorem dX9_as_6 : decode cX9_as 6 = .ok (.aload_n 3, 1) := by decide +kernel
theorem dX9_as_7 : decode cX9_as 7 = .ok (.ifnonnull 6, 3) := by decide +kernel
theorem dX9_as_10 : decode cX9_as 10 = .ok (.bipush (-101), 2) := by decide +kernel
theorem dX9_as_12 : decode cX9_as 12 = .ok (.ireturn, 1) := by decide +kernel
theorem dX9_as_13 : decode cX9_as 13 = .ok (.iload_n 2, 1) := by decide +kernel
theorem dX9_as_14 : decode cX9_as 14 = .ok (.ifCond .lt 8, 3) := by decide +kernel
theorem dX9_as_17 : decode cX9_as 17 = .ok (.iload_n 2, 1) := by decide +kernel
theorem dX9_as_18 : decode cX9_as 18 = .ok (.iconst 5, 1) := by decide +kernel
theorem dX9_as_19 : decode cX9_as 19 = .ok (.if_icmp .lt 6, 3) := by decide +kernel
theorem dX9_as_22 : decode cX9_as 22 = .ok (.bipush (-102), 2) := by decide +kernel
theorem dX9_as_24 : decode cX9_as 24 = .ok (.ireturn, 1) := by decide +kernel
theorem dX9_as_25 : decode cX9_as 25 = .ok (.aload_n 3, 1) := by decide +kernel
theorem dX9_as_26 : decode cX9_as 26 = .ok (.iload_n 2, 1) := by decide +kernel
theorem dX9_as_27 : decode cX9_as 27 = .ok (.invokestatic 160, 3) := by decide +kernel
theorem dX9_as_30 : decode cX9_as 30 = .ok (.ifCond .eq 7, 3) := by decide +kernel
theorem dX9_as_33 : decode cX9_as 33 = .ok (.iload_n 1, 1) := by decide +kernel
theorem dX9_as_34 : decode cX9_as 34 = .ok (.goto 4, 3) := by decide +kernel
theorem dX9_as_37 : decode cX9_as 37 = .ok (.iconst (-1), 1) := by decide +kernel
theorem dX9_as_38 : decode cX9_as 38 = .ok (.ireturn, 1) := by decide +kernel
theorem dX9_burn_0 : decode cX9_burn 0 = .ok (.aload_n 0, 1) := by decide +kernel
theorem dX9_burn_1 : decode cX9_burn 1 = .ok (.iload_n 1, 1) := by decide +kernel
theorem dX9_burn_2 : decode cX9_burn 2 = .ok (.invokevirtual 128, 3) := by decide +kernel
theorem dX9_burn_5 : decode cX9_burn 5 = .ok (.ifnonnull 6, 3) := by decide +kernel
theorem dX9_burn_8 : decode cX9_burn 8 = .ok (.bipush (-101), 2) := by decide +kernel
theorem dX9_burn_10 : decode cX9_burn 10 = .ok (.ireturn, 1) := by decide +kernel
theorem dX9_burn_11 : decode cX9_burn 11 = .ok (.aload_n 0, 1) := by decide +kernel
theorem dX9_burn_12 : decode cX9_burn 12 = .ok (.getfield 32, 3) := by decide +kernel
theorem dX9_burn_15 : decode cX9_burn 15 = .ok (.getfield 163, 3) := by decide +kernel
theorem dX9_burn_18 : decode cX9_burn 18 = .ok (.iload_n 1, 1) := by decide +kernel
theorem dX9_burn_19 : decode cX9_burn 19 = .ok (.baload, 1) := by decide +kernel
theorem dX9_burn_20 : decode cX9_burn 20 = .ok (.istore_n 3, 1) := by decide +kernel
theorem dX9_burn_21 : decode cX9_burn 21 = .ok (.aload_n 0, 1) := by decide +kernel
theorem dX9_burn_22 : decode cX9_burn 22 = .ok (.getfield 32, 3) := by decide +kernel
theorem dX9_burn_25 : decode cX9_burn 25 = .ok (.getfield 163, 3) := by decide +kernel
theorem dX9_burn_28 : decode cX9_burn 28 = .ok (.iload_n 1, 1) := by decide +kernel
theorem dX9_burn_29 : decode cX9_burn 29 = .ok (.iload_n 2, 1) := by decide +kernel
theorem dX9_burn_30 : decode cX9_burn 30 = .ok (.bastore, 1) := by decide +kernel
theorem dX9_burn_31 : decode cX9_burn 31 = .ok (.iload_n 3, 1) := by decide +kernel
theorem dX9_burn_32 : decode cX9_burn 32 = .ok (.invokestatic 167, 3) := by decide +kernel
theorem dX9_burn_35 : decode cX9_burn 35 = .ok (.ireturn, 1) := by decide +kernel
theorem dX9_wind_0 : decode cX9_wind 0 = .ok (.iload_n 1, 1) := by decide +kernel
theorem dX9_wind_1 : decode cX9_wind 1 = .ok (.ifCond .lt 8, 3) := by decide +kernel
theorem dX9_wind_4 : decode cX9_wind 4 = .ok (.iload_n 1, 1) := by decide +kernel
theorem dX9_wind_5 : decode cX9_wind 5 = .ok (.iconst 4, 1) := by decide +kernel
theorem dX9_wind_6 : decode cX9_wind 6 = .ok (.if_icmp .le 6, 3) := by decide +kernel
theorem dX9_wind_9 : decode cX9_wind 9 = .ok (.bipush (-102), 2) := by decide +kernel
theorem dX9_wind_11 : decode cX9_wind 11 = .ok (.ireturn, 1) := by decide +kernel
theorem dX9_wind_12 : decode cX9_wind 12 = .ok (.aload_n 0, 1) := by decide +kernel
theorem dX9_wind_13 : decode cX9_wind 13 = .ok (.getfield 19, 3) := by decide +kernel
theorem dX9_wind_16 : decode cX9_wind 16 = .ok (.invokevirtual 171, 3) := by decide +kernel
theorem dX9_wind_19 : decode cX9_wind 19 = .ok (.ifCond .ne 6, 3) := by decide +kernel
theorem dX9_wind_22 : decode cX9_wind 22 = .ok (.bipush (-103), 2) := by decide +kernel
theorem dX9_wind_24 : decode cX9_wind 24 = .ok (.ireturn, 1) := by decide +kernel
theorem dX9_wind_25 : decode cX9_wind 25 = .ok (.aload_n 0, 1) := by decide +kernel
theorem dX9_wind_26 : decode cX9_wind 26 = .ok (.getfield 32, 3) := by decide +kernel
theorem dX9_wind_29 : decode cX9_wind 29 = .ok (.getfield 153, 3) := by decide +kernel
theorem dX9_wind_32 : decode cX9_wind 32 = .ok (.istore_n 2, 1) := by decide +kernel
theorem dX9_wind_33 : decode cX9_wind 33 = .ok (.aload_n 0, 1) := by decide +kernel
theorem dX9_wind_34 : decode cX9_wind 34 = .ok (.getfield 32, 3) := by decide +kernel
theorem dX9_wind_37 : decode cX9_wind 37 = .ok (.iload_n 1, 1) := by decide +kernel
theorem dX9_wind_38 : decode cX9_wind 38 = .ok (.putfield 153, 3) := by decide +kernel
theorem dX9_wind_41 : decode cX9_wind 41 = .ok (.iload_n 2, 1) := by decide +kernel
theorem dX9_wind_42 : decode cX9_wind 42 = .ok (.ireturn, 1) := by decide +kernel
theorem dX9_frost_0 : decode cX9_frost 0 = .ok (.aload_n 0, 1) := by decide +kernel
theorem dX9_frost_1 : decode cX9_frost 1 = .ok (.getfield 19, 3) := by decide +kernel
theorem dX9_frost_4 : decode cX9_frost 4 = .ok (.invokevirtual 171, 3) := by decide +kernel
theorem dX9_frost_7 : decode cX9_frost 7 = .ok (.ifCond .ne 6, 3) := by decide +kernel
theorem dX9_frost_10 : decode cX9_frost 10 = .ok (.bipush (-103), 2) := by decide +kernel
theorem dX9_frost_12 : decode cX9_frost 12 = .ok (.ireturn, 1) := by decide +kernel
theorem dX9_frost_13 : decode cX9_frost 13 = .ok (.aload_n 0, 1) := by decide +kernel
theorem dX9_frost_14 : decode cX9_frost 14 = .ok (.getfield 32, 3) := by decide +kernel
theorem dX9_frost_17 : decode cX9_frost 17 = .ok (.getfield 174, 3) := by decide +kernel
theorem dX9_frost_20 : decode cX9_frost 20 = .ok (.istore_n 2, 1) := by decide +kernel
theorem dX9_frost_21 : decode cX9_frost 21 = .ok (.aload_n 0, 1) := by decide +kernel
theorem dX9_frost_22 : decode cX9_frost 22 = .ok (.getfield 32, 3) := by decide +kernel
theorem dX9_frost_25 : decode cX9_frost 25 = .ok (.iload_n 1, 1) := by decide +kernel
theorem dX9_frost_26 : decode cX9_frost 26 = .ok (.putfield 174, 3) := by decide +kernel
theorem dX9_frost_29 : decode cX9_frost 29 = .ok (.iload_n 2, 1) := by decide +kernel
theorem dX9_frost_30 : decode cX9_frost 30 = .ok (.invokestatic 167, 3) := by decide +kernel
theorem dX9_frost_33 : decode cX9_frost 33 = .ok (.ireturn, 1) := by decide +kernel
theorem dX9_people_0 : decode cX9_people 0 = .ok (.aload_n 0, 1) := by decide +kernel
theorem dX9_people_1 : decode cX9_people 1 = .ok (.iload_n 1, 1) := by decide +kernel
theorem dX9_people_2 : decode cX9_people 2 = .ok (.invokevirtual 99, 3) := by decide +kernel
theorem dX9_people_5 : decode cX9_people 5 = .ok (.ifCond .ne 6, 3) := by decide +kernel
theorem dX9_people_8 : decode cX9_people 8 = .ok (.bipush (-101), 2) := by decide +kernel
theorem dX9_people_10 : decode cX9_people 10 = .ok (.ireturn, 1) := by decide +kernel
theorem dX9_people_11 : decode cX9_people 11 = .ok (.iload_n 2, 1) := by decide +kernel
theorem dX9_people_12 : decode cX9_people 12 = .ok (.ifCond .lt 9, 3) := by decide +kernel
theorem dX9_people_15 : decode cX9_people 15 = .ok (.iload_n 2, 1) := by decide +kernel
theorem dX9_people_16 : decode cX9_people 16 = .ok (.bipush 9, 2) := by decide +kernel
theorem dX9_people_18 : decode cX9_people 18 = .ok (.if_icmp .le 6, 3) := by decide +kernel
theorem dX9_people_21 : decode cX9_people 21 = .ok (.bipush (-102), 2) := by decide +kernel
theorem dX9_people_23 : decode cX9_people 23 = .ok (.ireturn, 1) := by decide +kernel
theorem dX9_people_24 : decode cX9_people 24 = .ok (.aload_n 0, 1) := by decide +kernel
theorem dX9_people_25 : decode cX9_people 25 = .ok (.getfield 19, 3) := by decide +kernel
theorem dX9_people_28 : decode cX9_people 28 = .ok (.iload_n 1, 1) := by decide +kernel
theorem dX9_people_29 : decode cX9_people 29 = .ok (.invokevirtual 177, 3) := by decide +kernel
theorem dX9_people_32 : decode cX9_people 32 = .ok (.ifCond .eq 6, 3) := by decide +kernel
theorem dX9_people_35 : decode cX9_people 35 = .ok (.bipush (-103), 2) := by decide +kernel
theorem dX9_people_37 : decode cX9_people 37 = .ok (.ireturn, 1) := by decide +kernel
theorem dX9_people_38 : decode cX9_people 38 = .ok (.aload_n 0, 1) := by decide +kernel
theorem dX9_people_39 : decode cX9_people 39 = .ok (.getfield 32, 3) := by decide +kernel
theorem dX9_people_42 : decode cX9_people 42 = .ok (.getfield 180, 3) := by decide +kernel
theorem dX9_people_45 : decode cX9_people 45 = .ok (.iload_n 1, 1) := by decide +kernel
theorem dX9_people_46 : decode cX9_people 46 = .ok (.iaload, 1) := by decide +kernel
theorem dX9_people_47 : decode cX9_people 47 = .ok (.istore_n 3, 1) := by decide +kernel
theorem dX9_people_48 : decode cX9_people 48 = .ok (.aload_n 0, 1) := by decide +kernel
theorem dX9_people_49 : decode cX9_people 49 = .ok (.getfield 32, 3) := by decide +kernel
theorem dX9_people_52 : decode cX9_people 52 = .ok (.getfield 180, 3) := by decide +kernel
theorem dX9_people_55 : decode cX9_people 55 = .ok (.iload_n 1, 1) := by decide +kernel
theorem dX9_people_56 : decode cX9_people 56 = .ok (.iload_n 2, 1) := by decide +kernel
theorem dX9_people_57 : decode cX9_people 57 = .ok (.iastore, 1) := by decide +kernel
theorem dX9_people_58 : decode cX9_people 58 = .ok (.iload_n 3, 1) := by decide +kernel
theorem dX9_people_59 : decode cX9_people 59 = .ok (.ireturn, 1) := by decide +kernel
theorem dX9_dusk_0 : decode cX9_dusk 0 = .ok (.aload_n 0, 1) := by decide +kernel
theorem dX9_dusk_1 : decode cX9_dusk 1 = .ok (.getfield 19, 3) := by decide +kernel
theorem dX9_dusk_4 : decode cX9_dusk 4 = .ok (.invokevirtual 171, 3) := by decide +kernel
theorem dX9_dusk_7 : decode cX9_dusk 7 = .ok (.ifCond .ne 6, 3) := by decide +kernel
theorem dX9_dusk_10 : decode cX9_dusk 10 = .ok (.bipush (-103), 2) := by decide +kernel
theorem dX9_dusk_12 : decode cX9_dusk 12 = .ok (.ireturn, 1) := by decide +kernel
theorem dX9_dusk_13 : decode cX9_dusk 13 = .ok (.aload_n 0, 1) := by decide +kernel
theorem dX9_dusk_14 : decode cX9_dusk 14 = .ok (.invokevirtual 103, 3) := by decide +kernel
theorem dX9_dusk_17 : decode cX9_dusk 17 = .ok (.iconst 0, 1) := by decide +kernel
theorem dX9_dusk_18 : decode cX9_dusk 18 = .ok (.istore_n 1, 1) := by decide +kernel
theorem dX9_dusk_19 : decode cX9_dusk 19 = .ok (.iconst 0, 1) := by decide +kernel
theorem dX9_dusk_20 : decode cX9_dusk 20 = .ok (.istore_n 2, 1) := by decide +kernel
theorem dX9_dusk_21 : decode cX9_dusk 21 = .ok (.iconst 0, 1) := by decide +kernel
theorem dX9_dusk_22 : decode cX9_dusk 22 = .ok (.istore_n 3, 1) := by decide +kernel
theorem dX9_dusk_23 : decode cX9_dusk 23 = .ok (.iload_n 3, 1) := by decide +kernel
theorem dX9_dusk_24 : decode cX9_dusk 24 = .ok (.bipush 8, 2) := by decide +kernel
theorem dX9_dusk_26 : decode cX9_dusk 26 = .ok (.if_icmp .ge 75, 3) := by decide +kernel
theorem dX9_dusk_29 : decode cX9_dusk 29 = .ok (.aload_n 0, 1) := by decide +kernel
theorem dX9_dusk_30 : decode cX9_dusk 30 = .ok (.getfield 45, 3) := by decide +kernel
theorem dX9_dusk_33 : decode cX9_dusk 33 = .ok (.getfield 183, 3) := by decide +kernel
theorem dX9_dusk_36 : decode cX9_dusk 36 = .ok (.iload_n 3, 1) := by decide +kernel
theorem dX9_dusk_37 : decode cX9_dusk 37 = .ok (.iaload, 1) := by decide +kernel
theorem dX9_dusk_38 : decode cX9_dusk 38 = .ok (.istore 4, 2) := by decide +kernel
theorem dX9_dusk_40 : decode cX9_dusk 40 = .ok (.iload 4, 2) := by decide +kernel
theorem dX9_dusk_42 : decode cX9_dusk 42 = .ok (.iconst (-1), 1) := by decide +kernel
theorem dX9_dusk_43 : decode cX9_dusk 43 = .ok (.if_icmp .ne 18, 3) := by decide +kernel
theorem dX9_dusk_46 : decode cX9_dusk 46 = .ok (.iload_n 2, 1) := by decide +kernel
theorem dX9_dusk_47 : decode cX9_dusk 47 = .ok (.aload_n 0, 1) := by decide +kernel
theorem dX9_dusk_48 : decode cX9_dusk 48 = .ok (.getfield 32, 3) := by decide +kernel
theorem dX9_dusk_51 : decode cX9_dusk 51 = .ok (.getfield 180, 3) := by decide +kernel
theorem dX9_dusk_54 : decode cX9_dusk 54 = .ok (.iload_n 3, 1) := by decide +kernel
theorem dX9_dusk_55 : decode cX9_dusk 55 = .ok (.iaload, 1) := by decide +kernel
theorem dX9_dusk_56 : decode cX9_dusk 56 = .ok (.iadd, 1) := by decide +kernel
theorem dX9_dusk_57 : decode cX9_dusk 57 = .ok (.istore_n 2, 1) := by decide +kernel
theorem dX9_dusk_58 : decode cX9_dusk 58 = .ok (.goto 37, 3) := by decide +kernel
theorem dX9_dusk_61 : decode cX9_dusk 61 = .ok (.aload_n 0, 1) := by decide +kernel
theorem dX9_dusk_62 : decode cX9_dusk 62 = .ok (.getfield 32, 3) := by decide +kernel
theorem dX9_dusk_65 : decode cX9_dusk 65 = .ok (.getfield 186, 3) := by decide +kernel
theorem dX9_dusk_68 : decode cX9_dusk 68 = .ok (.iload 4, 2) := by decide +kernel
theorem dX9_dusk_70 : decode cX9_dusk 70 = .ok (.dup2, 1) := by decide +kernel
theorem dX9_dusk_71 : decode cX9_dusk 71 = .ok (.iaload, 1) := by decide +kernel
theorem dX9_dusk_72 : decode cX9_dusk 72 = .ok (.aload_n 0, 1) := by decide +kernel
theorem dX9_dusk_73 : decode cX9_dusk 73 = .ok (.getfield 32, 3) := by decide +kernel
theorem dX9_dusk_76 : decode cX9_dusk 76 = .ok (.getfield 180, 3) := by decide +kernel
theorem dX9_dusk_79 : decode cX9_dusk 79 = .ok (.iload_n 3, 1) := by decide +kernel
theorem dX9_dusk_80 : decode cX9_dusk 80 = .ok (.iaload, 1) := by decide +kernel
theorem dX9_dusk_81 : decode cX9_dusk 81 = .ok (.iadd, 1) := by decide +kernel
theorem dX9_dusk_82 : decode cX9_dusk 82 = .ok (.iastore, 1) := by decide +kernel
theorem dX9_dusk_83 : decode cX9_dusk 83 = .ok (.iload_n 1, 1) := by decide +kernel
theorem dX9_dusk_84 : decode cX9_dusk 84 = .ok (.aload_n 0, 1) := by decide +kernel
theorem dX9_dusk_85 : decode cX9_dusk 85 = .ok (.getfield 32, 3) := by decide +kernel
theorem dX9_dusk_88 : decode cX9_dusk 88 = .ok (.getfield 180, 3) := by decide +kernel
theorem dX9_dusk_91 : decode cX9_dusk 91 = .ok (.iload_n 3, 1) := by decide +kernel
theorem dX9_dusk_92 : decode cX9_dusk 92 = .ok (.iaload, 1) := by decide +kernel
theorem dX9_dusk_93 : decode cX9_dusk 93 = .ok (.iadd, 1) := by decide +kernel
theorem dX9_dusk_94 : decode cX9_dusk 94 = .ok (.istore_n 1, 1) := by decide +kernel
theorem dX9_dusk_95 : decode cX9_dusk 95 = .ok (.iinc 3 1, 3) := by decide +kernel
theorem dX9_dusk_98 : decode cX9_dusk 98 = .ok (.goto (-75), 3) := by decide +kernel
theorem dX9_dusk_101 : decode cX9_dusk 101 = .ok (.iconst 0, 1) := by decide +kernel
theorem dX9_dusk_102 : decode cX9_dusk 102 = .ok (.istore_n 3, 1) := by decide +kernel
theorem dX9_dusk_103 : decode cX9_dusk 103 = .ok (.iload_n 3, 1) := by decide +kernel
theorem dX9_dusk_104 : decode cX9_dusk 104 = .ok (.iconst 3, 1) := by decide +kernel
theorem dX9_dusk_105 : decode cX9_dusk 105 = .ok (.if_icmp .ge 24, 3) := by decide +kernel
theorem dX9_dusk_108 : decode cX9_dusk 108 = .ok (.aload_n 0, 1) := by decide +kernel
theorem dX9_dusk_109 : decode cX9_dusk 109 = .ok (.getfield 32, 3) := by decide +kernel
theorem dX9_dusk_112 : decode cX9_dusk 112 = .ok (.getfield 186, 3) := by decide +kernel
theorem dX9_dusk_115 : decode cX9_dusk 115 = .ok (.iload_n 3, 1) := by decide +kernel
theorem dX9_dusk_116 : decode cX9_dusk 116 = .ok (.dup2, 1) := by decide +kernel
theorem dX9_dusk_117 : decode cX9_dusk 117 = .ok (.iaload, 1) := by decide +kernel
theorem dX9_dusk_118 : decode cX9_dusk 118 = .ok (.iload_n 2, 1) := by decide +kernel
theorem dX9_dusk_119 : decode cX9_dusk 119 = .ok (.iconst 2, 1) := by decide +kernel
theorem dX9_dusk_120 : decode cX9_dusk 120 = .ok (.idiv, 1) := by decide +kernel
theorem dX9_dusk_121 : decode cX9_dusk 121 = .ok (.iadd, 1) := by decide +kernel
theorem dX9_dusk_122 : decode cX9_dusk 122 = .ok (.iastore, 1) := by decide +kernel
theorem dX9_dusk_123 : decode cX9_dusk 123 = .ok (.iinc 3 1, 3) := by decide +kernel
theorem dX9_dusk_126 : decode cX9_dusk 126 = .ok (.goto (-23), 3) := by decide +kernel
theorem dX9_dusk_129 : decode cX9_dusk 129 = .ok (.iload_n 1, 1) := by decide +kernel
theorem dX9_dusk_130 : decode cX9_dusk 130 = .ok (.iconst 3, 1) := by decide +kernel
theorem dX9_dusk_131 : decode cX9_dusk 131 = .ok (.iload_n 2, 1) := by decide +kernel
theorem dX9_dusk_132 : decode cX9_dusk 132 = .ok (.iconst 2, 1) := by decide +kernel
theorem dX9_dusk_133 : decode cX9_dusk 133 = .ok (.idiv, 1) := by decide +kernel
theorem dX9_dusk_134 : decode cX9_dusk 134 = .ok (.imul, 1) := by decide +kernel
theorem dX9_dusk_135 : decode cX9_dusk 135 = .ok (.iadd, 1) := by decide +kernel
theorem dX9_dusk_136 : decode cX9_dusk 136 = .ok (.ireturn, 1) := by decide +kernel
theorem dX9_hour_0 : decode cX9_hour 0 = .ok (.aload_n 0, 1) := by decide +kernel
theorem dX9_hour_1 : decode cX9_hour 1 = .ok (.getfield 19, 3) := by decide +kernel
theorem dX9_hour_4 : decode cX9_hour 4 = .ok (.invokevirtual 171, 3) := by decide +kernel
theorem dX9_hour_7 : decode cX9_hour 7 = .ok (.ifCond .ne 6, 3) := by decide +kernel
theorem dX9_hour_10 : decode cX9_hour 10 = .ok (.bipush (-103), 2) := by decide +kernel
theorem dX9_hour_12 : decode cX9_hour 12 = .ok (.ireturn, 1) := by decide +kernel
theorem dX9_hour_13 : decode cX9_hour 13 = .ok (.aload_n 0, 1) := by decide +kernel
theorem dX9_hour_14 : decode cX9_hour 14 = .ok (.getfield 32, 3) := by decide +kernel
theorem dX9_hour_17 : decode cX9_hour 17 = .ok (.invokevirtual 189, 3) := by decide +kernel
theorem dX9_hour_20 : decode cX9_hour 20 = .ok (.aload_n 0, 1) := by decide +kernel
theorem dX9_hour_21 : decode cX9_hour 21 = .ok (.getfield 32, 3) := by decide +kernel
theorem dX9_hour_24 : decode cX9_hour 24 = .ok (.getfield 192, 3) := by decide +kernel
theorem dX9_hour_27 : decode cX9_hour 27 = .ok (.ireturn, 1) := by decide +kernel
theorem dX9_weakest_0 : decode cX9_weakest 0 = .ok (.aload_n 0, 1) := by decide +kernel
theorem dX9_weakest_1 : decode cX9_weakest 1 = .ok (.iload_n 1, 1) := by decide +kernel
theorem dX9_weakest_2 : decode cX9_weakest 2 = .ok (.invokevirtual 99, 3) := by decide +kernel
theorem dX9_weakest_5 : decode cX9_weakest 5 = .ok (.ifCond .ne 6, 3) := by decide +kernel
theorem dX9_weakest_8 : decode cX9_weakest 8 = .ok (.bipush (-101), 2) := by decide +kernel
theorem dX9_weakest_10 : decode cX9_weakest 10 = .ok (.ireturn, 1) := by decide +kernel
theorem dX9_weakest_11 : decode cX9_weakest 11 = .ok (.iload_n 2, 1) := by decide +kernel
theorem dX9_weakest_12 : decode cX9_weakest 12 = .ok (.invokestatic 113, 3) := by decide +kernel
theorem dX9_weakest_15 : decode cX9_weakest 15 = .ok (.ifCond .eq 10, 3) := by decide +kernel
theorem dX9_weakest_18 : decode cX9_weakest 18 = .ok (.iload_n 3, 1) := by decide +kernel
theorem dX9_weakest_19 : decode cX9_weakest 19 = .ok (.invokestatic 195, 3) := by decide +kernel
theorem dX9_weakest_22 : decode cX9_weakest 22 = .ok (.ifCond .ne 6, 3) := by decide +kernel
theorem dX9_weakest_25 : decode cX9_weakest 25 = .ok (.bipush (-102), 2) := by decide +kernel
theorem dX9_weakest_27 : decode cX9_weakest 27 = .ok (.ireturn, 1) := by decide +kernel
theorem dX9_weakest_28 : decode cX9_weakest 28 = .ok (.aload_n 0, 1) := by decide +kernel
theorem dX9_weakest_29 : decode cX9_weakest 29 = .ok (.invokevirtual 103, 3) := by decide +kernel
theorem dX9_weakest_32 : decode cX9_weakest 32 = .ok (.aload_n 0, 1) := by decide +kernel
theorem dX9_weakest_33 : decode cX9_weakest 33 = .ok (.getfield 45, 3) := by decide +kernel
theorem dX9_weakest_36 : decode cX9_weakest 36 = .ok (.getfield 183, 3) := by decide +kernel
theorem dX9_weakest_39 : decode cX9_weakest 39 = .ok (.iload_n 1, 1) := by decide +kernel
theorem dX9_weakest_40 : decode cX9_weakest 40 = .ok (.iaload, 1) := by decide +kernel
theorem dX9_weakest_41 : decode cX9_weakest 41 = .ok (.iload_n 2, 1) := by decide +kernel
theorem dX9_weakest_42 : decode cX9_weakest 42 = .ok (.if_icmp .ne 13, 3) := by decide +kernel
theorem dX9_weakest_45 : decode cX9_weakest 45 = .ok (.iload_n 3, 1) := by decide +kernel
theorem dX9_weakest_46 : decode cX9_weakest 46 = .ok (.ifCond .ne 7, 3) := by decide +kernel
theorem dX9_weakest_49 : decode cX9_weakest 49 = .ok (.iconst 0, 1) := by decide +kernel
theorem dX9_weakest_50 : decode cX9_weakest 50 = .ok (.goto 4, 3) := by decide +kernel
theorem dX9_weakest_53 : decode cX9_weakest 53 = .ok (.iconst (-1), 1) := by decide +kernel
theorem dX9_weakest_54 : decode cX9_weakest 54 = .ok (.ireturn, 1) := by decide +kernel
theorem dX9_weakest_55 : decode cX9_weakest 55 = .ok (.iconst 1, 1) := by decide +kernel
theorem dX9_weakest_56 : decode cX9_weakest 56 = .ok (.istore 4, 2) := by decide +kernel
theorem dX9_weakest_58 : decode cX9_weakest 58 = .ok (.iload 4, 2) := by decide +kernel
theorem dX9_weakest_60 : decode cX9_weakest 60 = .ok (.bipush 9, 2) := by decide +kernel
theorem dX9_weakest_62 : decode cX9_weakest 62 = .ok (.if_icmp .gt 61, 3) := by decide +kernel
theorem dX9_weakest_65 : decode cX9_weakest 65 = .ok (.iconst 0, 1) := by decide +kernel
theorem dX9_weakest_66 : decode cX9_weakest 66 = .ok (.istore 5, 2) := by decide +kernel
theorem dX9_weakest_68 : decode cX9_weakest 68 = .ok (.iload 5, 2) := by decide +kernel
theorem dX9_weakest_70 : decode cX9_weakest 70 = .ok (.bipush 8, 2) := by decide +kernel
theorem dX9_weakest_72 : decode cX9_weakest 72 = .ok (.if_icmp .ge 45, 3) := by decide +kernel
theorem dX9_weakest_75 : decode cX9_weakest 75 = .ok (.aload_n 0, 1) := by decide +kernel
theorem dX9_weakest_76 : decode cX9_weakest 76 = .ok (.getfield 19, 3) := by decide +kernel
theorem dX9_weakest_79 : decode cX9_weakest 79 = .ok (.iload 5, 2) := by decide +kernel
theorem dX9_weakest_81 : decode cX9_weakest 81 = .ok (.invokevirtual 116, 3) := by decide +kernel
theorem dX9_weakest_84 : decode cX9_weakest 84 = .ok (.ifCond .eq 27, 3) := by decide +kernel
theorem dX9_weakest_87 : decode cX9_weakest 87 = .ok (.aload_n 0, 1) := by decide +kernel
theorem dX9_weakest_88 : decode cX9_weakest 88 = .ok (.iload_n 1, 1) := by decide +kernel
theorem dX9_weakest_89 : decode cX9_weakest 89 = .ok (.iload 5, 2) := by decide +kernel
theorem dX9_weakest_91 : decode cX9_weakest 91 = .ok (.iload 4, 2) := by decide +kernel
theorem dX9_weakest_93 : decode cX9_weakest 93 = .ok (.invokevirtual 198, 3) := by decide +kernel
theorem dX9_weakest_96 : decode cX9_weakest 96 = .ok (.ifCond .eq 15, 3) := by decide +kernel
theorem dX9_weakest_99 : decode cX9_weakest 99 = .ok (.iload_n 3, 1) := by decide +kernel
theorem dX9_weakest_100 : decode cX9_weakest 100 = .ok (.ifCond .ne 8, 3) := by decide +kernel
theorem dX9_weakest_103 : decode cX9_weakest 103 = .ok (.iload 4, 2) := by decide +kernel
theorem dX9_weakest_105 : decode cX9_weakest 105 = .ok (.goto 5, 3) := by decide +kernel
theorem dX9_weakest_108 : decode cX9_weakest 108 = .ok (.iload 5, 2) := by decide +kernel
theorem dX9_weakest_110 : decode cX9_weakest 110 = .ok (.ireturn, 1) := by decide +kernel
theorem dX9_weakest_111 : decode cX9_weakest 111 = .ok (.iinc 5 1, 3) := by decide +kernel
theorem dX9_weakest_114 : decode cX9_weakest 114 = .ok (.goto (-46), 3) := by decide +kernel
theorem dX9_weakest_117 : decode cX9_weakest 117 = .ok (.iinc 4 1, 3) := by decide +kernel
theorem dX9_weakest_120 : decode cX9_weakest 120 = .ok (.goto (-62), 3) := by decide +kernel
theorem dX9_weakest_123 : decode cX9_weakest 123 = .ok (.iconst (-1), 1) := by decide +kernel
theorem dX9_weakest_124 : decode cX9_weakest 124 = .ok (.ireturn, 1) := by decide +kernel
theorem dX9_walls_0 : decode cX9_walls 0 = .ok (.aload_n 0, 1) := by decide +kernel
theorem dX9_walls_1 : decode cX9_walls 1 = .ok (.iload_n 1, 1) := by decide +kernel
theorem dX9_walls_2 : decode cX9_walls 2 = .ok (.invokevirtual 99, 3) := by decide +kernel
theorem dX9_walls_5 : decode cX9_walls 5 = .ok (.ifCond .ne 6, 3) := by decide +kernel
theorem dX9_walls_8 : decode cX9_walls 8 = .ok (.bipush (-101), 2) := by decide +kernel
theorem dX9_walls_10 : decode cX9_walls 10 = .ok (.ireturn, 1) := by decide +kernel
theorem dX9_walls_11 : decode cX9_walls 11 = .ok (.iload_n 2, 1) := by decide +kernel
theorem dX9_walls_12 : decode cX9_walls 12 = .ok (.invokestatic 113, 3) := by decide +kernel
theorem dX9_walls_15 : decode cX9_walls 15 = .ok (.ifCond .eq 10, 3) := by decide +kernel
theorem dX9_walls_18 : decode cX9_walls 18 = .ok (.iload_n 3, 1) := by decide +kernel
theorem dX9_walls_19 : decode cX9_walls 19 = .ok (.invokestatic 195, 3) := by decide +kernel
theorem dX9_walls_22 : decode cX9_walls 22 = .ok (.ifCond .ne 6, 3) := by decide +kernel
theorem dX9_walls_25 : decode cX9_walls 25 = .ok (.bipush (-102), 2) := by decide +kernel
theorem dX9_walls_27 : decode cX9_walls 27 = .ok (.ireturn, 1) := by decide +kernel
theorem dX9_walls_28 : decode cX9_walls 28 = .ok (.aload_n 0, 1) := by decide +kernel
theorem dX9_walls_29 : decode cX9_walls 29 = .ok (.getfield 202, 3) := by decide +kernel
theorem dX9_walls_32 : decode cX9_walls 32 = .ok (.bipush 20, 2) := by decide +kernel
theorem dX9_walls_34 : decode cX9_walls 34 = .ok (.if_icmp .lt 6, 3) := by decide +kernel
theorem dX9_walls_37 : decode cX9_walls 37 = .ok (.bipush (-103), 2) := by decide +kernel
theorem dX9_walls_39 : decode cX9_walls 39 = .ok (.ireturn, 1) := by decide +kernel
theorem dX9_walls_40 : decode cX9_walls 40 = .ok (.aload_n 0, 1) := by decide +kernel
theorem dX9_walls_41 : decode cX9_walls 41 = .ok (.dup, 1) := by decide +kernel
theorem dX9_walls_42 : decode cX9_walls 42 = .ok (.getfield 202, 3) := by decide +kernel
theorem dX9_walls_45 : decode cX9_walls 45 = .ok (.iconst 1, 1) := by decide +kernel
theorem dX9_walls_46 : decode cX9_walls 46 = .ok (.iadd, 1) := by decide +kernel
theorem dX9_walls_47 : decode cX9_walls 47 = .ok (.putfield 202, 3) := by decide +kernel
theorem dX9_walls_50 : decode cX9_walls 50 = .ok (.aload_n 0, 1) := by decide +kernel
theorem dX9_walls_51 : decode cX9_walls 51 = .ok (.iload_n 1, 1) := by decide +kernel
theorem dX9_walls_52 : decode cX9_walls 52 = .ok (.iload_n 2, 1) := by decide +kernel
theorem dX9_walls_53 : decode cX9_walls 53 = .ok (.invokevirtual 205, 3) := by decide +kernel
theorem dX9_walls_56 : decode cX9_walls 56 = .ok (.istore 4, 2) := by decide +kernel
theorem dX9_walls_58 : decode cX9_walls 58 = .ok (.iload 4, 2) := by decide +kernel
theorem dX9_walls_60 : decode cX9_walls 60 = .ok (.iconst (-1), 1) := by decide +kernel
theorem dX9_walls_61 : decode cX9_walls 61 = .ok (.if_icmp .ne 5, 3) := by decide +kernel
theorem dX9_walls_64 : decode cX9_walls 64 = .ok (.iconst (-1), 1) := by decide +kernel
theorem dX9_walls_65 : decode cX9_walls 65 = .ok (.ireturn, 1) := by decide +kernel
theorem dX9_walls_66 : decode cX9_walls 66 = .ok (.iload_n 3, 1) := by decide +kernel
theorem dX9_walls_67 : decode cX9_walls 67 = .ok (.ifCond .ne 11, 3) := by decide +kernel
theorem dX9_walls_70 : decode cX9_walls 70 = .ok (.iload 4, 2) := by decide +kernel
theorem dX9_walls_72 : decode cX9_walls 72 = .ok (.invokestatic 208, 3) := by decide +kernel
theorem dX9_walls_75 : decode cX9_walls 75 = .ok (.goto 5, 3) := by decide +kernel
theorem dX9_walls_78 : decode cX9_walls 78 = .ok (.iload 4, 2) := by decide +kernel
theorem dX9_walls_80 : decode cX9_walls 80 = .ok (.ireturn, 1) := by decide +kernel
theorem dX9_hold_0 : decode cX9_hold 0 = .ok (.aload_n 0, 1) := by decide +kernel
theorem dX9_hold_1 : decode cX9_hold 1 = .ok (.iload_n 1, 1) := by decide +kernel
theorem dX9_hold_2 : decode cX9_hold 2 = .ok (.invokevirtual 99, 3) := by decide +kernel
theorem dX9_hold_5 : decode cX9_hold 5 = .ok (.ifCond .ne 6, 3) := by decide +kernel
theorem dX9_hold_8 : decode cX9_hold 8 = .ok (.bipush (-101), 2) := by decide +kernel
theorem dX9_hold_10 : decode cX9_hold 10 = .ok (.ireturn, 1) := by decide +kernel
theorem dX9_hold_11 : decode cX9_hold 11 = .ok (.iload_n 2, 1) := by decide +kernel
theorem dX9_hold_12 : decode cX9_hold 12 = .ok (.invokestatic 113, 3) := by decide +kernel
theorem dX9_hold_15 : decode cX9_hold 15 = .ok (.ifCond .ne 6, 3) := by decide +kernel
theorem dX9_hold_18 : decode cX9_hold 18 = .ok (.bipush (-102), 2) := by decide +kernel
theorem dX9_hold_20 : decode cX9_hold 20 = .ok (.ireturn, 1) := by decide +kernel
theorem dX9_hold_21 : decode cX9_hold 21 = .ok (.aload_n 0, 1) := by decide +kernel
theorem dX9_hold_22 : decode cX9_hold 22 = .ok (.invokevirtual 213, 3) := by decide +kernel
theorem dX9_hold_25 : decode cX9_hold 25 = .ok (.aload_n 0, 1) := by decide +kernel
theorem dX9_hold_26 : decode cX9_hold 26 = .ok (.iload_n 1, 1) := by decide +kernel
theorem dX9_hold_27 : decode cX9_hold 27 = .ok (.iload_n 2, 1) := by decide +kernel
theorem dX9_hold_28 : decode cX9_hold 28 = .ok (.invokevirtual 216, 3) := by decide +kernel
theorem dX9_hold_31 : decode cX9_hold 31 = .ok (.ireturn, 1) := by decide +kernel
theorem dX9_nose_0 : decode cX9_nose 0 = .ok (.aload_n 0, 1) := by decide +kernel
theorem dX9_nose_1 : decode cX9_nose 1 = .ok (.iload_n 1, 1) := by decide +kernel
theorem dX9_nose_2 : decode cX9_nose 2 = .ok (.invokevirtual 99, 3) := by decide +kernel
theorem dX9_nose_5 : decode cX9_nose 5 = .ok (.ifCond .ne 6, 3) := by decide +kernel
theorem dX9_nose_8 : decode cX9_nose 8 = .ok (.bipush (-101), 2) := by decide +kernel
theorem dX9_nose_10 : decode cX9_nose 10 = .ok (.ireturn, 1) := by decide +kernel
theorem dX9_nose_11 : decode cX9_nose 11 = .ok (.iload_n 2, 1) := by decide +kernel
theorem dX9_nose_12 : decode cX9_nose 12 = .ok (.iconst (-1), 1) := by decide +kernel
theorem dX9_nose_13 : decode cX9_nose 13 = .ok (.if_icmp .eq 13, 3) := by decide +kernel
theorem dX9_nose_16 : decode cX9_nose 16 = .ok (.iload_n 2, 1) := by decide +kernel
theorem dX9_nose_17 : decode cX9_nose 17 = .ok (.invokestatic 113, 3) := by decide +kernel
theorem dX9_nose_20 : decode cX9_nose 20 = .ok (.ifCond .ne 6, 3) := by decide +kernel
theorem dX9_nose_23 : decode cX9_nose 23 = .ok (.bipush (-102), 2) := by decide +kernel
theorem dX9_nose_25 : decode cX9_nose 25 = .ok (.ireturn, 1) := by decide +kernel
theorem dX9_nose_26 : decode cX9_nose 26 = .ok (.aload_n 0, 1) := by decide +kernel
theorem dX9_nose_27 : decode cX9_nose 27 = .ok (.getfield 32, 3) := by decide +kernel
theorem dX9_nose_30 : decode cX9_nose 30 = .ok (.getfield 219, 3) := by decide +kernel
theorem dX9_nose_33 : decode cX9_nose 33 = .ok (.bipush 8, 2) := by decide +kernel
theorem dX9_nose_35 : decode cX9_nose 35 = .ok (.if_icmp .lt 6, 3) := by decide +kernel
theorem dX9_nose_38 : decode cX9_nose 38 = .ok (.bipush (-104), 2) := by decide +kernel
theorem dX9_nose_40 : decode cX9_nose 40 = .ok (.ireturn, 1) := by decide +kernel
theorem dX9_nose_41 : decode cX9_nose 41 = .ok (.aload_n 0, 1) := by decide +kernel
theorem dX9_nose_42 : decode cX9_nose 42 = .ok (.getfield 32, 3) := by decide +kernel
theorem dX9_nose_45 : decode cX9_nose 45 = .ok (.iload_n 1, 1) := by decide +kernel
theorem dX9_nose_46 : decode cX9_nose 46 = .ok (.iload_n 2, 1) := by decide +kernel
theorem dX9_nose_47 : decode cX9_nose 47 = .ok (.invokevirtual 222, 3) := by decide +kernel
theorem dX9_nose_50 : decode cX9_nose 50 = .ok (.aload_n 0, 1) := by decide +kernel
theorem dX9_nose_51 : decode cX9_nose 51 = .ok (.getfield 32, 3) := by decide +kernel
theorem dX9_nose_54 : decode cX9_nose 54 = .ok (.getfield 219, 3) := by decide +kernel
theorem dX9_nose_57 : decode cX9_nose 57 = .ok (.ireturn, 1) := by decide +kernel
theorem dX9_forget_0 : decode cX9_forget 0 = .ok (.aload_n 0, 1) := by decide +kernel
theorem dX9_forget_1 : decode cX9_forget 1 = .ok (.getfield 32, 3) := by decide +kernel
theorem dX9_forget_4 : decode cX9_forget 4 = .ok (.getfield 219, 3) := by decide +kernel
theorem dX9_forget_7 : decode cX9_forget 7 = .ok (.istore_n 1, 1) := by decide +kernel
theorem dX9_forget_8 : decode cX9_forget 8 = .ok (.aload_n 0, 1) := by decide +kernel
theorem dX9_forget_9 : decode cX9_forget 9 = .ok (.getfield 32, 3) := by decide +kernel
theorem dX9_forget_12 : decode cX9_forget 12 = .ok (.iconst 0, 1) := by decide +kernel
theorem dX9_forget_13 : decode cX9_forget 13 = .ok (.putfield 219, 3) := by decide +kernel
theorem dX9_forget_16 : decode cX9_forget 16 = .ok (.iload_n 1, 1) := by decide +kernel
theorem dX9_forget_17 : decode cX9_forget 17 = .ok (.ireturn, 1) := by decide +kernel
theorem dX9_unknown_0 : decode cX9_unknown 0 = .ok (.iload_n 1, 1) := by decide +kernel
theorem dX9_unknown_1 : decode cX9_unknown 1 = .ok (.invokestatic 195, 3) := by decide +kernel
theorem dX9_unknown_4 : decode cX9_unknown 4 = .ok (.ifCond .ne 6, 3) := by decide +kernel
theorem dX9_unknown_7 : decode cX9_unknown 7 = .ok (.bipush (-102), 2) := by decide +kernel
theorem dX9_unknown_9 : decode cX9_unknown 9 = .ok (.ireturn, 1) := by decide +kernel
theorem dX9_unknown_10 : decode cX9_unknown 10 = .ok (.aload_n 0, 1) := by decide +kernel
theorem dX9_unknown_11 : decode cX9_unknown 11 = .ok (.invokevirtual 226, 3) := by decide +kernel
theorem dX9_unknown_14 : decode cX9_unknown 14 = .ok (.ifCond .ne 6, 3) := by decide +kernel
theorem dX9_unknown_17 : decode cX9_unknown 17 = .ok (.bipush (-103), 2) := by decide +kernel
theorem dX9_unknown_19 : decode cX9_unknown 19 = .ok (.ireturn, 1) := by decide +kernel
theorem dX9_unknown_20 : decode cX9_unknown 20 = .ok (.aload_n 0, 1) := by decide +kernel
theorem dX9_unknown_21 : decode cX9_unknown 21 = .ok (.dup, 1) := by decide +kernel
theorem dX9_unknown_22 : decode cX9_unknown 22 = .ok (.getfield 229, 3) := by decide +kernel
theorem dX9_unknown_25 : decode cX9_unknown 25 = .ok (.iconst 1, 1) := by decide +kernel
theorem dX9_unknown_26 : decode cX9_unknown 26 = .ok (.iadd, 1) := by decide +kernel
theorem dX9_unknown_27 : decode cX9_unknown 27 = .ok (.putfield 229, 3) := by decide +kernel
theorem dX9_unknown_30 : decode cX9_unknown 30 = .ok (.aload_n 0, 1) := by decide +kernel
theorem dX9_unknown_31 : decode cX9_unknown 31 = .ok (.invokevirtual 103, 3) := by decide +kernel
theorem dX9_unknown_34 : decode cX9_unknown 34 = .ok (.iconst 0, 1) := by decide +kernel
theorem dX9_unknown_35 : decode cX9_unknown 35 = .ok (.istore_n 2, 1) := by decide +kernel
theorem dX9_unknown_36 : decode cX9_unknown 36 = .ok (.iconst (-1), 1) := by decide +kernel
theorem dX9_unknown_37 : decode cX9_unknown 37 = .ok (.istore_n 3, 1) := by decide +kernel
theorem dX9_unknown_38 : decode cX9_unknown 38 = .ok (.iconst 0, 1) := by decide +kernel
theorem dX9_unknown_39 : decode cX9_unknown 39 = .ok (.istore 4, 2) := by decide +kernel
theorem dX9_unknown_41 : decode cX9_unknown 41 = .ok (.iload 4, 2) := by decide +kernel
theorem dX9_unknown_43 : decode cX9_unknown 43 = .ok (.sipush 216, 3) := by decide +kernel
theorem dX9_unknown_46 : decode cX9_unknown 46 = .ok (.if_icmp .ge 29, 3) := by decide +kernel
theorem dX9_unknown_49 : decode cX9_unknown 49 = .ok (.aload_n 0, 1) := by decide +kernel
theorem dX9_unknown_50 : decode cX9_unknown 50 = .ok (.iload 4, 2) := by decide +kernel
theorem dX9_unknown_52 : decode cX9_unknown 52 = .ok (.invokevirtual 232, 3) := by decide +kernel
theorem dX9_unknown_55 : decode cX9_unknown 55 = .ok (.ifCond .eq 14, 3) := by decide +kernel
theorem dX9_unknown_58 : decode cX9_unknown 58 = .ok (.iinc 2 1, 3) := by decide +kernel
theorem dX9_unknown_61 : decode cX9_unknown 61 = .ok (.iload_n 3, 1) := by decide +kernel
theorem dX9_unknown_62 : decode cX9_unknown 62 = .ok (.iconst (-1), 1) := by decide +kernel
theorem dX9_unknown_63 : decode cX9_unknown 63 = .ok (.if_icmp .ne 6, 3) := by decide +kernel
theorem dX9_unknown_66 : decode cX9_unknown 66 = .ok (.iload 4, 2) := by decide +kernel
theorem dX9_unknown_68 : decode cX9_unknown 68 = .ok (.istore_n 3, 1) := by decide +kernel
theorem dX9_unknown_69 : decode cX9_unknown 69 = .ok (.iinc 4 1, 3) := by decide +kernel
theorem dX9_unknown_72 : decode cX9_unknown 72 = .ok (.goto (-31), 3) := by decide +kernel
theorem dX9_unknown_75 : decode cX9_unknown 75 = .ok (.iload_n 1, 1) := by decide +kernel
theorem dX9_unknown_76 : decode cX9_unknown 76 = .ok (.ifCond .ne 7, 3) := by decide +kernel
theorem dX9_unknown_79 : decode cX9_unknown 79 = .ok (.iload_n 2, 1) := by decide +kernel
theorem dX9_unknown_80 : decode cX9_unknown 80 = .ok (.goto 4, 3) := by decide +kernel
theorem dX9_unknown_83 : decode cX9_unknown 83 = .ok (.iload_n 3, 1) := by decide +kernel
theorem dX9_unknown_84 : decode cX9_unknown 84 = .ok (.ireturn, 1) := by decide +kernel
theorem dX9_sniff_0 : decode cX9_sniff 0 = .ok (.aload_n 0, 1) := by decide +kernel
theorem dX9_sniff_1 : decode cX9_sniff 1 = .ok (.invokevirtual 226, 3) := by decide +kernel
theorem dX9_sniff_4 : decode cX9_sniff 4 = .ok (.ifCond .ne 6, 3) := by decide +kernel
theorem dX9_sniff_7 : decode cX9_sniff 7 = .ok (.bipush (-103), 2) := by decide +kernel
theorem dX9_sniff_9 : decode cX9_sniff 9 = .ok (.ireturn, 1) := by decide +kernel
theorem dX9_sniff_10 : decode cX9_sniff 10 = .ok (.aload_n 0, 1) := by decide +kernel
theorem dX9_sniff_11 : decode cX9_sniff 11 = .ok (.dup, 1) := by decide +kernel
theorem dX9_sniff_12 : decode cX9_sniff 12 = .ok (.getfield 229, 3) := by decide +kernel
theorem dX9_sniff_15 : decode cX9_sniff 15 = .ok (.iconst 1, 1) := by decide +kernel
theorem dX9_sniff_16 : decode cX9_sniff 16 = .ok (.iadd, 1) := by decide +kernel
theorem dX9_sniff_17 : decode cX9_sniff 17 = .ok (.putfield 229, 3) := by decide +kernel
theorem dX9_sniff_20 : decode cX9_sniff 20 = .ok (.aload_n 0, 1) := by decide +kernel
theorem dX9_sniff_21 : decode cX9_sniff 21 = .ok (.invokevirtual 103, 3) := by decide +kernel
theorem dX9_sniff_24 : decode cX9_sniff 24 = .ok (.aload_n 0, 1) := by decide +kernel
theorem dX9_sniff_25 : decode cX9_sniff 25 = .ok (.invokevirtual 235, 3) := by decide +kernel
theorem dX9_sniff_28 : decode cX9_sniff 28 = .ok (.ifCond .ne 7, 3) := by decide +kernel
theorem dX9_sniff_31 : decode cX9_sniff 31 = .ok (.iconst (-1), 1) := by decide +kernel
theorem dX9_sniff_32 : decode cX9_sniff 32 = .ok (.goto 7, 3) := by decide +kernel
theorem dX9_sniff_35 : decode cX9_sniff 35 = .ok (.aload_n 0, 1) := by decide +kernel
theorem dX9_sniff_36 : decode cX9_sniff 36 = .ok (.invokevirtual 238, 3) := by decide +kernel
theorem dX9_sniff_39 : decode cX9_sniff 39 = .ok (.ireturn, 1) := by decide +kernel
theorem dX9_days_0 : decode cX9_days 0 = .ok (.iload_n 1, 1) := by decide +kernel
theorem dX9_days_1 : decode cX9_days 1 = .ok (.iconst 1, 1) := by decide +kernel
theorem dX9_days_2 : decode cX9_days 2 = .ok (.if_icmp .lt 20, 3) := by decide +kernel
theorem dX9_days_5 : decode cX9_days 5 = .ok (.iload_n 1, 1) := by decide +kernel
theorem dX9_days_6 : decode cX9_days 6 = .ok (.bipush 60, 2) := by decide +kernel
theorem dX9_days_8 : decode cX9_days 8 = .ok (.if_icmp .gt 14, 3) := by decide +kernel
theorem dX9_days_11 : decode cX9_days 11 = .ok (.iload_n 2, 1) := by decide +kernel
theorem dX9_days_12 : decode cX9_days 12 = .ok (.ifCond .lt 10, 3) := by decide +kernel
theorem dX9_days_15 : decode cX9_days 15 = .ok (.iload_n 3, 1) := by decide +kernel
theorem dX9_days_16 : decode cX9_days 16 = .ok (.invokestatic 195, 3) := by decide +kernel
theorem dX9_days_19 : decode cX9_days 19 = .ok (.ifCond .ne 6, 3) := by decide +kernel
theorem dX9_days_22 : decode cX9_days 22 = .ok (.bipush (-102), 2) := by decide +kernel
theorem dX9_days_24 : decode cX9_days 24 = .ok (.ireturn, 1) := by decide +kernel
theorem dX9_days_25 : decode cX9_days 25 = .ok (.aload_n 0, 1) := by decide +kernel
theorem dX9_days_26 : decode cX9_days 26 = .ok (.getfield 19, 3) := by decide +kernel
theorem dX9_days_29 : decode cX9_days 29 = .ok (.invokevirtual 171, 3) := by decide +kernel
theorem dX9_days_32 : decode cX9_days 32 = .ok (.ifCond .ne 6, 3) := by decide +kernel
theorem dX9_days_35 : decode cX9_days 35 = .ok (.bipush (-103), 2) := by decide +kernel
theorem dX9_days_37 : decode cX9_days 37 = .ok (.ireturn, 1) := by decide +kernel
theorem dX9_days_38 : decode cX9_days 38 = .ok (.aload_n 0, 1) := by decide +kernel
theorem dX9_days_39 : decode cX9_days 39 = .ok (.getfield 39, 3) := by decide +kernel
theorem dX9_days_42 : decode cX9_days 42 = .ok (.aload_n 0, 1) := by decide +kernel
theorem dX9_days_43 : decode cX9_days 43 = .ok (.getfield 32, 3) := by decide +kernel
theorem dX9_days_46 : decode cX9_days 46 = .ok (.invokevirtual 85, 3) := by decide +kernel
theorem dX9_days_49 : decode cX9_days 49 = .ok (.iload_n 2, 1) := by decide +kernel
theorem dX9_days_50 : decode cX9_days 50 = .ok (.istore 4, 2) := by decide +kernel
theorem dX9_days_52 : decode cX9_days 52 = .ok (.iconst 0, 1) := by decide +kernel
theorem dX9_days_53 : decode cX9_days 53 = .ok (.istore 5, 2) := by decide +kernel
theorem dX9_days_55 : decode cX9_days 55 = .ok (.iconst 0, 1) := by decide +kernel
theorem dX9_days_56 : decode cX9_days 56 = .ok (.istore 6, 2) := by decide +kernel
theorem dX9_days_58 : decode cX9_days 58 = .ok (.iload 6, 2) := by decide +kernel
theorem dX9_days_60 : decode cX9_days 60 = .ok (.iload_n 1, 1) := by decide +kernel
theorem dX9_days_61 : decode cX9_days 61 = .ok (.if_icmp .ge 97, 3) := by decide +kernel
theorem dX9_days_64 : decode cX9_days 64 = .ok (.iload 4, 2) := by decide +kernel
theorem dX9_days_66 : decode cX9_days 66 = .ok (.invokestatic 241, 3) := by decide +kernel
theorem dX9_days_69 : decode cX9_days 69 = .ok (.istore 4, 2) := by decide +kernel
theorem dX9_days_71 : decode cX9_days 71 = .ok (.aload_n 0, 1) := by decide +kernel
theorem dX9_days_72 : decode cX9_days 72 = .ok (.getfield 39, 3) := by decide +kernel
theorem dX9_days_75 : decode cX9_days 75 = .ok (.iload 4, 2) := by decide +kernel
theorem dX9_days_77 : decode cX9_days 77 = .ok (.iconst 5, 1) := by decide +kernel
theorem dX9_days_78 : decode cX9_days 78 = .ok (.invokestatic 244, 3) := by decide +kernel
theorem dX9_days_81 : decode cX9_days 81 = .ok (.putfield 153, 3) := by decide +kernel
theorem dX9_days_84 : decode cX9_days 84 = .ok (.iload 4, 2) := by decide +kernel
theorem dX9_days_86 : decode cX9_days 86 = .ok (.invokestatic 241, 3) := by decide +kernel
theorem dX9_days_89 : decode cX9_days 89 = .ok (.istore 4, 2) := by decide +kernel
theorem dX9_days_91 : decode cX9_days 91 = .ok (.aload_n 0, 1) := by decide +kernel
theorem dX9_days_92 : decode cX9_days 92 = .ok (.getfield 39, 3) := by decide +kernel
theorem dX9_days_95 : decode cX9_days 95 = .ok (.iload 4, 2) := by decide +kernel
theorem dX9_days_97 : decode cX9_days 97 = .ok (.bipush 6, 2) := by decide +kernel
theorem dX9_days_99 : decode cX9_days 99 = .ok (.invokestatic 244, 3) := by decide +kernel
theorem dX9_days_102 : decode cX9_days 102 = .ok (.ifCond .ne 7, 3) := by decide +kernel
theorem dX9_days_105 : decode cX9_days 105 = .ok (.iconst 1, 1) := by decide +kernel
theorem dX9_days_106 : decode cX9_days 106 = .ok (.goto 4, 3) := by decide +kernel
theorem dX9_days_109 : decode cX9_days 109 = .ok (.iconst 0, 1) := by decide +kernel
theorem dX9_days_110 : decode cX9_days 110 = .ok (.putfield 174, 3) := by decide +kernel
theorem dX9_days_113 : decode cX9_days 113 = .ok (.aload_n 0, 1) := by decide +kernel
theorem dX9_days_114 : decode cX9_days 114 = .ok (.getfield 45, 3) := by decide +kernel
theorem dX9_days_117 : decode cX9_days 117 = .ok (.aload_n 0, 1) := by decide +kernel
theorem dX9_days_118 : decode cX9_days 118 = .ok (.getfield 19, 3) := by decide +kernel
theorem dX9_days_121 : decode cX9_days 121 = .ok (.aload_n 0, 1) := by decide +kernel
theorem dX9_days_122 : decode cX9_days 122 = .ok (.getfield 25, 3) := by decide +kernel
theorem dX9_days_125 : decode cX9_days 125 = .ok (.aload_n 0, 1) := by decide +kernel
theorem dX9_days_126 : decode cX9_days 126 = .ok (.getfield 39, 3) := by decide +kernel
theorem dX9_days_129 : decode cX9_days 129 = .ok (.iconst 0, 1) := by decide +kernel
theorem dX9_days_130 : decode cX9_days 130 = .ok (.invokevirtual 247, 3) := by decide +kernel
theorem dX9_days_133 : decode cX9_days 133 = .ok (.iload 5, 2) := by decide +kernel
theorem dX9_days_135 : decode cX9_days 135 = .ok (.aload_n 0, 1) := by decide +kernel
theorem dX9_days_136 : decode cX9_days 136 = .ok (.getfield 45, 3) := by decide +kernel
theorem dX9_days_139 : decode cX9_days 139 = .ok (.invokevirtual 110, 3) := by decide +kernel
theorem dX9_days_142 : decode cX9_days 142 = .ok (.iadd, 1) := by decide +kernel
theorem dX9_days_143 : decode cX9_days 143 = .ok (.istore 5, 2) := by decide +kernel
theorem dX9_days_145 : decode cX9_days 145 = .ok (.aload_n 0, 1) := by decide +kernel
theorem dX9_days_146 : decode cX9_days 146 = .ok (.getfield 39, 3) := by decide +kernel
theorem dX9_days_149 : decode cX9_days 149 = .ok (.invokevirtual 189, 3) := by decide +kernel
theorem dX9_days_152 : decode cX9_days 152 = .ok (.iinc 6 1, 3) := by decide +kernel
theorem dX9_days_155 : decode cX9_days 155 = .ok (.goto (-97), 3) := by decide +kernel
theorem dX9_days_158 : decode cX9_days 158 = .ok (.iload_n 3, 1) := by decide +kernel
theorem dX9_days_159 : decode cX9_days 159 = .ok (.ifCond .ne 8, 3) := by decide +kernel
theorem dX9_days_162 : decode cX9_days 162 = .ok (.iload 5, 2) := by decide +kernel
theorem dX9_days_164 : decode cX9_days 164 = .ok (.goto 5, 3) := by decide +kernel
theorem dX9_days_167 : decode cX9_days 167 = .ok (.iload 4, 2) := by decide +kernel
theorem dX9_days_169 : decode cX9_days 169 = .ok (.ireturn, 1) := by decide +kernel
theorem dX9_image_0 : decode cX9_image 0 = .ok (.aload_n 0, 1) := by decide +kernel
theorem dX9_image_1 : decode cX9_image 1 = .ok (.getfield 19, 3) := by decide +kernel
theorem dX9_image_4 : decode cX9_image 4 = .ok (.invokevirtual 171, 3) := by decide +kernel
theorem dX9_image_7 : decode cX9_image 7 = .ok (.ifCond .ne 6, 3) := by decide +kernel
theorem dX9_image_10 : decode cX9_image 10 = .ok (.bipush (-103), 2) := by decide +kernel
theorem dX9_image_12 : decode cX9_image 12 = .ok (.ireturn, 1) := by decide +kernel
theorem dX9_image_13 : decode cX9_image 13 = .ok (.aload_n 0, 1) := by decide +kernel
theorem dX9_image_14 : decode cX9_image 14 = .ok (.getfield 36, 3) := by decide +kernel
theorem dX9_image_17 : decode cX9_image 17 = .ok (.aload_n 0, 1) := by decide +kernel
theorem dX9_image_18 : decode cX9_image 18 = .ok (.getfield 32, 3) := by decide +kernel
theorem dX9_image_21 : decode cX9_image 21 = .ok (.invokevirtual 85, 3) := by decide +kernel
theorem dX9_image_24 : decode cX9_image 24 = .ok (.aload_n 0, 1) := by decide +kernel
theorem dX9_image_25 : decode cX9_image 25 = .ok (.iconst 1, 1) := by decide +kernel
theorem dX9_image_26 : decode cX9_image 26 = .ok (.putfield 89, 3) := by decide +kernel
theorem dX9_image_29 : decode cX9_image 29 = .ok (.aload_n 0, 1) := by decide +kernel
theorem dX9_image_30 : decode cX9_image 30 = .ok (.getfield 32, 3) := by decide +kernel
theorem dX9_image_33 : decode cX9_image 33 = .ok (.getfield 192, 3) := by decide +kernel
theorem dX9_image_36 : decode cX9_image 36 = .ok (.ireturn, 1) := by decide +kernel
theorem dX9_restore_0 : decode cX9_restore 0 = .ok (.aload_n 0, 1) := by decide +kernel
theorem dX9_restore_1 : decode cX9_restore 1 = .ok (.getfield 89, 3) := by decide +kernel
theorem dX9_restore_4 : decode cX9_restore 4 = .ok (.ifCond .ne 6, 3) := by decide +kernel
theorem dX9_restore_7 : decode cX9_restore 7 = .ok (.bipush (-103), 2) := by decide +kernel
theorem dX9_restore_9 : decode cX9_restore 9 = .ok (.ireturn, 1) := by decide +kernel
theorem dX9_restore_10 : decode cX9_restore 10 = .ok (.aload_n 0, 1) := by decide +kernel
theorem dX9_restore_11 : decode cX9_restore 11 = .ok (.getfield 32, 3) := by decide +kernel
theorem dX9_restore_14 : decode cX9_restore 14 = .ok (.aload_n 0, 1) := by decide +kernel
theorem dX9_restore_15 : decode cX9_restore 15 = .ok (.getfield 36, 3) := by decide +kernel
theorem dX9_restore_18 : decode cX9_restore 18 = .ok (.invokevirtual 85, 3) := by decide +kernel
theorem dX9_restore_21 : decode cX9_restore 21 = .ok (.aload_n 0, 1) := by decide +kernel
theorem dX9_restore_22 : decode cX9_restore 22 = .ok (.getfield 32, 3) := by decide +kernel
theorem dX9_restore_25 : decode cX9_restore 25 = .ok (.getfield 192, 3) := by decide +kernel
theorem dX9_restore_28 : decode cX9_restore 28 = .ok (.ireturn, 1) := by decide +kernel
theorem dX9_count_0 : decode cX9_count 0 = .ok (.iload_n 1, 1) := by decide +kernel
theorem dX9_count_1 : decode cX9_count 1 = .ok (.ifCond .lt 9, 3) := by decide +kernel
theorem dX9_count_4 : decode cX9_count 4 = .ok (.iload_n 1, 1) := by decide +kernel
theorem dX9_count_5 : decode cX9_count 5 = .ok (.bipush 16, 2) := by decide +kernel
theorem dX9_count_7 : decode cX9_count 7 = .ok (.if_icmp .lt 6, 3) := by decide +kernel
theorem dX9_count_10 : decode cX9_count 10 = .ok (.bipush (-102), 2) := by decide +kernel
theorem dX9_count_12 : decode cX9_count 12 = .ok (.ireturn, 1) := by decide +kernel
theorem dX9_count_13 : decode cX9_count 13 = .ok (.aload_n 0, 1) := by decide +kernel
theorem dX9_count_14 : decode cX9_count 14 = .ok (.invokevirtual 103, 3) := by decide +kernel
theorem dX9_count_17 : decode cX9_count 17 = .ok (.aload_n 0, 1) := by decide +kernel
theorem dX9_count_18 : decode cX9_count 18 = .ok (.iload_n 1, 1) := by decide +kernel
theorem dX9_count_19 : decode cX9_count 19 = .ok (.invokevirtual 251, 3) := by decide +kernel
theorem dX9_count_22 : decode cX9_count 22 = .ok (.ireturn, 1) := by decide +kernel
theorem dX9_digest_0 : decode cX9_digest 0 = .ok (.ldc2_w 254, 3) := by decide +kernel
theorem dX9_digest_3 : decode cX9_digest 3 = .ok (.lstore_n 1, 1) := by decide +kernel
theorem dX9_digest_4 : decode cX9_digest 4 = .ok (.aload_n 0, 1) := by decide +kernel
theorem dX9_digest_5 : decode cX9_digest 5 = .ok (.getfield 19, 3) := by decide +kernel
theorem dX9_digest_8 : decode cX9_digest 8 = .ok (.invokevirtual 171, 3) := by decide +kernel
theorem dX9_digest_11 : decode cX9_digest 11 = .ok (.ifCond .eq 20, 3) := by decide +kernel
theorem dX9_digest_14 : decode cX9_digest 14 = .ok (.aload_n 0, 1) := by decide +kernel
theorem dX9_digest_15 : decode cX9_digest 15 = .ok (.invokevirtual 213, 3) := by decide +kernel
theorem dX9_digest_18 : decode cX9_digest 18 = .ok (.aload_n 0, 1) := by decide +kernel
theorem dX9_digest_19 : decode cX9_digest 19 = .ok (.invokevirtual 103, 3) := by decide +kernel
theorem dX9_digest_22 : decode cX9_digest 22 = .ok (.aload_n 0, 1) := by decide +kernel
theorem dX9_digest_23 : decode cX9_digest 23 = .ok (.lload_n 1, 1) := by decide +kernel
theorem dX9_digest_24 : decode cX9_digest 24 = .ok (.invokevirtual 256, 3) := by decide +kernel
theorem dX9_digest_27 : decode cX9_digest 27 = .ok (.lstore_n 1, 1) := by decide +kernel
theorem dX9_digest_28 : decode cX9_digest 28 = .ok (.goto 7, 3) := by decide +kernel
theorem dX9_digest_31 : decode cX9_digest 31 = .ok (.aload_n 0, 1) := by decide +kernel
theorem dX9_digest_32 : decode cX9_digest 32 = .ok (.invokevirtual 103, 3) := by decide +kernel
theorem dX9_digest_35 : decode cX9_digest 35 = .ok (.iconst 0, 1) := by decide +kernel
theorem dX9_digest_36 : decode cX9_digest 36 = .ok (.istore_n 3, 1) := by decide +kernel
theorem dX9_digest_37 : decode cX9_digest 37 = .ok (.iload_n 3, 1) := by decide +kernel
theorem dX9_digest_38 : decode cX9_digest 38 = .ok (.aload_n 0, 1) := by decide +kernel
theorem dX9_digest_39 : decode cX9_digest 39 = .ok (.getfield 32, 3) := by decide +kernel
theorem dX9_digest_42 : decode cX9_digest 42 = .ok (.getfield 119, 3) := by decide +kernel
theorem dX9_digest_45 : decode cX9_digest 45 = .ok (.if_icmp .ge 16, 3) := by decide +kernel
theorem dX9_digest_48 : decode cX9_digest 48 = .ok (.aload_n 0, 1) := by decide +kernel
theorem dX9_digest_49 : decode cX9_digest 49 = .ok (.lload_n 1, 1) := by decide +kernel
theorem dX9_digest_50 : decode cX9_digest 50 = .ok (.iload_n 3, 1) := by decide +kernel
theorem dX9_digest_51 : decode cX9_digest 51 = .ok (.invokevirtual 260, 3) := by decide +kernel
theorem dX9_digest_54 : decode cX9_digest 54 = .ok (.lstore_n 1, 1) := by decide +kernel
theorem dX9_digest_55 : decode cX9_digest 55 = .ok (.iinc 3 1, 3) := by decide +kernel
theorem dX9_digest_58 : decode cX9_digest 58 = .ok (.goto (-21), 3) := by decide +kernel
theorem dX9_digest_61 : decode cX9_digest 61 = .ok (.lload_n 1, 1) := by decide +kernel
theorem dX9_digest_62 : decode cX9_digest 62 = .ok (.aload_n 0, 1) := by decide +kernel
theorem dX9_digest_63 : decode cX9_digest 63 = .ok (.getfield 45, 3) := by decide +kernel
theorem dX9_digest_66 : decode cX9_digest 66 = .ok (.invokevirtual 110, 3) := by decide +kernel
theorem dX9_digest_69 : decode cX9_digest 69 = .ok (.i2l, 1) := by decide +kernel
theorem dX9_digest_70 : decode cX9_digest 70 = .ok (.invokestatic 264, 3) := by decide +kernel
theorem dX9_digest_73 : decode cX9_digest 73 = .ok (.lstore_n 1, 1) := by decide +kernel
theorem dX9_digest_74 : decode cX9_digest 74 = .ok (.iconst 0, 1) := by decide +kernel
theorem dX9_digest_75 : decode cX9_digest 75 = .ok (.istore_n 3, 1) := by decide +kernel
theorem dX9_digest_76 : decode cX9_digest 76 = .ok (.iload_n 3, 1) := by decide +kernel
theorem dX9_digest_77 : decode cX9_digest 77 = .ok (.aload_n 0, 1) := by decide +kernel
theorem dX9_digest_78 : decode cX9_digest 78 = .ok (.getfield 12, 3) := by decide +kernel
theorem dX9_digest_81 : decode cX9_digest 81 = .ok (.getfield 70, 3) := by decide +kernel
theorem dX9_digest_84 : decode cX9_digest 84 = .ok (.if_icmp .ge 24, 3) := by decide +kernel
theorem dX9_digest_87 : decode cX9_digest 87 = .ok (.lload_n 1, 1) := by decide +kernel
theorem dX9_digest_88 : decode cX9_digest 88 = .ok (.aload_n 0, 1) := by decide +kernel
theorem dX9_digest_89 : decode cX9_digest 89 = .ok (.getfield 12, 3) := by decide +kernel
theorem dX9_digest_92 : decode cX9_digest 92 = .ok (.getfield 268, 3) := by decide +kernel
theorem dX9_digest_95 : decode cX9_digest 95 = .ok (.iload_n 3, 1) := by decide +kernel
theorem dX9_digest_96 : decode cX9_digest 96 = .ok (.iaload, 1) := by decide +kernel
theorem dX9_digest_97 : decode cX9_digest 97 = .ok (.i2l, 1) := by decide +kernel
theorem dX9_digest_98 : decode cX9_digest 98 = .ok (.invokestatic 264, 3) := by decide +kernel
theorem dX9_digest_101 : decode cX9_digest 101 = .ok (.lstore_n 1, 1) := by decide +kernel
theorem dX9_digest_102 : decode cX9_digest 102 = .ok (.iinc 3 1, 3) := by decide +kernel
theorem dX9_digest_105 : decode cX9_digest 105 = .ok (.goto (-29), 3) := by decide +kernel
theorem dX9_digest_108 : decode cX9_digest 108 = .ok (.iconst 0, 1) := by decide +kernel
theorem dX9_digest_109 : decode cX9_digest 109 = .ok (.istore_n 3, 1) := by decide +kernel
theorem dX9_digest_110 : decode cX9_digest 110 = .ok (.iload_n 3, 1) := by decide +kernel
theorem dX9_digest_111 : decode cX9_digest 111 = .ok (.bipush 16, 2) := by decide +kernel
theorem dX9_digest_113 : decode cX9_digest 113 = .ok (.if_icmp .ge 20, 3) := by decide +kernel
theorem dX9_digest_116 : decode cX9_digest 116 = .ok (.lload_n 1, 1) := by decide +kernel
theorem dX9_digest_117 : decode cX9_digest 117 = .ok (.aload_n 0, 1) := by decide +kernel
theorem dX9_digest_118 : decode cX9_digest 118 = .ok (.iload_n 3, 1) := by decide +kernel
theorem dX9_digest_119 : decode cX9_digest 119 = .ok (.invokevirtual 251, 3) := by decide +kernel
theorem dX9_digest_122 : decode cX9_digest 122 = .ok (.i2l, 1) := by decide +kernel
theorem dX9_digest_123 : decode cX9_digest 123 = .ok (.invokestatic 264, 3) := by decide +kernel
theorem dX9_digest_126 : decode cX9_digest 126 = .ok (.lstore_n 1, 1) := by decide +kernel
theorem dX9_digest_127 : decode cX9_digest 127 = .ok (.iinc 3 1, 3) := by decide +kernel
theorem dX9_digest_130 : decode cX9_digest 130 = .ok (.goto (-20), 3) := by decide +kernel
theorem dX9_digest_133 : decode cX9_digest 133 = .ok (.lload_n 1, 1) := by decide +kernel
theorem dX9_digest_134 : decode cX9_digest 134 = .ok (.lreturn, 1) := by decide +kernel
theorem dX9_isParish_0 : decode cX9_isParish 0 = .ok (.iload_n 0, 1) := by decide +kernel
theorem dX9_isParish_1 : decode cX9_isParish 1 = .ok (.ifCond .lt 12, 3) := by decide +kernel
theorem dX9_isParish_4 : decode cX9_isParish 4 = .ok (.iload_n 0, 1) := by decide +kernel
theorem dX9_isParish_5 : decode cX9_isParish 5 = .ok (.iconst 3, 1) := by decide +kernel
theorem dX9_isParish_6 : decode cX9_isParish 6 = .ok (.if_icmp .ge 7, 3) := by decide +kernel
theorem dX9_isParish_9 : decode cX9_isParish 9 = .ok (.iconst 1, 1) := by decide +kernel
theorem dX9_isParish_10 : decode cX9_isParish 10 = .ok (.goto 4, 3) := by decide +kernel
theorem dX9_isParish_13 : decode cX9_isParish 13 = .ok (.iconst 0, 1) := by decide +kernel
theorem dX9_isParish_14 : decode cX9_isParish 14 = .ok (.ireturn, 1) := by decide +kernel
theorem dX9_isZeroOrOne_0 : decode cX9_isZeroOrOne 0 = .ok (.iload_n 0, 1) := by decide +kernel
theorem dX9_isZeroOrOne_1 : decode cX9_isZeroOrOne 1 = .ok (.ifCond .eq 8, 3) := by decide +kernel
theorem dX9_isZeroOrOne_4 : decode cX9_isZeroOrOne 4 = .ok (.iload_n 0, 1) := by decide +kernel
theorem dX9_isZeroOrOne_5 : decode cX9_isZeroOrOne 5 = .ok (.iconst 1, 1) := by decide +kernel
theorem dX9_isZeroOrOne_6 : decode cX9_isZeroOrOne 6 = .ok (.if_icmp .ne 7, 3) := by decide +kernel
theorem dX9_isZeroOrOne_9 : decode cX9_isZeroOrOne 9 = .ok (.iconst 1, 1) := by decide +kernel
theorem dX9_isZeroOrOne_10 : decode cX9_isZeroOrOne 10 = .ok (.goto 4, 3) := by decide +kernel
theorem dX9_isZeroOrOne_13 : decode cX9_isZeroOrOne 13 = .ok (.iconst 0, 1) := by decide +kernel
theorem dX9_isZeroOrOne_14 : decode cX9_isZeroOrOne 14 = .ok (.ireturn, 1) := by decide +kernel
theorem dX9_bit_0 : decode cX9_bit 0 = .ok (.iload_n 0, 1) := by decide +kernel
theorem dX9_bit_1 : decode cX9_bit 1 = .ok (.ifCond .eq 7, 3) := by decide +kernel
theorem dX9_bit_4 : decode cX9_bit 4 = .ok (.iconst 1, 1) := by decide +kernel

theorem dX10_days_44 : decode cX10_days 44 = .ok (.getfield 37, 3) := by decide +kernel
theorem dX10_days_47 : decode cX10_days 47 = .ok (.invokestatic 186, 3) := by decide +kernel
theorem dX10_days_50 : decode cX10_days 50 = .ok (.aload_n 0, 1) := by decide +kernel
theorem dX10_days_51 : decode cX10_days 51 = .ok (.getfield 92, 3) := by decide +kernel
theorem dX10_days_54 : decode cX10_days 54 = .ok (.istore 4, 2) := by decide +kernel
theorem dX10_days_56 : decode cX10_days 56 = .ok (.aload_n 0, 1) := by decide +kernel
theorem dX10_days_57 : decode cX10_days 57 = .ok (.getfield 86, 3) := by decide +kernel
theorem dX10_days_60 : decode cX10_days 60 = .ok (.istore 5, 2) := by decide +kernel
theorem dX10_days_62 : decode cX10_days 62 = .ok (.aload_n 0, 1) := by decide +kernel
theorem dX10_days_63 : decode cX10_days 63 = .ok (.getfield 89, 3) := by decide +kernel
theorem dX10_days_66 : decode cX10_days 66 = .ok (.istore 6, 2) := by decide +kernel
theorem dX10_days_68 : decode cX10_days 68 = .ok (.aload_n 0, 1) := by decide +kernel
theorem dX10_days_69 : decode cX10_days 69 = .ok (.iload_n 2, 1) := by decide +kernel
theorem dX10_days_70 : decode cX10_days 70 = .ok (.putfield 209, 3) := by decide +kernel
theorem dX10_days_73 : decode cX10_days 73 = .ok (.iconst 0, 1) := by decide +kernel
theorem dX10_days_74 : decode cX10_days 74 = .ok (.istore 7, 2) := by decide +kernel
theorem dX10_days_76 : decode cX10_days 76 = .ok (.iconst 0, 1) := by decide +kernel
theorem dX10_days_77 : decode cX10_days 77 = .ok (.istore 8, 2) := by decide +kernel
theorem dX10_days_79 : decode cX10_days 79 = .ok (.iload 8, 2) := by decide +kernel
theorem dX10_days_81 : decode cX10_days 81 = .ok (.iload_n 1, 1) := by decide +kernel
theorem dX10_days_82 : decode cX10_days 82 = .ok (.if_icmp .ge 49, 3) := by decide +kernel
theorem dX10_days_85 : decode cX10_days 85 = .ok (.aload_n 0, 1) := by decide +kernel
theorem dX10_days_86 : decode cX10_days 86 = .ok (.aload_n 0, 1) := by decide +kernel
theorem dX10_days_87 : decode cX10_days 87 = .ok (.iconst 5, 1) := by decide +kernel
theorem dX10_days_88 : decode cX10_days 88 = .ok (.invokevirtual 219, 3) := by decide +kernel
theorem dX10_days_91 : decode cX10_days 91 = .ok (.putfield 86, 3) := by decide +kernel
theorem dX10_days_94 : decode cX10_days 94 = .ok (.aload_n 0, 1) := by decide +kernel
theorem dX10_days_95 : decode cX10_days 95 = .ok (.aload_n 0, 1) := by decide +kernel
theorem dX10_days_96 : decode cX10_days 96 = .ok (.bipush 6, 2) := by decide +kernel
theorem dX10_days_98 : decode cX10_days 98 = .ok (.invokevirtual 219, 3) := by decide +kernel
theorem dX10_days_101 : decode cX10_days 101 = .ok (.ifCond .ne 7, 3) := by decide +kernel
theorem dX10_days_104 : decode cX10_days 104 = .ok (.iconst 1, 1) := by decide +kernel
theorem dX10_days_105 : decode cX10_days 105 = .ok (.goto 4, 3) := by decide +kernel
theorem dX10_days_108 : decode cX10_days 108 = .ok (.iconst 0, 1) := by decide +kernel
theorem dX10_days_109 : decode cX10_days 109 = .ok (.putfield 89, 3) := by decide +kernel
theorem dX10_days_112 : decode cX10_days 112 = .ok (.iload 7, 2) := by decide +kernel
theorem dX10_days_114 : decode cX10_days 114 = .ok (.aload_n 0, 1) := by decide +kernel
theorem dX10_days_115 : decode cX10_days 115 = .ok (.invokevirtual 158, 3) := by decide +kernel
theorem dX10_days_118 : decode cX10_days 118 = .ok (.iadd, 1) := by decide +kernel
theorem dX10_days_119 : decode cX10_days 119 = .ok (.istore 7, 2) := by decide +kernel
theorem dX10_days_121 : decode cX10_days 121 = .ok (.aload_n 0, 1) := by decide +kernel
theorem dX10_days_122 : decode cX10_days 122 = .ok (.invokevirtual 173, 3) := by decide +kernel
theorem dX10_days_125 : decode cX10_days 125 = .ok (.iinc 8 1, 3) := by decide +kernel
theorem dX10_days_128 : decode cX10_days 128 = .ok (.goto (-49), 3) := by decide +kernel
theorem dX10_days_131 : decode cX10_days 131 = .ok (.aload_n 0, 1) := by decide +kernel
theorem dX10_days_132 : decode cX10_days 132 = .ok (.getfield 37, 3) := by decide +kernel
theorem dX10_days_135 : decode cX10_days 135 = .ok (.aload_n 0, 1) := by decide +kernel
theorem dX10_days_136 : decode cX10_days 136 = .ok (.getfield 22, 3) := by decide +kernel
theorem dX10_days_139 : decode cX10_days 139 = .ok (.invokestatic 186, 3) := by decide +kernel
theorem dX10_days_142 : decode cX10_days 142 = .ok (.aload_n 0, 1) := by decide +kernel
theorem dX10_days_143 : decode cX10_days 143 = .ok (.iload 4, 2) := by decide +kernel
theorem dX10_days_145 : decode cX10_days 145 = .ok (.putfield 92, 3) := by decide +kernel
theorem dX10_days_148 : decode cX10_days 148 = .ok (.aload_n 0, 1) := by decide +kernel
theorem dX10_days_149 : decode cX10_days 149 = .ok (.iload 5, 2) := by decide +kernel
theorem dX10_days_151 : decode cX10_days 151 = .ok (.putfield 86, 3) := by decide +kernel
theorem dX10_days_154 : decode cX10_days 154 = .ok (.aload_n 0, 1) := by decide +kernel
theorem dX10_days_155 : decode cX10_days 155 = .ok (.iload 6, 2) := by decide +kernel
theorem dX10_days_157 : decode cX10_days 157 = .ok (.putfield 89, 3) := by decide +kernel
theorem dX10_days_160 : decode cX10_days 160 = .ok (.iload_n 3, 1) := by decide +kernel
theorem dX10_days_161 : decode cX10_days 161 = .ok (.ifCond .ne 8, 3) := by decide +kernel
theorem dX10_days_164 : decode cX10_days 164 = .ok (.iload 7, 2) := by decide +kernel
theorem dX10_days_166 : decode cX10_days 166 = .ok (.goto 7, 3) := by decide +kernel
theorem dX10_days_169 : decode cX10_days 169 = .ok (.aload_n 0, 1) := by decide +kernel
theorem dX10_days_170 : decode cX10_days 170 = .ok (.getfield 209, 3) := by decide +kernel
theorem dX10_days_173 : decode cX10_days 173 = .ok (.ireturn, 1) := by decide +kernel
theorem dX10_image_0 : decode cX10_image 0 = .ok (.aload_n 0, 1) := by decide +kernel
theorem dX10_image_1 : decode cX10_image 1 = .ok (.invokevirtual 109, 3) := by decide +kernel
theorem dX10_image_4 : decode cX10_image 4 = .ok (.ifCond .eq 6, 3) := by decide +kernel
theorem dX10_image_7 : decode cX10_image 7 = .ok (.bipush (-103), 2) := by decide +kernel
theorem dX10_image_9 : decode cX10_image 9 = .ok (.ireturn, 1) := by decide +kernel
theorem dX10_image_10 : decode cX10_image 10 = .ok (.aload_n 0, 1) := by decide +kernel
theorem dX10_image_11 : decode cX10_image 11 = .ok (.getfield 22, 3) := by decide +kernel
theorem dX10_image_14 : decode cX10_image 14 = .ok (.aload_n 0, 1) := by decide +kernel
theorem dX10_image_15 : decode cX10_image 15 = .ok (.getfield 46, 3) := by decide +kernel
theorem dX10_image_18 : decode cX10_image 18 = .ok (.invokestatic 186, 3) := by decide +kernel
theorem dX10_image_21 : decode cX10_image 21 = .ok (.aload_n 0, 1) := by decide +kernel
theorem dX10_image_22 : decode cX10_image 22 = .ok (.getfield 16, 3) := by decide +kernel
theorem dX10_image_25 : decode cX10_image 25 = .ok (.aload_n 0, 1) := by decide +kernel
theorem dX10_image_26 : decode cX10_image 26 = .ok (.getfield 49, 3) := by decide +kernel
theorem dX10_image_29 : decode cX10_image 29 = .ok (.invokestatic 186, 3) := by decide +kernel
theorem dX10_image_32 : decode cX10_image 32 = .ok (.aload_n 0, 1) := by decide +kernel
theorem dX10_image_33 : decode cX10_image 33 = .ok (.getfield 19, 3) := by decide +kernel
theorem dX10_image_36 : decode cX10_image 36 = .ok (.aload_n 0, 1) := by decide +kernel
theorem dX10_image_37 : decode cX10_image 37 = .ok (.getfield 52, 3) := by decide +kernel
theorem dX10_image_40 : decode cX10_image 40 = .ok (.invokestatic 186, 3) := by decide +kernel
theorem dX10_image_43 : decode cX10_image 43 = .ok (.aload_n 0, 1) := by decide +kernel
theorem dX10_image_44 : decode cX10_image 44 = .ok (.getfield 40, 3) := by decide +kernel
theorem dX10_image_47 : decode cX10_image 47 = .ok (.aload_n 0, 1) := by decide +kernel
theorem dX10_image_48 : decode cX10_image 48 = .ok (.getfield 55, 3) := by decide +kernel
theorem dX10_image_51 : decode cX10_image 51 = .ok (.invokestatic 186, 3) := by decide +kernel
theorem dX10_image_54 : decode cX10_image 54 = .ok (.aload_n 0, 1) := by decide +kernel
theorem dX10_image_55 : decode cX10_image 55 = .ok (.aload_n 0, 1) := by decide +kernel
theorem dX10_image_56 : decode cX10_image 56 = .ok (.getfield 95, 3) := by decide +kernel
theorem dX10_image_59 : decode cX10_image 59 = .ok (.putfield 222, 3) := by decide +kernel
theorem dX10_image_62 : decode cX10_image 62 = .ok (.aload_n 0, 1) := by decide +kernel
theorem dX10_image_63 : decode cX10_image 63 = .ok (.aload_n 0, 1) := by decide +kernel
theorem dX10_image_64 : decode cX10_image 64 = .ok (.getfield 86, 3) := by decide +kernel
theorem dX10_image_67 : decode cX10_image 67 = .ok (.putfield 225, 3) := by decide +kernel
theorem dX10_image_70 : decode cX10_image 70 = .ok (.aload_n 0, 1) := by decide +kernel
theorem dX10_image_71 : decode cX10_image 71 = .ok (.aload_n 0, 1) := by decide +kernel
theorem dX10_image_72 : decode cX10_image 72 = .ok (.getfield 89, 3) := by decide +kernel
theorem dX10_image_75 : decode cX10_image 75 = .ok (.putfield 228, 3) := by decide +kernel
theorem dX10_image_78 : decode cX10_image 78 = .ok (.aload_n 0, 1) := by decide +kernel
theorem dX10_image_79 : decode cX10_image 79 = .ok (.aload_n 0, 1) := by decide +kernel
theorem dX10_image_80 : decode cX10_image 80 = .ok (.getfield 92, 3) := by decide +kernel
theorem dX10_image_83 : decode cX10_image 83 = .ok (.putfield 231, 3) := by decide +kernel
theorem dX10_image_86 : decode cX10_image 86 = .ok (.aload_n 0, 1) := by decide +kernel
theorem dX10_image_87 : decode cX10_image 87 = .ok (.aload_n 0, 1) := by decide +kernel
theorem dX10_image_88 : decode cX10_image 88 = .ok (.getfield 98, 3) := by decide +kernel
theorem dX10_image_91 : decode cX10_image 91 = .ok (.putfield 234, 3) := by decide +kernel
theorem dX10_image_94 : decode cX10_image 94 = .ok (.aload_n 0, 1) := by decide +kernel
theorem dX10_image_95 : decode cX10_image 95 = .ok (.aload_n 0, 1) := by decide +kernel
theorem dX10_image_96 : decode cX10_image 96 = .ok (.getfield 101, 3) := by decide +kernel
theorem dX10_image_99 : decode cX10_image 99 = .ok (.putfield 58, 3) := by decide +kernel
theorem dX10_image_102 : decode cX10_image 102 = .ok (.aload_n 0, 1) := by decide +kernel
theorem dX10_image_103 : decode cX10_image 103 = .ok (.getfield 92, 3) := by decide +kernel
theorem dX10_image_106 : decode cX10_image 106 = .ok (.ireturn, 1) := by decide +kernel
theorem dX10_restore_0 : decode cX10_restore 0 = .ok (.aload_n 0, 1) := by decide +kernel
theorem dX10_restore_1 : decode cX10_restore 1 = .ok (.getfield 58, 3) := by decide +kernel
theorem dX10_restore_4 : decode cX10_restore 4 = .ok (.aload_n 0, 1) := by decide +kernel
theorem dX10_restore_5 : decode cX10_restore 5 = .ok (.getfield 101, 3) := by decide +kernel
theorem dX10_restore_8 : decode cX10_restore 8 = .ok (.if_icmp .eq 6, 3) := by decide +kernel
theorem dX10_restore_11 : decode cX10_restore 11 = .ok (.bipush (-103), 2) := by decide +kernel
theorem dX10_restore_13 : decode cX10_restore 13 = .ok (.ireturn, 1) := by decide +kernel
theorem dX10_restore_14 : decode cX10_restore 14 = .ok (.aload_n 0, 1) := by decide +kernel
theorem dX10_restore_15 : decode cX10_restore 15 = .ok (.getfield 46, 3) := by decide +kernel
theorem dX10_restore_18 : decode cX10_restore 18 = .ok (.aload_n 0, 1) := by decide +kernel
theorem dX10_restore_19 : decode cX10_restore 19 = .ok (.getfield 22, 3) := by decide +kernel
theorem dX10_restore_22 : decode cX10_restore 22 = .ok (.invokestatic 186, 3) := by decide +kernel
theorem dX10_restore_25 : decode cX10_restore 25 = .ok (.aload_n 0, 1) := by decide +kernel
theorem dX10_restore_26 : decode cX10_restore 26 = .ok (.getfield 49, 3) := by decide +kernel
theorem dX10_restore_29 : decode cX10_restore 29 = .ok (.aload_n 0, 1) := by decide +kernel
theorem dX10_restore_30 : decode cX10_restore 30 = .ok (.getfield 16, 3) := by decide +kernel
theorem dX10_restore_33 : decode cX10_restore 33 = .ok (.invokestatic 186, 3) := by decide +kernel
theorem dX10_restore_36 : decode cX10_restore 36 = .ok (.aload_n 0, 1) := by decide +kernel
theorem dX10_restore_37 : decode cX10_restore 37 = .ok (.getfield 52, 3) := by decide +kernel
theorem dX10_restore_40 : decode cX10_restore 40 = .ok (.aload_n 0, 1) := by decide +kernel
theorem dX10_restore_41 : decode cX10_restore 41 = .ok (.getfield 19, 3) := by decide +kernel
theorem dX10_restore_44 : decode cX10_restore 44 = .ok (.invokestatic 186, 3) := by decide +kernel
theorem dX10_restore_47 : decode cX10_restore 47 = .ok (.aload_n 0, 1) := by decide +kernel
theorem dX10_restore_48 : decode cX10_restore 48 = .ok (.getfield 55, 3) := by decide +kernel
theorem dX10_restore_51 : decode cX10_restore 51 = .ok (.aload_n 0, 1) := by decide +kernel
theorem dX10_restore_52 : decode cX10_restore 52 = .ok (.getfield 40, 3) := by decide +kernel
theorem dX10_restore_55 : decode cX10_restore 55 = .ok (.invokestatic 186, 3) := by decide +kernel
theorem dX10_restore_58 : decode cX10_restore 58 = .ok (.aload_n 0, 1) := by decide +kernel
theorem dX10_restore_59 : decode cX10_restore 59 = .ok (.aload_n 0, 1) := by decide +kernel
theorem dX10_restore_60 : decode cX10_restore 60 = .ok (.getfield 222, 3) := by decide +kernel
theorem dX10_restore_63 : decode cX10_restore 63 = .ok (.putfield 95, 3) := by decide +kernel
theorem dX10_restore_66 : decode cX10_restore 66 = .ok (.aload_n 0, 1) := by decide +kernel
theorem dX10_restore_67 : decode cX10_restore 67 = .ok (.aload_n 0, 1) := by decide +kernel
theorem dX10_restore_68 : decode cX10_restore 68 = .ok (.getfield 225, 3) := by decide +kernel
theorem dX10_restore_71 : decode cX10_restore 71 = .ok (.putfield 86, 3) := by decide +kernel
theorem dX10_restore_74 : decode cX10_restore 74 = .ok (.aload_n 0, 1) := by decide +kernel
theorem dX10_restore_75 : decode cX10_restore 75 = .ok (.aload_n 0, 1) := by decide +kernel
theorem dX10_restore_76 : decode cX10_restore 76 = .ok (.getfield 228, 3) := by decide +kernel
theorem dX10_restore_79 : decode cX10_restore 79 = .ok (.putfield 89, 3) := by decide +kernel
theorem dX10_restore_82 : decode cX10_restore 82 = .ok (.aload_n 0, 1) := by decide +kernel
theorem dX10_restore_83 : decode cX10_restore 83 = .ok (.aload_n 0, 1) := by decide +kernel
theorem dX10_restore_84 : decode cX10_restore 84 = .ok (.getfield 231, 3) := by decide +kernel
theorem dX10_restore_87 : decode cX10_restore 87 = .ok (.putfield 92, 3) := by decide +kernel
theorem dX10_restore_90 : decode cX10_restore 90 = .ok (.aload_n 0, 1) := by decide +kernel
theorem dX10_restore_91 : decode cX10_restore 91 = .ok (.aload_n 0, 1) := by decide +kernel
theorem dX10_restore_92 : decode cX10_restore 92 = .ok (.getfield 234, 3) := by decide +kernel
theorem dX10_restore_95 : decode cX10_restore 95 = .ok (.putfield 98, 3) := by decide +kernel
theorem dX10_restore_98 : decode cX10_restore 98 = .ok (.aload_n 0, 1) := by decide +kernel
theorem dX10_restore_99 : decode cX10_restore 99 = .ok (.getfield 92, 3) := by decide +kernel
theorem dX10_restore_102 : decode cX10_restore 102 = .ok (.ireturn, 1) := by decide +kernel
theorem dX10_burning_0 : decode cX10_burning 0 = .ok (.iconst 0, 1) := by decide +kernel
theorem dX10_burning_1 : decode cX10_burning 1 = .ok (.istore_n 1, 1) := by decide +kernel
theorem dX10_burning_2 : decode cX10_burning 2 = .ok (.iconst 0, 1) := by decide +kernel
theorem dX10_burning_3 : decode cX10_burning 3 = .ok (.istore_n 2, 1) := by decide +kernel
theorem dX10_burning_4 : decode cX10_burning 4 = .ok (.iload_n 2, 1) := by decide +kernel
theorem dX10_burning_5 : decode cX10_burning 5 = .ok (.aload_n 0, 1) := by decide +kernel
theorem dX10_burning_6 : decode cX10_burning 6 = .ok (.getfield 95, 3) := by decide +kernel
theorem dX10_burning_9 : decode cX10_burning 9 = .ok (.if_icmp .ge 23, 3) := by decide +kernel
theorem dX10_burning_12 : decode cX10_burning 12 = .ok (.iload_n 1, 1) := by decide +kernel
theorem dX10_burning_13 : decode cX10_burning 13 = .ok (.aload_n 0, 1) := by decide +kernel
theorem dX10_burning_14 : decode cX10_burning 14 = .ok (.getfield 22, 3) := by decide +kernel
theorem dX10_burning_17 : decode cX10_burning 17 = .ok (.bipush 6, 2) := by decide +kernel
theorem dX10_burning_19 : decode cX10_burning 19 = .ok (.iload_n 2, 1) := by decide +kernel
theorem dX10_burning_20 : decode cX10_burning 20 = .ok (.imul, 1) := by decide +kernel
theorem dX10_burning_21 : decode cX10_burning 21 = .ok (.iconst 4, 1) := by decide +kernel
theorem dX10_burning_22 : decode cX10_burning 22 = .ok (.iadd, 1) := by decide +kernel
theorem dX10_burning_23 : decode cX10_burning 23 = .ok (.iaload, 1) := by decide +kernel
theorem dX10_burning_24 : decode cX10_burning 24 = .ok (.iadd, 1) := by decide +kernel
theorem dX10_burning_25 : decode cX10_burning 25 = .ok (.istore_n 1, 1) := by decide +kernel
theorem dX10_burning_26 : decode cX10_burning 26 = .ok (.iinc 2 1, 3) := by decide +kernel
theorem dX10_burning_29 : decode cX10_burning 29 = .ok (.goto (-25), 3) := by decide +kernel
theorem dX10_burning_32 : decode cX10_burning 32 = .ok (.iload_n 1, 1) := by decide +kernel
theorem dX10_burning_33 : decode cX10_burning 33 = .ok (.ireturn, 1) := by decide +kernel
theorem dX10_somebodys_0 : decode cX10_somebodys 0 = .ok (.aload_n 0, 1) := by decide +kernel
theorem dX10_somebodys_1 : decode cX10_somebodys 1 = .ok (.invokevirtual 149, 3) := by decide +kernel
theorem dX10_somebodys_4 : decode cX10_somebodys 4 = .ok (.iconst 0, 1) := by decide +kernel
theorem dX10_somebodys_5 : decode cX10_somebodys 5 = .ok (.istore_n 1, 1) := by decide +kernel
theorem dX10_somebodys_6 : decode cX10_somebodys 6 = .ok (.iconst 0, 1) := by decide +kernel
theorem dX10_somebodys_7 : decode cX10_somebodys 7 = .ok (.istore_n 2, 1) := by decide +kernel
theorem dX10_somebodys_8 : decode cX10_somebodys 8 = .ok (.iload_n 2, 1) := by decide +kernel
theorem dX10_somebodys_9 : decode cX10_somebodys 9 = .ok (.bipush 8, 2) := by decide +kernel
theorem dX10_somebodys_11 : decode cX10_somebodys 11 = .ok (.if_icmp .ge 27, 3) := by decide +kernel
theorem dX10_somebodys_14 : decode cX10_somebodys 14 = .ok (.iload_n 1, 1) := by decide +kernel
theorem dX10_somebodys_15 : decode cX10_somebodys 15 = .ok (.aload_n 0, 1) := by decide +kernel
theorem dX10_somebodys_16 : decode cX10_somebodys 16 = .ok (.getfield 28, 3) := by decide +kernel
theorem dX10_somebodys_19 : decode cX10_somebodys 19 = .ok (.iload_n 2, 1) := by decide +kernel
theorem dX10_somebodys_20 : decode cX10_somebodys 20 = .ok (.iaload, 1) := by decide +kernel
theorem dX10_somebodys_21 : decode cX10_somebodys 21 = .ok (.iconst (-1), 1) := by decide +kernel
theorem dX10_somebodys_22 : decode cX10_somebodys 22 = .ok (.if_icmp .ne 7, 3) := by decide +kernel
theorem dX10_somebodys_25 : decode cX10_somebodys 25 = .ok (.iconst 0, 1) := by decide +kernel
theorem dX10_somebodys_26 : decode cX10_somebodys 26 = .ok (.goto 4, 3) := by decide +kernel
theorem dX10_somebodys_29 : decode cX10_somebodys 29 = .ok (.iconst 1, 1) := by decide +kernel
theorem dX10_somebodys_30 : decode cX10_somebodys 30 = .ok (.iadd, 1) := by decide +kernel
theorem dX10_somebodys_31 : decode cX10_somebodys 31 = .ok (.istore_n 1, 1) := by decide +kernel
theorem dX10_somebodys_32 : decode cX10_somebodys 32 = .ok (.iinc 2 1, 3) := by decide +kernel
theorem dX10_somebodys_35 : decode cX10_somebodys 35 = .ok (.goto (-27), 3) := by decide +kernel
theorem dX10_somebodys_38 : decode cX10_somebodys 38 = .ok (.iload_n 1, 1) := by decide +kernel
theorem dX10_somebodys_39 : decode cX10_somebodys 39 = .ok (.ireturn, 1) := by decide +kernel
theorem dX10_countOf_0 : decode cX10_countOf 0 = .ok (.iload_n 1, 1) := by decide +kernel
theorem dX10_countOf_1 : decode cX10_countOf 1 = .ok (.tableswitch 154 0 15 #[79, 84, 89, 94, 99, 104, 109, 114, 114, 114, 124, 129, 134, 139, 144, 149], 79) := by decide +kernel
theorem dX10_countOf_80 : decode cX10_countOf 80 = .ok (.aload_n 0, 1) := by decide +kernel
theorem dX10_countOf_81 : decode cX10_countOf 81 = .ok (.invokevirtual 104, 3) := by decide +kernel
theorem dX10_countOf_84 : decode cX10_countOf 84 = .ok (.ireturn, 1) := by decide +kernel
theorem dX10_countOf_85 : decode cX10_countOf 85 = .ok (.aload_n 0, 1) := by decide +kernel
theorem dX10_countOf_86 : decode cX10_countOf 86 = .ok (.getfield 83, 3) := by decide +kernel
theorem dX10_countOf_89 : decode cX10_countOf 89 = .ok (.ireturn, 1) := by decide +kernel
theorem dX10_countOf_90 : decode cX10_countOf 90 = .ok (.aload_n 0, 1) := by decide +kernel
theorem dX10_countOf_91 : decode cX10_countOf 91 = .ok (.getfield 95, 3) := by decide +kernel
theorem dX10_countOf_94 : decode cX10_countOf 94 = .ok (.ireturn, 1) := by decide +kernel
theorem dX10_countOf_95 : decode cX10_countOf 95 = .ok (.aload_n 0, 1) := by decide +kernel
theorem dX10_countOf_96 : decode cX10_countOf 96 = .ok (.invokevirtual 237, 3) := by decide +kernel
theorem dX10_countOf_99 : decode cX10_countOf 99 = .ok (.ireturn, 1) := by decide +kernel
theorem dX10_countOf_100 : decode cX10_countOf 100 = .ok (.aload_n 0, 1) := by decide +kernel
theorem dX10_countOf_101 : decode cX10_countOf 101 = .ok (.getfield 86, 3) := by decide +kernel
theorem dX10_countOf_104 : decode cX10_countOf 104 = .ok (.ireturn, 1) := by decide +kernel
theorem dX10_countOf_105 : decode cX10_countOf 105 = .ok (.aload_n 0, 1) := by decide +kernel
theorem dX10_countOf_106 : decode cX10_countOf 106 = .ok (.getfield 89, 3) := by decide +kernel
theorem dX10_countOf_109 : decode cX10_countOf 109 = .ok (.ireturn, 1) := by decide +kernel
theorem dX10_countOf_110 : decode cX10_countOf 110 = .ok (.aload_n 0, 1) := by decide +kernel
theorem dX10_countOf_111 : decode cX10_countOf 111 = .ok (.getfield 92, 3) := by decide +kernel
theorem dX10_countOf_114 : decode cX10_countOf 114 = .ok (.ireturn, 1) := by decide +kernel
theorem dX10_countOf_115 : decode cX10_countOf 115 = .ok (.aload_n 0, 1) := by decide +kernel
theorem dX10_countOf_116 : decode cX10_countOf 116 = .ok (.getfield 19, 3) := by decide +kernel
theorem dX10_countOf_119 : decode cX10_countOf 119 = .ok (.iload_n 1, 1) := by decide +kernel
theorem dX10_countOf_120 : decode cX10_countOf 120 = .ok (.bipush 7, 2) := by decide +kernel
theorem dX10_countOf_122 : decode cX10_countOf 122 = .ok (.isub, 1) := by decide +kernel
theorem dX10_countOf_123 : decode cX10_countOf 123 = .ok (.iaload, 1) := by decide +kernel
theorem dX10_countOf_124 : decode cX10_countOf 124 = .ok (.ireturn, 1) := by decide +kernel
theorem dX10_countOf_125 : decode cX10_countOf 125 = .ok (.aload_n 0, 1) := by decide +kernel
theorem dX10_countOf_126 : decode cX10_countOf 126 = .ok (.invokevirtual 240, 3) := by decide +kernel
theorem dX10_countOf_129 : decode cX10_countOf 129 = .ok (.ireturn, 1) := by decide +kernel
theorem dX10_countOf_130 : decode cX10_countOf 130 = .ok (.aload_n 0, 1) := by decide +kernel
theorem dX10_countOf_131 : decode cX10_countOf 131 = .ok (.getfield 98, 3) := by decide +kernel
theorem dX10_countOf_134 : decode cX10_countOf 134 = .ok (.ireturn, 1) := by decide +kernel
theorem dX10_countOf_135 : decode cX10_countOf 135 = .ok (.aload_n 0, 1) := by decide +kernel
theorem dX10_countOf_136 : decode cX10_countOf 136 = .ok (.getfield 68, 3) := by decide +kernel
theorem dX10_countOf_139 : decode cX10_countOf 139 = .ok (.ireturn, 1) := by decide +kernel
theorem dX10_countOf_140 : decode cX10_countOf 140 = .ok (.aload_n 0, 1) := by decide +kernel
theorem dX10_countOf_141 : decode cX10_countOf 141 = .ok (.getfield 101, 3) := by decide +kernel
theorem dX10_countOf_144 : decode cX10_countOf 144 = .ok (.ireturn, 1) := by decide +kernel
theorem dX10_countOf_145 : decode cX10_countOf 145 = .ok (.aload_n 0, 1) := by decide +kernel
theorem dX10_countOf_146 : decode cX10_countOf 146 = .ok (.getfield 183, 3) := by decide +kernel
theorem dX10_countOf_149 : decode cX10_countOf 149 = .ok (.ireturn, 1) := by decide +kernel
theorem dX10_countOf_150 : decode cX10_countOf 150 = .ok (.aload_n 0, 1) := by decide +kernel
theorem dX10_countOf_151 : decode cX10_countOf 151 = .ok (.getfield 201, 3) := by decide +kernel
theorem dX10_countOf_154 : decode cX10_countOf 154 = .ok (.ireturn, 1) := by decide +kernel
theorem dX10_countOf_155 : decode cX10_countOf 155 = .ok (.bipush (-102), 2) := by decide +kernel
theorem dX10_countOf_157 : decode cX10_countOf 157 = .ok (.ireturn, 1) := by decide +kernel
theorem dX10_count_0 : decode cX10_count 0 = .ok (.aload_n 0, 1) := by decide +kernel
theorem dX10_count_1 : decode cX10_count 1 = .ok (.iload_n 1, 1) := by decide +kernel
theorem dX10_count_2 : decode cX10_count 2 = .ok (.invokevirtual 243, 3) := by decide +kernel
theorem dX10_count_5 : decode cX10_count 5 = .ok (.ireturn, 1) := by decide +kernel
theorem dX10_say_0 : decode cX10_say 0 = .ok (.aload_n 0, 1) := by decide +kernel
theorem dX10_say_1 : decode cX10_say 1 = .ok (.ldc2_w 246, 3) := by decide +kernel
theorem dX10_say_4 : decode cX10_say 4 = .ok (.aload_n 0, 1) := by decide +kernel
theorem dX10_say_5 : decode cX10_say 5 = .ok (.getfield 248, 3) := by decide +kernel
theorem dX10_say_8 : decode cX10_say 8 = .ok (.lmul, 1) := by decide +kernel
theorem dX10_say_9 : decode cX10_say 9 = .ok (.lload_n 1, 1) := by decide +kernel
theorem dX10_say_10 : decode cX10_say 10 = .ok (.ladd, 1) := by decide +kernel
theorem dX10_say_11 : decode cX10_say 11 = .ok (.putfield 248, 3) := by decide +kernel
theorem dX10_say_14 : decode cX10_say 14 = .ok (.return_, 1) := by decide +kernel
theorem dX10_sayCell_0 : decode cX10_sayCell 0 = .ok (.iconst 0, 1) := by decide +kernel
theorem dX10_sayCell_1 : decode cX10_sayCell 1 = .ok (.istore_n 2, 1) := by decide +kernel
theorem dX10_sayCell_2 : decode cX10_sayCell 2 = .ok (.iload_n 2, 1) := by decide +kernel
theorem dX10_sayCell_3 : decode cX10_sayCell 3 = .ok (.iconst 5, 1) := by decide +kernel
theorem dX10_sayCell_4 : decode cX10_sayCell 4 = .ok (.if_icmp .ge 20, 3) := by decide +kernel
theorem dX10_sayCell_7 : decode cX10_sayCell 7 = .ok (.aload_n 0, 1) := by decide +kernel
theorem dX10_sayCell_8 : decode cX10_sayCell 8 = .ok (.aload_n 0, 1) := by decide +kernel
theorem dX10_sayCell_9 : decode cX10_sayCell 9 = .ok (.iload_n 1, 1) := by decide +kernel
theorem dX10_sayCell_10 : decode cX10_sayCell 10 = .ok (.iload_n 2, 1) := by decide +kernel
theorem dX10_sayCell_11 : decode cX10_sayCell 11 = .ok (.invokevirtual 155, 3) := by decide +kernel
theorem dX10_sayCell_14 : decode cX10_sayCell 14 = .ok (.i2l, 1) := by decide +kernel
theorem dX10_sayCell_15 : decode cX10_sayCell 15 = .ok (.invokevirtual 252, 3) := by decide +kernel
theorem dX10_sayCell_18 : decode cX10_sayCell 18 = .ok (.iinc 2 1, 3) := by decide +kernel
theorem dX10_sayCell_21 : decode cX10_sayCell 21 = .ok (.goto (-19), 3) := by decide +kernel
theorem dX10_sayCell_24 : decode cX10_sayCell 24 = .ok (.iconst 0, 1) := by decide +kernel
theorem dX10_sayCell_25 : decode cX10_sayCell 25 = .ok (.istore_n 2, 1) := by decide +kernel
theorem dX10_sayCell_26 : decode cX10_sayCell 26 = .ok (.iload_n 2, 1) := by decide +kernel
theorem dX10_sayCell_27 : decode cX10_sayCell 27 = .ok (.iconst 3, 1) := by decide +kernel
theorem dX10_sayCell_28 : decode cX10_sayCell 28 = .ok (.if_icmp .ge 20, 3) := by decide +kernel
theorem dX10_sayCell_31 : decode cX10_sayCell 31 = .ok (.aload_n 0, 1) := by decide +kernel
theorem dX10_sayCell_32 : decode cX10_sayCell 32 = .ok (.aload_n 0, 1) := by decide +kernel
theorem dX10_sayCell_33 : decode cX10_sayCell 33 = .ok (.iload_n 1, 1) := by decide +kernel
theorem dX10_sayCell_34 : decode cX10_sayCell 34 = .ok (.iload_n 2, 1) := by decide +kernel
theorem dX10_sayCell_35 : decode cX10_sayCell 35 = .ok (.invokevirtual 196, 3) := by decide +kernel
theorem dX10_sayCell_38 : decode cX10_sayCell 38 = .ok (.i2l, 1) := by decide +kernel
theorem dX10_sayCell_39 : decode cX10_sayCell 39 = .ok (.invokevirtual 252, 3) := by decide +kernel
theorem dX10_sayCell_42 : decode cX10_sayCell 42 = .ok (.iinc 2 1, 3) := by decide +kernel
theorem dX10_sayCell_45 : decode cX10_sayCell 45 = .ok (.goto (-19), 3) := by decide +kernel
theorem dX10_sayCell_48 : decode cX10_sayCell 48 = .ok (.return_, 1) := by decide +kernel
theorem dX10_digest_0 : decode cX10_digest 0 = .ok (.aload_n 0, 1) := by decide +kernel
theorem dX10_digest_1 : decode cX10_digest 1 = .ok (.ldc2_w 256, 3) := by decide +kernel
theorem dX10_digest_4 : decode cX10_digest 4 = .ok (.putfield 248, 3) := by decide +kernel
theorem dX10_digest_7 : decode cX10_digest 7 = .ok (.iconst 0, 1) := by decide +kernel
theorem dX10_digest_8 : decode cX10_digest 8 = .ok (.istore_n 1, 1) := by decide +kernel
theorem dX10_digest_9 : decode cX10_digest 9 = .ok (.iload_n 1, 1) := by decide +kernel
theorem dX10_digest_10 : decode cX10_digest 10 = .ok (.bipush 8, 2) := by decide +kernel
theorem dX10_digest_12 : decode cX10_digest 12 = .ok (.if_icmp .ge 21, 3) := by decide +kernel
theorem dX10_digest_15 : decode cX10_digest 15 = .ok (.aload_n 0, 1) := by decide +kernel
theorem dX10_digest_16 : decode cX10_digest 16 = .ok (.invokevirtual 109, 3) := by decide +kernel
theorem dX10_digest_19 : decode cX10_digest 19 = .ok (.ifCond .ne 14, 3) := by decide +kernel
theorem dX10_digest_22 : decode cX10_digest 22 = .ok (.aload_n 0, 1) := by decide +kernel
theorem dX10_digest_23 : decode cX10_digest 23 = .ok (.iload_n 1, 1) := by decide +kernel
theorem dX10_digest_24 : decode cX10_digest 24 = .ok (.invokevirtual 258, 3) := by decide +kernel
theorem dX10_digest_27 : decode cX10_digest 27 = .ok (.iinc 1 1, 3) := by decide +kernel
theorem dX10_digest_30 : decode cX10_digest 30 = .ok (.goto (-21), 3) := by decide +kernel
theorem dX10_digest_33 : decode cX10_digest 33 = .ok (.iconst 0, 1) := by decide +kernel
theorem dX10_digest_34 : decode cX10_digest 34 = .ok (.istore_n 1, 1) := by decide +kernel
theorem dX10_digest_35 : decode cX10_digest 35 = .ok (.iload_n 1, 1) := by decide +kernel
theorem dX10_digest_36 : decode cX10_digest 36 = .ok (.aload_n 0, 1) := by decide +kernel
theorem dX10_digest_37 : decode cX10_digest 37 = .ok (.getfield 95, 3) := by decide +kernel
theorem dX10_digest_40 : decode cX10_digest 40 = .ok (.if_icmp .ge 34, 3) := by decide +kernel
theorem dX10_digest_43 : decode cX10_digest 43 = .ok (.iconst 0, 1) := by decide +kernel
theorem dX10_digest_44 : decode cX10_digest 44 = .ok (.istore_n 2, 1) := by decide +kernel
theorem dX10_digest_45 : decode cX10_digest 45 = .ok (.iload_n 2, 1) := by decide +kernel
theorem dX10_digest_46 : decode cX10_digest 46 = .ok (.bipush 8, 2) := by decide +kernel
theorem dX10_digest_48 : decode cX10_digest 48 = .ok (.if_icmp .ge 20, 3) := by decide +kernel
theorem dX10_digest_51 : decode cX10_digest 51 = .ok (.aload_n 0, 1) := by decide +kernel
theorem dX10_digest_52 : decode cX10_digest 52 = .ok (.aload_n 0, 1) := by decide +kernel
theorem dX10_digest_53 : decode cX10_digest 53 = .ok (.iload_n 1, 1) := by decide +kernel
theorem dX10_digest_54 : decode cX10_digest 54 = .ok (.iload_n 2, 1) := by decide +kernel
theorem dX10_digest_55 : decode cX10_digest 55 = .ok (.invokevirtual 170, 3) := by decide +kernel
theorem dX10_digest_58 : decode cX10_digest 58 = .ok (.i2l, 1) := by decide +kernel
theorem dX10_digest_59 : decode cX10_digest 59 = .ok (.invokevirtual 252, 3) := by decide +kernel
theorem dX10_digest_62 : decode cX10_digest 62 = .ok (.iinc 2 1, 3) := by decide +kernel
theorem dX10_digest_65 : decode cX10_digest 65 = .ok (.goto (-20), 3) := by decide +kernel
theorem dX10_digest_68 : decode cX10_digest 68 = .ok (.iinc 1 1, 3) := by decide +kernel
theorem dX10_digest_71 : decode cX10_digest 71 = .ok (.goto (-36), 3) := by decide +kernel
theorem dX10_digest_74 : decode cX10_digest 74 = .ok (.aload_n 0, 1) := by decide +kernel
theorem dX10_digest_75 : decode cX10_digest 75 = .ok (.aload_n 0, 1) := by decide +kernel
theorem dX10_digest_76 : decode cX10_digest 76 = .ok (.invokevirtual 109, 3) := by decide +kernel
theorem dX10_digest_79 : decode cX10_digest 79 = .ok (.ifCond .eq 7, 3) := by decide +kernel
theorem dX10_digest_82 : decode cX10_digest 82 = .ok (.lconst 0, 1) := by decide +kernel
theorem dX10_digest_83 : decode cX10_digest 83 = .ok (.goto 8, 3) := by decide +kernel
theorem dX10_digest_86 : decode cX10_digest 86 = .ok (.aload_n 0, 1) := by decide +kernel
theorem dX10_digest_87 : decode cX10_digest 87 = .ok (.invokevirtual 158, 3) := by decide +kernel
theorem dX10_digest_90 : decode cX10_digest 90 = .ok (.i2l, 1) := by decide +kernel
theorem dX10_digest_91 : decode cX10_digest 91 = .ok (.invokevirtual 252, 3) := by decide +kernel
theorem dX10_digest_94 : decode cX10_digest 94 = .ok (.iconst 0, 1) := by decide +kernel
theorem dX10_digest_95 : decode cX10_digest 95 = .ok (.istore_n 1, 1) := by decide +kernel
theorem dX10_digest_96 : decode cX10_digest 96 = .ok (.iload_n 1, 1) := by decide +kernel
theorem dX10_digest_97 : decode cX10_digest 97 = .ok (.aload_n 0, 1) := by decide +kernel
theorem dX10_digest_98 : decode cX10_digest 98 = .ok (.getfield 68, 3) := by decide +kernel
theorem dX10_digest_101 : decode cX10_digest 101 = .ok (.if_icmp .ge 20, 3) := by decide +kernel
theorem dX10_digest_104 : decode cX10_digest 104 = .ok (.aload_n 0, 1) := by decide +kernel
theorem dX10_digest_105 : decode cX10_digest 105 = .ok (.aload_n 0, 1) := by decide +kernel
theorem dX10_digest_106 : decode cX10_digest 106 = .ok (.getfield 7, 3) := by decide +kernel
theorem dX10_digest_109 : decode cX10_digest 109 = .ok (.iload_n 1, 1) := by decide +kernel
theorem dX10_digest_110 : decode cX10_digest 110 = .ok (.iaload, 1) := by decide +kernel
theorem dX10_digest_111 : decode cX10_digest 111 = .ok (.i2l, 1) := by decide +kernel
theorem dX10_digest_112 : decode cX10_digest 112 = .ok (.invokevirtual 252, 3) := by decide +kernel
theorem dX10_digest_115 : decode cX10_digest 115 = .ok (.iinc 1 1, 3) := by decide +kernel
theorem dX10_digest_118 : decode cX10_digest 118 = .ok (.goto (-22), 3) := by decide +kernel
theorem dX10_digest_121 : decode cX10_digest 121 = .ok (.iconst 0, 1) := by decide +kernel
theorem dX10_digest_122 : decode cX10_digest 122 = .ok (.istore_n 1, 1) := by decide +kernel
theorem dX10_digest_123 : decode cX10_digest 123 = .ok (.iload_n 1, 1) := by decide +kernel
theorem dX10_digest_124 : decode cX10_digest 124 = .ok (.bipush 16, 2) := by decide +kernel
theorem dX10_digest_126 : decode cX10_digest 126 = .ok (.if_icmp .ge 19, 3) := by decide +kernel
theorem dX10_digest_129 : decode cX10_digest 129 = .ok (.aload_n 0, 1) := by decide +kernel
theorem dX10_digest_130 : decode cX10_digest 130 = .ok (.aload_n 0, 1) := by decide +kernel
theorem dX10_digest_131 : decode cX10_digest 131 = .ok (.iload_n 1, 1) := by decide +kernel
theorem dX10_digest_132 : decode cX10_digest 132 = .ok (.invokevirtual 243, 3) := by decide +kernel
theorem dX10_digest_135 : decode cX10_digest 135 = .ok (.i2l, 1) := by decide +kernel
theorem dX10_digest_136 : decode cX10_digest 136 = .ok (.invokevirtual 252, 3) := by decide +kernel
theorem dX10_digest_139 : decode cX10_digest 139 = .ok (.iinc 1 1, 3) := by decide +kernel
theorem dX10_digest_142 : decode cX10_digest 142 = .ok (.goto (-19), 3) := by decide +kernel
theorem dX10_digest_145 : decode cX10_digest 145 = .ok (.aload_n 0, 1) := by decide +kernel
theorem dX10_digest_146 : decode cX10_digest 146 = .ok (.getfield 248, 3) := by decide +kernel
theorem dX10_digest_149 : decode cX10_digest 149 = .ok (.lreturn, 1) := by decide +kernel
theorem dJ6_bitCount_0f7a4_0 : decode cJ6_bitCount_0f7a4 0 = .ok (.iload_n 0, 1) := by decide +kernel
theorem dJ6_bitCount_0f7a4_1 : decode cJ6_bitCount_0f7a4 1 = .ok (.iload_n 0, 1) := by decide +kernel
theorem dJ6_bitCount_0f7a4_2 : decode cJ6_bitCount_0f7a4 2 = .ok (.iconst 1, 1) := by decide +kernel
theorem dJ6_bitCount_0f7a4_3 : decode cJ6_bitCount_0f7a4 3 = .ok (.iushr, 1) := by decide +kernel
theorem dJ6_bitCount_0f7a4_4 : decode cJ6_bitCount_0f7a4 4 = .ok (.ldc_w 265, 3) := by decide +kernel
theorem dJ6_bitCount_0f7a4_7 : decode cJ6_bitCount_0f7a4 7 = .ok (.iand, 1) := by decide +kernel
theorem dJ6_bitCount_0f7a4_8 : decode cJ6_bitCount_0f7a4 8 = .ok (.isub, 1) := by decide +kernel
theorem dJ6_bitCount_0f7a4_9 : decode cJ6_bitCount_0f7a4 9 = .ok (.istore_n 0, 1) := by decide +kernel
theorem dJ6_bitCount_0f7a4_10 : decode cJ6_bitCount_0f7a4 10 = .ok (.iload_n 0, 1) := by decide +kernel
theorem dJ6_bitCount_0f7a4_11 : decode cJ6_bitCount_0f7a4 11 = .ok (.ldc_w 266, 3) := by decide +kernel
theorem dJ6_bitCount_0f7a4_14 : decode cJ6_bitCount_0f7a4 14 = .ok (.iand, 1) := by decide +kernel
theorem dJ6_bitCount_0f7a4_15 : decode cJ6_bitCount_0f7a4 15 = .ok (.iload_n 0, 1) := by decide +kernel
theorem dJ6_bitCount_0f7a4_16 : decode cJ6_bitCount_0f7a4 16 = .ok (.iconst 2, 1) := by decide +kernel
theorem dJ6_bitCount_0f7a4_17 : decode cJ6_bitCount_0f7a4 17 = .ok (.iushr, 1) := by decide +kernel
theorem dJ6_bitCount_0f7a4_18 : decode cJ6_bitCount_0f7a4 18 = .ok (.ldc_w 266, 3) := by decide +kernel
theorem dJ6_bitCount_0f7a4_21 : decode cJ6_bitCount_0f7a4 21 = .ok (.iand, 1) := by decide +kernel
theorem dJ6_bitCount_0f7a4_22 : decode cJ6_bitCount_0f7a4 22 = .ok (.iadd, 1) := by decide +kernel
theorem dJ6_bitCount_0f7a4_23 : decode cJ6_bitCount_0f7a4 23 = .ok (.istore_n 0, 1) := by decide +kernel
theorem dJ6_bitCount_0f7a4_24 : decode cJ6_bitCount_0f7a4 24 = .ok (.iload_n 0, 1) := by decide +kernel
theorem dJ6_bitCount_0f7a4_25 : decode cJ6_bitCount_0f7a4 25 = .ok (.iload_n 0, 1) := by decide +kernel
theorem dJ6_bitCount_0f7a4_26 : decode cJ6_bitCount_0f7a4 26 = .ok (.iconst 4, 1) := by decide +kernel
theorem dJ6_bitCount_0f7a4_27 : decode cJ6_bitCount_0f7a4 27 = .ok (.iushr, 1) := by decide +kernel
theorem dJ6_bitCount_0f7a4_28 : decode cJ6_bitCount_0f7a4 28 = .ok (.iadd, 1) := by decide +kernel
theorem dJ6_bitCount_0f7a4_29 : decode cJ6_bitCount_0f7a4 29 = .ok (.ldc_w 267, 3) := by decide +kernel
theorem dJ6_bitCount_0f7a4_32 : decode cJ6_bitCount_0f7a4 32 = .ok (.iand, 1) := by decide +kernel
theorem dJ6_bitCount_0f7a4_33 : decode cJ6_bitCount_0f7a4 33 = .ok (.istore_n 0, 1) := by decide +kernel
theorem dJ6_bitCount_0f7a4_34 : decode cJ6_bitCount_0f7a4 34 = .ok (.iload_n 0, 1) := by decide +kernel
theorem dJ6_bitCount_0f7a4_35 : decode cJ6_bitCount_0f7a4 35 = .ok (.iload_n 0, 1) := by decide +kernel
theorem dJ6_bitCount_0f7a4_36 : decode cJ6_bitCount_0f7a4 36 = .ok (.bipush 8, 2) := by decide +kernel
theorem dJ6_bitCount_0f7a4_38 : decode cJ6_bitCount_0f7a4 38 = .ok (.iushr, 1) := by decide +kernel
theorem dJ6_bitCount_0f7a4_39 : decode cJ6_bitCount_0f7a4 39 = .ok (.iadd, 1) := by decide +kernel
theorem dJ6_bitCount_0f7a4_40 : decode cJ6_bitCount_0f7a4 40 = .ok (.istore_n 0, 1) := by decide +kernel
theorem dJ6_bitCount_0f7a4_41 : decode cJ6_bitCount_0f7a4 41 = .ok (.iload_n 0, 1) := by decide +kernel
theorem dJ6_bitCount_0f7a4_42 : decode cJ6_bitCount_0f7a4 42 = .ok (.iload_n 0, 1) := by decide +kernel
theorem dJ6_bitCount_0f7a4_43 : decode cJ6_bitCount_0f7a4 43 = .ok (.bipush 16, 2) := by decide +kernel
theorem dJ6_bitCount_0f7a4_45 : decode cJ6_bitCount_0f7a4 45 = .ok (.iushr, 1) := by decide +kernel
theorem dJ6_bitCount_0f7a4_46 : decode cJ6_bitCount_0f7a4 46 = .ok (.iadd, 1) := by decide +kernel
theorem dJ6_bitCount_0f7a4_47 : decode cJ6_bitCount_0f7a4 47 = .ok (.istore_n 0, 1) := by decide +kernel
theorem dJ6_bitCount_0f7a4_48 : decode cJ6_bitCount_0f7a4 48 = .ok (.iload_n 0, 1) := by decide +kernel
theorem dJ6_bitCount_0f7a4_49 : decode cJ6_bitCount_0f7a4 49 = .ok (.bipush 63, 2) := by decide +kernel
theorem dJ6_bitCount_0f7a4_51 : decode cJ6_bitCount_0f7a4 51 = .ok (.iand, 1) := by decide +kernel
theorem dJ6_bitCount_0f7a4_52 : decode cJ6_bitCount_0f7a4 52 = .ok (.ireturn, 1) := by decide +kernel
theorem dJ9_max_7cf53_0 : decode cJ9_max_7cf53 0 = .ok (.iload_n 0, 1) := by decide +kernel
theorem dJ9_max_7cf53_1 : decode cJ9_max_7cf53 1 = .ok (.iload_n 1, 1) := by decide +kernel
theorem dJ9_max_7cf53_2 : decode cJ9_max_7cf53 2 = .ok (.if_icmp .lt 7, 3) := by decide +kernel
theorem dJ9_max_7cf53_5 : decode cJ9_max_7cf53 5 = .ok (.iload_n 0, 1) := by decide +kernel
theorem dJ9_max_7cf53_6 : decode cJ9_max_7cf53 6 = .ok (.goto 4, 3) := by decide +kernel
theorem dJ9_max_7cf53_9 : decode cJ9_max_7cf53 9 = .ok (.iload_n 1, 1) := by decide +kernel
theorem dJ9_max_7cf53_10 : decode cJ9_max_7cf53 10 = .ok (.ireturn, 1) := by decide +kernel
theorem dJ9_min_7cf53_0 : decode cJ9_min_7cf53 0 = .ok (.iload_n 0, 1) := by decide +kernel
theorem dJ9_min_7cf53_1 : decode cJ9_min_7cf53 1 = .ok (.iload_n 1, 1) := by decide +kernel
theorem dJ9_min_7cf53_2 : decode cJ9_min_7cf53 2 = .ok (.if_icmp .gt 7, 3) := by decide +kernel
theorem dJ9_min_7cf53_5 : decode cJ9_min_7cf53 5 = .ok (.iload_n 0, 1) := by decide +kernel
theorem dJ9_min_7cf53_6 : decode cJ9_min_7cf53 6 = .ok (.goto 4, 3) := by decide +kernel
theorem dJ9_min_7cf53_9 : decode cJ9_min_7cf53 9 = .ok (.iload_n 1, 1) := by decide +kernel
theorem dJ9_min_7cf53_10 : decode cJ9_min_7cf53 10 = .ok (.ireturn, 1) := by decide +kernel
theorem dL_law_0 : decode cL_law 0 = .ok (.new 7, 3) := by decide +kernel
theorem dL_law_3 : decode cL_law 3 = .ok (.dup, 1) := by decide +kernel
theorem dL_law_4 : decode cL_law 4 = .ok (.invokespecial 9, 3) := by decide +kernel
theorem dL_law_7 : decode cL_law 7 = .ok (.astore_n 1, 1) := by decide +kernel
theorem dL_law_8 : decode cL_law 8 = .ok (.new 10, 3) := by decide +kernel
theorem dL_law_11 : decode cL_law 11 = .ok (.dup, 1) := by decide +kernel
theorem dL_law_12 : decode cL_law 12 = .ok (.invokespecial 12, 3) := by decide +kernel
theorem dL_law_15 : decode cL_law 15 = .ok (.astore_n 2, 1) := by decide +kernel
theorem dL_law_16 : decode cL_law 16 = .ok (.iconst 0, 1) := by decide +kernel
theorem dL_law_17 : decode cL_law 17 = .ok (.istore_n 3, 1) := by decide +kernel
theorem dL_law_18 : decode cL_law 18 = .ok (.iload_n 3, 1) := by decide +kernel
theorem dL_law_19 : decode cL_law 19 = .ok (.aload_n 0, 1) := by decide +kernel
theorem dL_law_20 : decode cL_law 20 = .ok (.arraylength, 1) := by decide +kernel
theorem dL_law_21 : decode cL_law 21 = .ok (.iconst 5, 1) := by decide +kernel
theorem dL_law_22 : decode cL_law 22 = .ok (.isub, 1) := by decide +kernel
theorem dL_law_23 : decode cL_law 23 = .ok (.if_icmp .gt 843, 3) := by decide +kernel
theorem dL_law_26 : decode cL_law 26 = .ok (.aload_n 0, 1) := by decide +kernel
theorem dL_law_27 : decode cL_law 27 = .ok (.iload_n 3, 1) := by decide +kernel
theorem dL_law_28 : decode cL_law 28 = .ok (.iaload, 1) := by decide +kernel
theorem dL_law_29 : decode cL_law 29 = .ok (.bipush 31, 2) := by decide +kernel
theorem dL_law_31 : decode cL_law 31 = .ok (.iand, 1) := by decide +kernel
theorem dL_law_32 : decode cL_law 32 = .ok (.tableswitch 828 0 26 #[124, 147, 160, 173, 186, 219, 232, 285, 318, 351, 400, 423, 462, 495, 508, 521, 564, 607, 640, 673, 686, 709, 722, 765, 778, 791, 814], 124) := by decide +kernel
theorem dL_law_156 : decode cL_law 156 = .ok (.aload_n 1, 1) := by decide +kernel
theorem dL_law_157 : decode cL_law 157 = .ok (.aload_n 0, 1) := by decide +kernel
theorem dL_law_158 : decode cL_law 158 = .ok (.iload_n 3, 1) := by decide +kernel
theorem dL_law_159 : decode cL_law 159 = .ok (.iconst 1, 1) := by decide +kernel
theorem dL_law_160 : decode cL_law 160 = .ok (.iadd, 1) := by decide +kernel
theorem dL_law_161 : decode cL_law 161 = .ok (.iaload, 1) := by decide +kernel
theorem dL_law_162 : decode cL_law 162 = .ok (.invokevirtual 13, 3) := by decide +kernel
theorem dL_law_165 : decode cL_law 165 = .ok (.aload_n 2, 1) := by decide +kernel
theorem dL_law_166 : decode cL_law 166 = .ok (.aload_n 0, 1) := by decide +kernel
theorem dL_law_167 : decode cL_law 167 = .ok (.iload_n 3, 1) := by decide +kernel
theorem dL_law_168 : decode cL_law 168 = .ok (.iconst 1, 1) := by decide +kernel
theorem dL_law_169 : decode cL_law 169 = .ok (.iadd, 1) := by decide +kernel
theorem dL_law_170 : decode cL_law 170 = .ok (.iaload, 1) := by decide +kernel
theorem dL_law_171 : decode cL_law 171 = .ok (.invokevirtual 17, 3) := by decide +kernel
theorem dL_law_174 : decode cL_law 174 = .ok (.if_icmp .eq 686, 3) := by decide +kernel
theorem dL_law_177 : decode cL_law 177 = .ok (.iconst 0, 1) := by decide +kernel
theorem dL_law_178 : decode cL_law 178 = .ok (.ireturn, 1) := by decide +kernel
theorem dL_law_179 : decode cL_law 179 = .ok (.aload_n 1, 1) := by decide +kernel
theorem dL_law_180 : decode cL_law 180 = .ok (.invokevirtual 18, 3) := by decide +kernel
theorem dL_law_183 : decode cL_law 183 = .ok (.aload_n 2, 1) := by decide +kernel
theorem dL_law_184 : decode cL_law 184 = .ok (.invokevirtual 22, 3) := by decide +kernel
theorem dL_law_187 : decode cL_law 187 = .ok (.if_icmp .eq 673, 3) := by decide +kernel
theorem dL_law_190 : decode cL_law 190 = .ok (.iconst 0, 1) := by decide +kernel
theorem dL_law_191 : decode cL_law 191 = .ok (.ireturn, 1) := by decide +kernel
theorem dL_law_192 : decode cL_law 192 = .ok (.aload_n 1, 1) := by decide +kernel
theorem dL_law_193 : decode cL_law 193 = .ok (.invokevirtual 23, 3) := by decide +kernel
theorem dL_law_196 : decode cL_law 196 = .ok (.aload_n 2, 1) := by decide +kernel
theorem dL_law_197 : decode cL_law 197 = .ok (.invokevirtual 26, 3) := by decide +kernel
theorem dL_law_200 : decode cL_law 200 = .ok (.if_icmp .eq 660, 3) := by decide +kernel
theorem dL_law_203 : decode cL_law 203 = .ok (.iconst 0, 1) := by decide +kernel
theorem dL_law_204 : decode cL_law 204 = .ok (.ireturn, 1) := by decide +kernel
theorem dL_law_205 : decode cL_law 205 = .ok (.aload_n 1, 1) := by decide +kernel
theorem dL_law_206 : decode cL_law 206 = .ok (.invokevirtual 27, 3) := by decide +kernel
theorem dL_law_209 : decode cL_law 209 = .ok (.aload_n 2, 1) := by decide +kernel
theorem dL_law_210 : decode cL_law 210 = .ok (.invokevirtual 30, 3) := by decide +kernel
theorem dL_law_213 : decode cL_law 213 = .ok (.if_icmp .eq 647, 3) := by decide +kernel
theorem dL_law_216 : decode cL_law 216 = .ok (.iconst 0, 1) := by decide +kernel
theorem dL_law_217 : decode cL_law 217 = .ok (.ireturn, 1) := by decide +kernel
theorem dL_law_218 : decode cL_law 218 = .ok (.aload_n 1, 1) := by decide +kernel
theorem dL_law_219 : decode cL_law 219 = .ok (.aload_n 0, 1) := by decide +kernel
theorem dL_law_220 : decode cL_law 220 = .ok (.iload_n 3, 1) := by decide +kernel
theorem dL_law_221 : decode cL_law 221 = .ok (.iconst 1, 1) := by decide +kernel
theorem dL_law_222 : decode cL_law 222 = .ok (.iadd, 1) := by decide +kernel
theorem dL_law_223 : decode cL_law 223 = .ok (.iaload, 1) := by decide +kernel
theorem dL_law_224 : decode cL_law 224 = .ok (.aload_n 0, 1) := by decide +kernel
theorem dL_law_225 : decode cL_law 225 = .ok (.iload_n 3, 1) := by decide +kernel
theorem dL_law_226 : decode cL_law 226 = .ok (.iconst 2, 1) := by decide +kernel
theorem dL_law_227 : decode cL_law 227 = .ok (.iadd, 1) := by decide +kernel
theorem dL_law_228 : decode cL_law 228 = .ok (.iaload, 1) := by decide +kernel
theorem dL_law_229 : decode cL_law 229 = .ok (.invokevirtual 31, 3) := by decide +kernel
theorem dL_law_232 : decode cL_law 232 = .ok (.aload_n 2, 1) := by decide +kernel
theorem dL_law_233 : decode cL_law 233 = .ok (.aload_n 0, 1) := by decide +kernel
theorem dL_law_234 : decode cL_law 234 = .ok (.iload_n 3, 1) := by decide +kernel
theorem dL_law_235 : decode cL_law 235 = .ok (.iconst 1, 1) := by decide +kernel
theorem dL_law_236 : decode cL_law 236 = .ok (.iadd, 1) := by decide +kernel
theorem dL_law_237 : decode cL_law 237 = .ok (.iaload, 1) := by decide +kernel
theorem dL_law_238 : decode cL_law 238 = .ok (.aload_n 0, 1) := by decide +kernel
theorem dL_law_239 : decode cL_law 239 = .ok (.iload_n 3, 1) := by decide +kernel
theorem dL_law_240 : decode cL_law 240 = .ok (.iconst 2, 1) := by decide +kernel
theorem dL_law_241 : decode cL_law 241 = .ok (.iadd, 1) := by decide +kernel
theorem dL_law_242 : decode cL_law 242 = .ok (.iaload, 1) := by decide +kernel
theorem dL_law_243 : decode cL_law 243 = .ok (.invokevirtual 35, 3) := by decide +kernel
theorem dL_law_246 : decode cL_law 246 = .ok (.if_icmp .eq 614, 3) := by decide +kernel
theorem dL_law_249 : decode cL_law 249 = .ok (.iconst 0, 1) := by decide +kernel
theorem dL_law_250 : decode cL_law 250 = .ok (.ireturn, 1) := by decide +kernel
theorem dL_law_251 : decode cL_law 251 = .ok (.aload_n 1, 1) := by decide +kernel
theorem dL_law_252 : decode cL_law 252 = .ok (.invokevirtual 36, 3) := by decide +kernel
theorem dL_law_255 : decode cL_law 255 = .ok (.aload_n 2, 1) := by decide +kernel
theorem dL_law_256 : decode cL_law 256 = .ok (.invokevirtual 39, 3) := by decide +kernel
theorem dL_law_259 : decode cL_law 259 = .ok (.if_icmp .eq 601, 3) := by decide +kernel
theorem dL_law_262 : decode cL_law 262 = .ok (.iconst 0, 1) := by decide +kernel
theorem dL_law_263 : decode cL_law 263 = .ok (.ireturn, 1) := by decide +kernel
theorem dL_law_264 : decode cL_law 264 = .ok (.aload_n 1, 1) := by decide +kernel
theorem dL_law_265 : decode cL_law 265 = .ok (.aload_n 0, 1) := by decide +kernel
theorem dL_law_266 : decode cL_law 266 = .ok (.iload_n 3, 1) := by decide +kernel
theorem dL_law_267 : decode cL_law 267 = .ok (.iconst 1, 1) := by decide +kernel
theorem dL_law_268 : decode cL_law 268 = .ok (.iadd, 1) := by decide +kernel
theorem dL_law_269 : decode cL_law 269 = .ok (.iaload, 1) := by decide +kernel
theorem dL_law_270 : decode cL_law 270 = .ok (.aload_n 0, 1) := by decide +kernel
theorem dL_law_271 : decode cL_law 271 = .ok (.iload_n 3, 1) := by decide +kernel
theorem dL_law_272 : decode cL_law 272 = .ok (.iconst 2, 1) := by decide +kernel
theorem dL_law_273 : decode cL_law 273 = .ok (.iadd, 1) := by decide +kernel
theorem dL_law_274 : decode cL_law 274 = .ok (.iaload, 1) := by decide +kernel
theorem dL_law_275 : decode cL_law 275 = .ok (.aload_n 0, 1) := by decide +kernel
theorem dL_law_276 : decode cL_law 276 = .ok (.iload_n 3, 1) := by decide +kernel
theorem dL_law_277 : decode cL_law 277 = .ok (.iconst 3, 1) := by decide +kernel
theorem dL_law_278 : decode cL_law 278 = .ok (.iadd, 1) := by decide +kernel
theorem dL_law_279 : decode cL_law 279 = .ok (.iaload, 1) := by decide +kernel
theorem dL_law_280 : decode cL_law 280 = .ok (.aload_n 0, 1) := by decide +kernel
theorem dL_law_281 : decode cL_law 281 = .ok (.iload_n 3, 1) := by decide +kernel
theorem dL_law_282 : decode cL_law 282 = .ok (.iconst 4, 1) := by decide +kernel
theorem dL_law_283 : decode cL_law 283 = .ok (.iadd, 1) := by decide +kernel
theorem dL_law_284 : decode cL_law 284 = .ok (.iaload, 1) := by decide +kernel
theorem dL_law_285 : decode cL_law 285 = .ok (.invokevirtual 40, 3) := by decide +kernel
theorem dL_law_288 : decode cL_law 288 = .ok (.aload_n 2, 1) := by decide +kernel
theorem dL_law_289 : decode cL_law 289 = .ok (.aload_n 0, 1) := by decide +kernel
theorem dL_law_290 : decode cL_law 290 = .ok (.iload_n 3, 1) := by decide +kernel
theorem dL_law_291 : decode cL_law 291 = .ok (.iconst 1, 1) := by decide +kernel
theorem dL_law_292 : decode cL_law 292 = .ok (.iadd, 1) := by decide +kernel
theorem dL_law_293 : decode cL_law 293 = .ok (.iaload, 1) := by decide +kernel
theorem dL_law_294 : decode cL_law 294 = .ok (.aload_n 0, 1) := by decide +kernel
theorem dL_law_295 : decode cL_law 295 = .ok (.iload_n 3, 1) := by decide +kernel
theorem dL_law_296 : decode cL_law 296 = .ok (.iconst 2, 1) := by decide +kernel
theorem dL_law_297 : decode cL_law 297 = .ok (.iadd, 1) := by decide +kernel
theorem dL_law_298 : decode cL_law 298 = .ok (.iaload, 1) := by decide +kernel
theorem dL_law_299 : decode cL_law 299 = .ok (.aload_n 0, 1) := by decide +kernel
theorem dL_law_300 : decode cL_law 300 = .ok (.iload_n 3, 1) := by decide +kernel
theorem dL_law_301 : decode cL_law 301 = .ok (.iconst 3, 1) := by decide +kernel
theorem dL_law_302 : decode cL_law 302 = .ok (.iadd, 1) := by decide +kernel
theorem dL_law_303 : decode cL_law 303 = .ok (.iaload, 1) := by decide +kernel
theorem dL_law_304 : decode cL_law 304 = .ok (.aload_n 0, 1) := by decide +kernel
theorem dL_law_305 : decode cL_law 305 = .ok (.iload_n 3, 1) := by decide +kernel
theorem dL_law_306 : decode cL_law 306 = .ok (.iconst 4, 1) := by decide +kernel
theorem dL_law_307 : decode cL_law 307 = .ok (.iadd, 1) := by decide +kernel
theorem dL_law_308 : decode cL_law 308 = .ok (.iaload, 1) := by decide +kernel
theorem dL_law_309 : decode cL_law 309 = .ok (.invokevirtual 44, 3) := by decide +kernel
theorem dL_law_312 : decode cL_law 312 = .ok (.if_icmp .eq 548, 3) := by decide +kernel
theorem dL_law_315 : decode cL_law 315 = .ok (.iconst 0, 1) := by decide +kernel
theorem dL_law_316 : decode cL_law 316 = .ok (.ireturn, 1) := by decide +kernel
theorem dL_law_317 : decode cL_law 317 = .ok (.aload_n 1, 1) := by decide +kernel
theorem dL_law_318 : decode cL_law 318 = .ok (.aload_n 0, 1) := by decide +kernel
theorem dL_law_319 : decode cL_law 319 = .ok (.iload_n 3, 1) := by decide +kernel
theorem dL_law_320 : decode cL_law 320 = .ok (.iconst 1, 1) := by decide +kernel
theorem dL_law_321 : decode cL_law 321 = .ok (.iadd, 1) := by decide +kernel
theorem dL_law_322 : decode cL_law 322 = .ok (.iaload, 1) := by decide +kernel
theorem dL_law_323 : decode cL_law 323 = .ok (.aload_n 0, 1) := by decide +kernel
theorem dL_law_324 : decode cL_law 324 = .ok (.iload_n 3, 1) := by decide +kernel
theorem dL_law_325 : decode cL_law 325 = .ok (.iconst 2, 1) := by decide +kernel
theorem dL_law_326 : decode cL_law 326 = .ok (.iadd, 1) := by decide +kernel
theorem dL_law_327 : decode cL_law 327 = .ok (.iaload, 1) := by decide +kernel
theorem dL_law_328 : decode cL_law 328 = .ok (.invokevirtual 45, 3) := by decide +kernel
theorem dL_law_331 : decode cL_law 331 = .ok (.aload_n 2, 1) := by decide +kernel
theorem dL_law_332 : decode cL_law 332 = .ok (.aload_n 0, 1) := by decide +kernel
theorem dL_law_333 : decode cL_law 333 = .ok (.iload_n 3, 1) := by decide +kernel
theorem dL_law_334 : decode cL_law 334 = .ok (.iconst 1, 1) := by decide +kernel
theorem dL_law_335 : decode cL_law 335 = .ok (.iadd, 1) := by decide +kernel
theorem dL_law_336 : decode cL_law 336 = .ok (.iaload, 1) := by decide +kernel
theorem dL_law_337 : decode cL_law 337 = .ok (.aload_n 0, 1) := by decide +kernel
theorem dL_law_338 : decode cL_law 338 = .ok (.iload_n 3, 1) := by decide +kernel
theorem dL_law_339 : decode cL_law 339 = .ok (.iconst 2, 1) := by decide +kernel
theorem dL_law_340 : decode cL_law 340 = .ok (.iadd, 1) := by decide +kernel
theorem dL_law_341 : decode cL_law 341 = .ok (.iaload, 1) := by decide +kernel
theorem dL_law_342 : decode cL_law 342 = .ok (.invokevirtual 48, 3) := by decide +kernel
theorem dL_law_345 : decode cL_law 345 = .ok (.if_icmp .eq 515, 3) := by decide +kernel
theorem dL_law_348 : decode cL_law 348 = .ok (.iconst 0, 1) := by decide +kernel
theorem dL_law_349 : decode cL_law 349 = .ok (.ireturn, 1) := by decide +kernel
theorem dL_law_350 : decode cL_law 350 = .ok (.aload_n 1, 1) := by decide +kernel
theorem dL_law_351 : decode cL_law 351 = .ok (.aload_n 0, 1) := by decide +kernel
theorem dL_law_352 : decode cL_law 352 = .ok (.iload_n 3, 1) := by decide +kernel
theorem dL_law_353 : decode cL_law 353 = .ok (.iconst 1, 1) := by decide +kernel
theorem dL_law_354 : decode cL_law 354 = .ok (.iadd, 1) := by decide +kernel
theorem dL_law_355 : decode cL_law 355 = .ok (.iaload, 1) := by decide +kernel
theorem dL_law_356 : decode cL_law 356 = .ok (.aload_n 0, 1) := by decide +kernel
theorem dL_law_357 : decode cL_law 357 = .ok (.iload_n 3, 1) := by decide +kernel
theorem dL_law_358 : decode cL_law 358 = .ok (.iconst 2, 1) := by decide +kernel
theorem dL_law_359 : decode cL_law 359 = .ok (.iadd, 1) := by decide +kernel
theorem dL_law_360 : decode cL_law 360 = .ok (.iaload, 1) := by decide +kernel
theorem dL_law_361 : decode cL_law 361 = .ok (.invokevirtual 49, 3) := by decide +kernel
theorem dL_law_364 : decode cL_law 364 = .ok (.aload_n 2, 1) := by decide +kernel
theorem dL_law_365 : decode cL_law 365 = .ok (.aload_n 0, 1) := by decide +kernel
theorem dL_law_366 : decode cL_law 366 = .ok (.iload_n 3, 1) := by decide +kernel
theorem dL_law_367 : decode cL_law 367 = .ok (.iconst 1, 1) := by decide +kernel
theorem dL_law_368 : decode cL_law 368 = .ok (.iadd, 1) := by decide +kernel
theorem dL_law_369 : decode cL_law 369 = .ok (.iaload, 1) := by decide +kernel
theorem dL_law_370 : decode cL_law 370 = .ok (.aload_n 0, 1) := by decide +kernel
theorem dL_law_371 : decode cL_law 371 = .ok (.iload_n 3, 1) := by decide +kernel
theorem dL_law_372 : decode cL_law 372 = .ok (.iconst 2, 1) := by decide +kernel
theorem dL_law_373 : decode cL_law 373 = .ok (.iadd, 1) := by decide +kernel
theorem dL_law_374 : decode cL_law 374 = .ok (.iaload, 1) := by decide +kernel
theorem dL_law_375 : decode cL_law 375 = .ok (.invokevirtual 52, 3) := by decide +kernel
theorem dL_law_378 : decode cL_law 378 = .ok (.if_icmp .eq 482, 3) := by decide +kernel
theorem dL_law_381 : decode cL_law 381 = .ok (.iconst 0, 1) := by decide +kernel
theorem dL_law_382 : decode cL_law 382 = .ok (.ireturn, 1) := by decide +kernel
theorem dL_law_383 : decode cL_law 383 = .ok (.aload_n 1, 1) := by decide +kernel
theorem dL_law_384 : decode cL_law 384 = .ok (.aload_n 0, 1) := by decide +kernel
theorem dL_law_385 : decode cL_law 385 = .ok (.iload_n 3, 1) := by decide +kernel
theorem dL_law_386 : decode cL_law 386 = .ok (.iconst 1, 1) := by decide +kernel
theorem dL_law_387 : decode cL_law 387 = .ok (.iadd, 1) := by decide +kernel
theorem dL_law_388 : decode cL_law 388 = .ok (.iaload, 1) := by decide +kernel
theorem dL_law_389 : decode cL_law 389 = .ok (.aload_n 0, 1) := by decide +kernel
theorem dL_law_390 : decode cL_law 390 = .ok (.iload_n 3, 1) := by decide +kernel
theorem dL_law_391 : decode cL_law 391 = .ok (.iconst 2, 1) := by decide +kernel
theorem dL_law_392 : decode cL_law 392 = .ok (.iadd, 1) := by decide +kernel
theorem dL_law_393 : decode cL_law 393 = .ok (.iaload, 1) := by decide +kernel
theorem dL_law_394 : decode cL_law 394 = .ok (.ifCond .eq 7, 3) := by decide +kernel
theorem dL_law_397 : decode cL_law 397 = .ok (.iconst 1, 1) := by decide +kernel
theorem dL_law_398 : decode cL_law 398 = .ok (.goto 4, 3) := by decide +kernel
theorem dL_law_401 : decode cL_law 401 = .ok (.iconst 0, 1) := by decide +kernel
theorem dL_law_402 : decode cL_law 402 = .ok (.invokevirtual 53, 3) := by decide +kernel
theorem dL_law_405 : decode cL_law 405 = .ok (.aload_n 2, 1) := by decide +kernel
theorem dL_law_406 : decode cL_law 406 = .ok (.aload_n 0, 1) := by decide +kernel
theorem dL_law_407 : decode cL_law 407 = .ok (.iload_n 3, 1) := by decide +kernel
theorem dL_law_408 : decode cL_law 408 = .ok (.iconst 1, 1) := by decide +kernel
theorem dL_law_409 : decode cL_law 409 = .ok (.iadd, 1) := by decide +kernel
theorem dL_law_410 : decode cL_law 410 = .ok (.iaload, 1) := by decide +kernel
theorem dL_law_411 : decode cL_law 411 = .ok (.aload_n 0, 1) := by decide +kernel
theorem dL_law_412 : decode cL_law 412 = .ok (.iload_n 3, 1) := by decide +kernel
theorem dL_law_413 : decode cL_law 413 = .ok (.iconst 2, 1) := by decide +kernel
theorem dL_law_414 : decode cL_law 414 = .ok (.iadd, 1) := by decide +kernel
theorem dL_law_415 : decode cL_law 415 = .ok (.iaload, 1) := by decide +kernel
theorem dL_law_416 : decode cL_law 416 = .ok (.ifCond .eq 7, 3) := by decide +kernel
theorem dL_law_419 : decode cL_law 419 = .ok (.iconst 1, 1) := by decide +kernel
theorem dL_law_420 : decode cL_law 420 = .ok (.goto 4, 3) := by decide +kernel
theorem dL_law_423 : decode cL_law 423 = .ok (.iconst 0, 1) := by decide +kernel
theorem dL_law_424 : decode cL_law 424 = .ok (.invokevirtual 57, 3) := by decide +kernel
theorem dL_law_427 : decode cL_law 427 = .ok (.if_icmp .eq 433, 3) := by decide +kernel
theorem dL_law_430 : decode cL_law 430 = .ok (.iconst 0, 1) := by decide +kernel
theorem dL_law_431 : decode cL_law 431 = .ok (.ireturn, 1) := by decide +kernel
theorem dL_law_432 : decode cL_law 432 = .ok (.aload_n 1, 1) := by decide +kernel
theorem dL_law_433 : decode cL_law 433 = .ok (.aload_n 0, 1) := by decide +kernel
theorem dL_law_434 : decode cL_law 434 = .ok (.iload_n 3, 1) := by decide +kernel
theorem dL_law_435 : decode cL_law 435 = .ok (.iconst 1, 1) := by decide +kernel
theorem dL_law_436 : decode cL_law 436 = .ok (.iadd, 1) := by decide +kernel
theorem dL_law_437 : decode cL_law 437 = .ok (.iaload, 1) := by decide +kernel
theorem dL_law_438 : decode cL_law 438 = .ok (.invokevirtual 58, 3) := by decide +kernel
theorem dL_law_441 : decode cL_law 441 = .ok (.aload_n 2, 1) := by decide +kernel
theorem dL_law_442 : decode cL_law 442 = .ok (.aload_n 0, 1) := by decide +kernel
theorem dL_law_443 : decode cL_law 443 = .ok (.iload_n 3, 1) := by decide +kernel
theorem dL_law_444 : decode cL_law 444 = .ok (.iconst 1, 1) := by decide +kernel
theorem dL_law_445 : decode cL_law 445 = .ok (.iadd, 1) := by decide +kernel
theorem dL_law_446 : decode cL_law 446 = .ok (.iaload, 1) := by decide +kernel
theorem dL_law_447 : decode cL_law 447 = .ok (.invokevirtual 61, 3) := by decide +kernel
theorem dL_law_450 : decode cL_law 450 = .ok (.if_icmp .eq 410, 3) := by decide +kernel
theorem dL_law_453 : decode cL_law 453 = .ok (.iconst 0, 1) := by decide +kernel
theorem dL_law_454 : decode cL_law 454 = .ok (.ireturn, 1) := by decide +kernel
theorem dL_law_455 : decode cL_law 455 = .ok (.aload_n 1, 1) := by decide +kernel
theorem dL_law_456 : decode cL_law 456 = .ok (.aload_n 0, 1) := by decide +kernel
theorem dL_law_457 : decode cL_law 457 = .ok (.iload_n 3, 1) := by decide +kernel
theorem dL_law_458 : decode cL_law 458 = .ok (.iconst 1, 1) := by decide +kernel
theorem dL_law_459 : decode cL_law 459 = .ok (.iadd, 1) := by decide +kernel
theorem dL_law_460 : decode cL_law 460 = .ok (.iaload, 1) := by decide +kernel
theorem dL_law_461 : decode cL_law 461 = .ok (.ifCond .eq 7, 3) := by decide +kernel
theorem dL_law_464 : decode cL_law 464 = .ok (.iconst 1, 1) := by decide +kernel
theorem dL_law_465 : decode cL_law 465 = .ok (.goto 4, 3) := by decide +kernel
theorem dL_law_468 : decode cL_law 468 = .ok (.iconst 0, 1) := by decide +kernel
theorem dL_law_469 : decode cL_law 469 = .ok (.invokevirtual 62, 3) := by decide +kernel
theorem dL_law_472 : decode cL_law 472 = .ok (.aload_n 2, 1) := by decide +kernel
theorem dL_law_473 : decode cL_law 473 = .ok (.aload_n 0, 1) := by decide +kernel
theorem dL_law_474 : decode cL_law 474 = .ok (.iload_n 3, 1) := by decide +kernel
theorem dL_law_475 : decode cL_law 475 = .ok (.iconst 1, 1) := by decide +kernel
theorem dL_law_476 : decode cL_law 476 = .ok (.iadd, 1) := by decide +kernel
theorem dL_law_477 : decode cL_law 477 = .ok (.iaload, 1) := by decide +kernel
theorem dL_law_478 : decode cL_law 478 = .ok (.ifCond .eq 7, 3) := by decide +kernel
theorem dL_law_481 : decode cL_law 481 = .ok (.iconst 1, 1) := by decide +kernel
theorem dL_law_482 : decode cL_law 482 = .ok (.goto 4, 3) := by decide +kernel
theorem dL_law_485 : decode cL_law 485 = .ok (.iconst 0, 1) := by decide +kernel
theorem dL_law_486 : decode cL_law 486 = .ok (.invokevirtual 66, 3) := by decide +kernel
theorem dL_law_489 : decode cL_law 489 = .ok (.if_icmp .eq 371, 3) := by decide +kernel
theorem dL_law_492 : decode cL_law 492 = .ok (.iconst 0, 1) := by decide +kernel
theorem dL_law_493 : decode cL_law 493 = .ok (.ireturn, 1) := by decide +kernel
theorem dL_law_494 : decode cL_law 494 = .ok (.aload_n 1, 1) := by decide +kernel
theorem dL_law_495 : decode cL_law 495 = .ok (.aload_n 0, 1) := by decide +kernel
theorem dL_law_496 : decode cL_law 496 = .ok (.iload_n 3, 1) := by decide +kernel
theorem dL_law_497 : decode cL_law 497 = .ok (.iconst 1, 1) := by decide +kernel
theorem dL_law_498 : decode cL_law 498 = .ok (.iadd, 1) := by decide +kernel
theorem dL_law_499 : decode cL_law 499 = .ok (.iaload, 1) := by decide +kernel
theorem dL_law_500 : decode cL_law 500 = .ok (.aload_n 0, 1) := by decide +kernel
theorem dL_law_501 : decode cL_law 501 = .ok (.iload_n 3, 1) := by decide +kernel
theorem dL_law_502 : decode cL_law 502 = .ok (.iconst 2, 1) := by decide +kernel
theorem dL_law_503 : decode cL_law 503 = .ok (.iadd, 1) := by decide +kernel
theorem dL_law_504 : decode cL_law 504 = .ok (.iaload, 1) := by decide +kernel
theorem dL_law_505 : decode cL_law 505 = .ok (.invokevirtual 67, 3) := by decide +kernel
theorem dL_law_508 : decode cL_law 508 = .ok (.aload_n 2, 1) := by decide +kernel
theorem dL_law_509 : decode cL_law 509 = .ok (.aload_n 0, 1) := by decide +kernel
theorem dL_law_510 : decode cL_law 510 = .ok (.iload_n 3, 1) := by decide +kernel
theorem dL_law_511 : decode cL_law 511 = .ok (.iconst 1, 1) := by decide +kernel
theorem dL_law_512 : decode cL_law 512 = .ok (.iadd, 1) := by decide +kernel
theorem dL_law_513 : decode cL_law 513 = .ok (.iaload, 1) := by decide +kernel
theorem dL_law_514 : decode cL_law 514 = .ok (.aload_n 0, 1) := by decide +kernel
theorem dL_law_515 : decode cL_law 515 = .ok (.iload_n 3, 1) := by decide +kernel
theorem dL_law_516 : decode cL_law 516 = .ok (.iconst 2, 1) := by decide +kernel
theorem dL_law_517 : decode cL_law 517 = .ok (.iadd, 1) := by decide +kernel
theorem dL_law_518 : decode cL_law 518 = .ok (.iaload, 1) := by decide +kernel
theorem dL_law_519 : decode cL_law 519 = .ok (.invokevirtual 70, 3) := by decide +kernel
theorem dL_law_522 : decode cL_law 522 = .ok (.if_icmp .eq 338, 3) := by decide +kernel
theorem dL_law_525 : decode cL_law 525 = .ok (.iconst 0, 1) := by decide +kernel
theorem dL_law_526 : decode cL_law 526 = .ok (.ireturn, 1) := by decide +kernel
theorem dL_law_527 : decode cL_law 527 = .ok (.aload_n 1, 1) := by decide +kernel
theorem dL_law_528 : decode cL_law 528 = .ok (.invokevirtual 71, 3) := by decide +kernel
theorem dL_law_531 : decode cL_law 531 = .ok (.aload_n 2, 1) := by decide +kernel
theorem dL_law_532 : decode cL_law 532 = .ok (.invokevirtual 74, 3) := by decide +kernel
theorem dL_law_535 : decode cL_law 535 = .ok (.if_icmp .eq 325, 3) := by decide +kernel
theorem dL_law_538 : decode cL_law 538 = .ok (.iconst 0, 1) := by decide +kernel
theorem dL_law_539 : decode cL_law 539 = .ok (.ireturn, 1) := by decide +kernel
theorem dL_law_540 : decode cL_law 540 = .ok (.aload_n 1, 1) := by decide +kernel
theorem dL_law_541 : decode cL_law 541 = .ok (.invokevirtual 75, 3) := by decide +kernel
theorem dL_law_544 : decode cL_law 544 = .ok (.aload_n 2, 1) := by decide +kernel
theorem dL_law_545 : decode cL_law 545 = .ok (.invokevirtual 78, 3) := by decide +kernel
theorem dL_law_548 : decode cL_law 548 = .ok (.if_icmp .eq 312, 3) := by decide +kernel
theorem dL_law_551 : decode cL_law 551 = .ok (.iconst 0, 1) := by decide +kernel
theorem dL_law_552 : decode cL_law 552 = .ok (.ireturn, 1) := by decide +kernel
theorem dL_law_553 : decode cL_law 553 = .ok (.aload_n 1, 1) := by decide +kernel
theorem dL_law_554 : decode cL_law 554 = .ok (.aload_n 0, 1) := by decide +kernel
theorem dL_law_555 : decode cL_law 555 = .ok (.iload_n 3, 1) := by decide +kernel
theorem dL_law_556 : decode cL_law 556 = .ok (.iconst 1, 1) := by decide +kernel
theorem dL_law_557 : decode cL_law 557 = .ok (.iadd, 1) := by decide +kernel
theorem dL_law_558 : decode cL_law 558 = .ok (.iaload, 1) := by decide +kernel
theorem dL_law_559 : decode cL_law 559 = .ok (.aload_n 0, 1) := by decide +kernel
theorem dL_law_560 : decode cL_law 560 = .ok (.iload_n 3, 1) := by decide +kernel
theorem dL_law_561 : decode cL_law 561 = .ok (.iconst 2, 1) := by decide +kernel
theorem dL_law_562 : decode cL_law 562 = .ok (.iadd, 1) := by decide +kernel
theorem dL_law_563 : decode cL_law 563 = .ok (.iaload, 1) := by decide +kernel
theorem dL_law_564 : decode cL_law 564 = .ok (.aload_n 0, 1) := by decide +kernel
theorem dL_law_565 : decode cL_law 565 = .ok (.iload_n 3, 1) := by decide +kernel
theorem dL_law_566 : decode cL_law 566 = .ok (.iconst 3, 1) := by decide +kernel
theorem dL_law_567 : decode cL_law 567 = .ok (.iadd, 1) := by decide +kernel
theorem dL_law_568 : decode cL_law 568 = .ok (.iaload, 1) := by decide +kernel
theorem dL_law_569 : decode cL_law 569 = .ok (.invokevirtual 79, 3) := by decide +kernel
theorem dL_law_572 : decode cL_law 572 = .ok (.aload_n 2, 1) := by decide +kernel
theorem dL_law_573 : decode cL_law 573 = .ok (.aload_n 0, 1) := by decide +kernel
theorem dL_law_574 : decode cL_law 574 = .ok (.iload_n 3, 1) := by decide +kernel
theorem dL_law_575 : decode cL_law 575 = .ok (.iconst 1, 1) := by decide +kernel
theorem dL_law_576 : decode cL_law 576 = .ok (.iadd, 1) := by decide +kernel
theorem dL_law_577 : decode cL_law 577 = .ok (.iaload, 1) := by decide +kernel
theorem dL_law_578 : decode cL_law 578 = .ok (.aload_n 0, 1) := by decide +kernel
theorem dL_law_579 : decode cL_law 579 = .ok (.iload_n 3, 1) := by decide +kernel
theorem dL_law_580 : decode cL_law 580 = .ok (.iconst 2, 1) := by decide +kernel
theorem dL_law_581 : decode cL_law 581 = .ok (.iadd, 1) := by decide +kernel
theorem dL_law_582 : decode cL_law 582 = .ok (.iaload, 1) := by decide +kernel
theorem dL_law_583 : decode cL_law 583 = .ok (.aload_n 0, 1) := by decide +kernel
theorem dL_law_584 : decode cL_law 584 = .ok (.iload_n 3, 1) := by decide +kernel
theorem dL_law_585 : decode cL_law 585 = .ok (.iconst 3, 1) := by decide +kernel
theorem dL_law_586 : decode cL_law 586 = .ok (.iadd, 1) := by decide +kernel
theorem dL_law_587 : decode cL_law 587 = .ok (.iaload, 1) := by decide +kernel
theorem dL_law_588 : decode cL_law 588 = .ok (.invokevirtual 83, 3) := by decide +kernel
theorem dL_law_591 : decode cL_law 591 = .ok (.if_icmp .eq 269, 3) := by decide +kernel
theorem dL_law_594 : decode cL_law 594 = .ok (.iconst 0, 1) := by decide +kernel
theorem dL_law_595 : decode cL_law 595 = .ok (.ireturn, 1) := by decide +kernel
theorem dL_law_596 : decode cL_law 596 = .ok (.aload_n 1, 1) := by decide +kernel
theorem dL_law_597 : decode cL_law 597 = .ok (.aload_n 0, 1) := by decide +kernel
theorem dL_law_598 : decode cL_law 598 = .ok (.iload_n 3, 1) := by decide +kernel
theorem dL_law_599 : decode cL_law 599 = .ok (.iconst 1, 1) := by decide +kernel
theorem dL_law_600 : decode cL_law 600 = .ok (.iadd, 1) := by decide +kernel
theorem dL_law_601 : decode cL_law 601 = .ok (.iaload, 1) := by decide +kernel
theorem dL_law_602 : decode cL_law 602 = .ok (.aload_n 0, 1) := by decide +kernel
theorem dL_law_603 : decode cL_law 603 = .ok (.iload_n 3, 1) := by decide +kernel
theorem dL_law_604 : decode cL_law 604 = .ok (.iconst 2, 1) := by decide +kernel
theorem dL_law_605 : decode cL_law 605 = .ok (.iadd, 1) := by decide +kernel
theorem dL_law_606 : decode cL_law 606 = .ok (.iaload, 1) := by decide +kernel
theorem dL_law_607 : decode cL_law 607 = .ok (.aload_n 0, 1) := by decide +kernel
theorem dL_law_608 : decode cL_law 608 = .ok (.iload_n 3, 1) := by decide +kernel
theorem dL_law_609 : decode cL_law 609 = .ok (.iconst 3, 1) := by decide +kernel
theorem dL_law_610 : decode cL_law 610 = .ok (.iadd, 1) := by decide +kernel
theorem dL_law_611 : decode cL_law 611 = .ok (.iaload, 1) := by decide +kernel
theorem dL_law_612 : decode cL_law 612 = .ok (.invokevirtual 84, 3) := by decide +kernel
theorem dL_law_615 : decode cL_law 615 = .ok (.aload_n 2, 1) := by decide +kernel
theorem dL_law_616 : decode cL_law 616 = .ok (.aload_n 0, 1) := by decide +kernel
theorem dL_law_617 : decode cL_law 617 = .ok (.iload_n 3, 1) := by decide +kernel
theorem dL_law_618 : decode cL_law 618 = .ok (.iconst 1, 1) := by decide +kernel
theorem dL_law_619 : decode cL_law 619 = .ok (.iadd, 1) := by decide +kernel
theorem dL_law_620 : decode cL_law 620 = .ok (.iaload, 1) := by decide +kernel
theorem dL_law_621 : decode cL_law 621 = .ok (.aload_n 0, 1) := by decide +kernel
theorem dL_law_622 : decode cL_law 622 = .ok (.iload_n 3, 1) := by decide +kernel
theorem dL_law_623 : decode cL_law 623 = .ok (.iconst 2, 1) := by decide +kernel
theorem dL_law_624 : decode cL_law 624 = .ok (.iadd, 1) := by decide +kernel
theorem dL_law_625 : decode cL_law 625 = .ok (.iaload, 1) := by decide +kernel
theorem dL_law_626 : decode cL_law 626 = .ok (.aload_n 0, 1) := by decide +kernel
theorem dL_law_627 : decode cL_law 627 = .ok (.iload_n 3, 1) := by decide +kernel
theorem dL_law_628 : decode cL_law 628 = .ok (.iconst 3, 1) := by decide +kernel
theorem dL_law_629 : decode cL_law 629 = .ok (.iadd, 1) := by decide +kernel
theorem dL_law_630 : decode cL_law 630 = .ok (.iaload, 1) := by decide +kernel
theorem dL_law_631 : decode cL_law 631 = .ok (.invokevirtual 87, 3) := by decide +kernel
theorem dL_law_634 : decode cL_law 634 = .ok (.if_icmp .eq 226, 3) := by decide +kernel
theorem dL_law_637 : decode cL_law 637 = .ok (.iconst 0, 1) := by decide +kernel
theorem dL_law_638 : decode cL_law 638 = .ok (.ireturn, 1) := by decide +kernel
theorem dL_law_639 : decode cL_law 639 = .ok (.aload_n 1, 1) := by decide +kernel
theorem dL_law_640 : decode cL_law 640 = .ok (.aload_n 0, 1) := by decide +kernel
theorem dL_law_641 : decode cL_law 641 = .ok (.iload_n 3, 1) := by decide +kernel
theorem dL_law_642 : decode cL_law 642 = .ok (.iconst 1, 1) := by decide +kernel
theorem dL_law_643 : decode cL_law 643 = .ok (.iadd, 1) := by decide +kernel
theorem dL_law_644 : decode cL_law 644 = .ok (.iaload, 1) := by decide +kernel
theorem dL_law_645 : decode cL_law 645 = .ok (.aload_n 0, 1) := by decide +kernel
theorem dL_law_646 : decode cL_law 646 = .ok (.iload_n 3, 1) := by decide +kernel
theorem dL_law_647 : decode cL_law 647 = .ok (.iconst 2, 1) := by decide +kernel
theorem dL_law_648 : decode cL_law 648 = .ok (.iadd, 1) := by decide +kernel
theorem dL_law_649 : decode cL_law 649 = .ok (.iaload, 1) := by decide +kernel
theorem dL_law_650 : decode cL_law 650 = .ok (.invokevirtual 88, 3) := by decide +kernel
theorem dL_law_653 : decode cL_law 653 = .ok (.aload_n 2, 1) := by decide +kernel
theorem dL_law_654 : decode cL_law 654 = .ok (.aload_n 0, 1) := by decide +kernel
theorem dL_law_655 : decode cL_law 655 = .ok (.iload_n 3, 1) := by decide +kernel
theorem dL_law_656 : decode cL_law 656 = .ok (.iconst 1, 1) := by decide +kernel
theorem dL_law_657 : decode cL_law 657 = .ok (.iadd, 1) := by decide +kernel
theorem dL_law_658 : decode cL_law 658 = .ok (.iaload, 1) := by decide +kernel
theorem dL_law_659 : decode cL_law 659 = .ok (.aload_n 0, 1) := by decide +kernel
theorem dL_law_660 : decode cL_law 660 = .ok (.iload_n 3, 1) := by decide +kernel
theorem dL_law_661 : decode cL_law 661 = .ok (.iconst 2, 1) := by decide +kernel
theorem dL_law_662 : decode cL_law 662 = .ok (.iadd, 1) := by decide +kernel
theorem dL_law_663 : decode cL_law 663 = .ok (.iaload, 1) := by decide +kernel
theorem dL_law_664 : decode cL_law 664 = .ok (.invokevirtual 91, 3) := by decide +kernel
theorem dL_law_667 : decode cL_law 667 = .ok (.if_icmp .eq 193, 3) := by decide +kernel
theorem dL_law_670 : decode cL_law 670 = .ok (.iconst 0, 1) := by decide +kernel
theorem dL_law_671 : decode cL_law 671 = .ok (.ireturn, 1) := by decide +kernel
theorem dL_law_672 : decode cL_law 672 = .ok (.aload_n 1, 1) := by decide +kernel
theorem dL_law_673 : decode cL_law 673 = .ok (.aload_n 0, 1) := by decide +kernel
theorem dL_law_674 : decode cL_law 674 = .ok (.iload_n 3, 1) := by decide +kernel
theorem dL_law_675 : decode cL_law 675 = .ok (.iconst 1, 1) := by decide +kernel
theorem dL_law_676 : decode cL_law 676 = .ok (.iadd, 1) := by decide +kernel
theorem dL_law_677 : decode cL_law 677 = .ok (.iaload, 1) := by decide +kernel
theorem dL_law_678 : decode cL_law 678 = .ok (.aload_n 0, 1) := by decide +kernel
theorem dL_law_679 : decode cL_law 679 = .ok (.iload_n 3, 1) := by decide +kernel
theorem dL_law_680 : decode cL_law 680 = .ok (.iconst 2, 1) := by decide +kernel
theorem dL_law_681 : decode cL_law 681 = .ok (.iadd, 1) := by decide +kernel
theorem dL_law_682 : decode cL_law 682 = .ok (.iaload, 1) := by decide +kernel
theorem dL_law_683 : decode cL_law 683 = .ok (.invokevirtual 92, 3) := by decide +kernel
theorem dL_law_686 : decode cL_law 686 = .ok (.aload_n 2, 1) := by decide +kernel
theorem dL_law_687 : decode cL_law 687 = .ok (.aload_n 0, 1) := by decide +kernel
theorem dL_law_688 : decode cL_law 688 = .ok (.iload_n 3, 1) := by decide +kernel
theorem dL_law_689 : decode cL_law 689 = .ok (.iconst 1, 1) := by decide +kernel
theorem dL_law_690 : decode cL_law 690 = .ok (.iadd, 1) := by decide +kernel
theorem dL_law_691 : decode cL_law 691 = .ok (.iaload, 1) := by decide +kernel
theorem dL_law_692 : decode cL_law 692 = .ok (.aload_n 0, 1) := by decide +kernel
theorem dL_law_693 : decode cL_law 693 = .ok (.iload_n 3, 1) := by decide +kernel
theorem dL_law_694 : decode cL_law 694 = .ok (.iconst 2, 1) := by decide +kernel
theorem dL_law_695 : decode cL_law 695 = .ok (.iadd, 1) := by decide +kernel
theorem dL_law_696 : decode cL_law 696 = .ok (.iaload, 1) := by decide +kernel
theorem dL_law_697 : decode cL_law 697 = .ok (.invokevirtual 95, 3) := by decide +kernel
theorem dL_law_700 : decode cL_law 700 = .ok (.if_icmp .eq 160, 3) := by decide +kernel
theorem dL_law_703 : decode cL_law 703 = .ok (.iconst 0, 1) := by decide +kernel
theorem dL_law_704 : decode cL_law 704 = .ok (.ireturn, 1) := by decide +kernel
theorem dL_law_705 : decode cL_law 705 = .ok (.aload_n 1, 1) := by decide +kernel
theorem dL_law_706 : decode cL_law 706 = .ok (.invokevirtual 96, 3) := by decide +kernel
theorem dL_law_709 : decode cL_law 709 = .ok (.aload_n 2, 1) := by decide +kernel
theorem dL_law_710 : decode cL_law 710 = .ok (.invokevirtual 99, 3) := by decide +kernel
theorem dL_law_713 : decode cL_law 713 = .ok (.if_icmp .eq 147, 3) := by decide +kernel
theorem dL_law_716 : decode cL_law 716 = .ok (.iconst 0, 1) := by decide +kernel
theorem dL_law_717 : decode cL_law 717 = .ok (.ireturn, 1) := by decide +kernel
theorem dL_law_718 : decode cL_law 718 = .ok (.aload_n 1, 1) := by decide +kernel
theorem dL_law_719 : decode cL_law 719 = .ok (.aload_n 0, 1) := by decide +kernel
theorem dL_law_720 : decode cL_law 720 = .ok (.iload_n 3, 1) := by decide +kernel
theorem dL_law_721 : decode cL_law 721 = .ok (.iconst 1, 1) := by decide +kernel
theorem dL_law_722 : decode cL_law 722 = .ok (.iadd, 1) := by decide +kernel
theorem dL_law_723 : decode cL_law 723 = .ok (.iaload, 1) := by decide +kernel
theorem dL_law_724 : decode cL_law 724 = .ok (.invokevirtual 100, 3) := by decide +kernel
theorem dL_law_727 : decode cL_law 727 = .ok (.aload_n 2, 1) := by decide +kernel
theorem dL_law_728 : decode cL_law 728 = .ok (.aload_n 0, 1) := by decide +kernel
theorem dL_law_729 : decode cL_law 729 = .ok (.iload_n 3, 1) := by decide +kernel

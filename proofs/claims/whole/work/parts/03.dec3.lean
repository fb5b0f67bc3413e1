theorem dX10_isGood_84 : decode cX10_isGood 84 = .ok (.ifCond .eq 7, 3) := by decide +kernel
theorem dX10_isGood_87 : decode cX10_isGood 87 = .ok (.iconst 1, 1) := by decide +kernel
theorem dX10_isGood_88 : decode cX10_isGood 88 = .ok (.goto 4, 3) := by decide +kernel
theorem dX10_isGood_91 : decode cX10_isGood 91 = .ok (.iconst 0, 1) := by decide +kernel
theorem dX10_isGood_92 : decode cX10_isGood 92 = .ok (.ireturn, 1) := by decide +kernel
theorem dX10_faultOf_0 : decode cX10_faultOf 0 = .ok (.iconst 0, 1) := by decide +kernel
theorem dX10_faultOf_1 : decode cX10_faultOf 1 = .ok (.istore_n 1, 1) := by decide +kernel
theorem dX10_faultOf_2 : decode cX10_faultOf 2 = .ok (.iload_n 1, 1) := by decide +kernel
theorem dX10_faultOf_3 : decode cX10_faultOf 3 = .ok (.aload_n 0, 1) := by decide +kernel
theorem dX10_faultOf_4 : decode cX10_faultOf 4 = .ok (.getfield 68, 3) := by decide +kernel
theorem dX10_faultOf_7 : decode cX10_faultOf 7 = .ok (.if_icmp .ge 22, 3) := by decide +kernel
theorem dX10_faultOf_10 : decode cX10_faultOf 10 = .ok (.iload_n 1, 1) := by decide +kernel
theorem dX10_faultOf_11 : decode cX10_faultOf 11 = .ok (.aload_n 0, 1) := by decide +kernel
theorem dX10_faultOf_12 : decode cX10_faultOf 12 = .ok (.getfield 7, 3) := by decide +kernel
theorem dX10_faultOf_15 : decode cX10_faultOf 15 = .ok (.iload_n 1, 1) := by decide +kernel
theorem dX10_faultOf_16 : decode cX10_faultOf 16 = .ok (.iaload, 1) := by decide +kernel
theorem dX10_faultOf_17 : decode cX10_faultOf 17 = .ok (.invokestatic 75, 3) := by decide +kernel
theorem dX10_faultOf_20 : decode cX10_faultOf 20 = .ok (.ifCond .eq 9, 3) := by decide +kernel
theorem dX10_faultOf_23 : decode cX10_faultOf 23 = .ok (.iinc 1 1, 3) := by decide +kernel
theorem dX10_faultOf_26 : decode cX10_faultOf 26 = .ok (.goto (-24), 3) := by decide +kernel
theorem dX10_faultOf_29 : decode cX10_faultOf 29 = .ok (.iload_n 1, 1) := by decide +kernel
theorem dX10_faultOf_30 : decode cX10_faultOf 30 = .ok (.ireturn, 1) := by decide +kernel
theorem dX10_fault_0 : decode cX10_fault 0 = .ok (.aload_n 0, 1) := by decide +kernel
theorem dX10_fault_1 : decode cX10_fault 1 = .ok (.invokevirtual 79, 3) := by decide +kernel
theorem dX10_fault_4 : decode cX10_fault 4 = .ok (.ireturn, 1) := by decide +kernel
theorem dX10_opens_0 : decode cX10_opens 0 = .ok (.iconst 0, 1) := by decide +kernel
theorem dX10_opens_1 : decode cX10_opens 1 = .ok (.istore_n 1, 1) := by decide +kernel
theorem dX10_opens_2 : decode cX10_opens 2 = .ok (.iconst 0, 1) := by decide +kernel
theorem dX10_opens_3 : decode cX10_opens 3 = .ok (.istore_n 2, 1) := by decide +kernel
theorem dX10_opens_4 : decode cX10_opens 4 = .ok (.iload_n 2, 1) := by decide +kernel
theorem dX10_opens_5 : decode cX10_opens 5 = .ok (.bipush 8, 2) := by decide +kernel
theorem dX10_opens_7 : decode cX10_opens 7 = .ok (.if_icmp .ge 33, 3) := by decide +kernel
theorem dX10_opens_10 : decode cX10_opens 10 = .ok (.aload_n 0, 1) := by decide +kernel
theorem dX10_opens_11 : decode cX10_opens 11 = .ok (.getfield 83, 3) := by decide +kernel
theorem dX10_opens_14 : decode cX10_opens 14 = .ok (.ifCond .le 26, 3) := by decide +kernel
theorem dX10_opens_17 : decode cX10_opens 17 = .ok (.iload_n 1, 1) := by decide +kernel
theorem dX10_opens_18 : decode cX10_opens 18 = .ok (.aload_n 0, 1) := by decide +kernel
theorem dX10_opens_19 : decode cX10_opens 19 = .ok (.getfield 13, 3) := by decide +kernel
theorem dX10_opens_22 : decode cX10_opens 22 = .ok (.iload_n 2, 1) := by decide +kernel
theorem dX10_opens_23 : decode cX10_opens 23 = .ok (.iaload, 1) := by decide +kernel
theorem dX10_opens_24 : decode cX10_opens 24 = .ok (.ifCond .ne 7, 3) := by decide +kernel
theorem dX10_opens_27 : decode cX10_opens 27 = .ok (.iconst 1, 1) := by decide +kernel
theorem dX10_opens_28 : decode cX10_opens 28 = .ok (.goto 4, 3) := by decide +kernel
theorem dX10_opens_31 : decode cX10_opens 31 = .ok (.iconst 0, 1) := by decide +kernel
theorem dX10_opens_32 : decode cX10_opens 32 = .ok (.iadd, 1) := by decide +kernel
theorem dX10_opens_33 : decode cX10_opens 33 = .ok (.istore_n 1, 1) := by decide +kernel
theorem dX10_opens_34 : decode cX10_opens 34 = .ok (.iinc 2 1, 3) := by decide +kernel
theorem dX10_opens_37 : decode cX10_opens 37 = .ok (.goto (-33), 3) := by decide +kernel
theorem dX10_opens_40 : decode cX10_opens 40 = .ok (.iload_n 1, 1) := by decide +kernel
theorem dX10_opens_41 : decode cX10_opens 41 = .ok (.ireturn, 1) := by decide +kernel
theorem dX10_valley_0 : decode cX10_valley 0 = .ok (.aload_n 0, 1) := by decide +kernel
theorem dX10_valley_1 : decode cX10_valley 1 = .ok (.getfield 68, 3) := by decide +kernel
theorem dX10_valley_4 : decode cX10_valley 4 = .ok (.bipush 11, 2) := by decide +kernel
theorem dX10_valley_6 : decode cX10_valley 6 = .ok (.if_icmp .ne 12, 3) := by decide +kernel
theorem dX10_valley_9 : decode cX10_valley 9 = .ok (.aload_n 0, 1) := by decide +kernel
theorem dX10_valley_10 : decode cX10_valley 10 = .ok (.invokevirtual 79, 3) := by decide +kernel
theorem dX10_valley_13 : decode cX10_valley 13 = .ok (.bipush 11, 2) := by decide +kernel
theorem dX10_valley_15 : decode cX10_valley 15 = .ok (.if_icmp .ge 6, 3) := by decide +kernel
theorem dX10_valley_18 : decode cX10_valley 18 = .ok (.bipush (-103), 2) := by decide +kernel
theorem dX10_valley_20 : decode cX10_valley 20 = .ok (.ireturn, 1) := by decide +kernel
theorem dX10_valley_21 : decode cX10_valley 21 = .ok (.iconst 0, 1) := by decide +kernel
theorem dX10_valley_22 : decode cX10_valley 22 = .ok (.istore_n 1, 1) := by decide +kernel
theorem dX10_valley_23 : decode cX10_valley 23 = .ok (.iload_n 1, 1) := by decide +kernel
theorem dX10_valley_24 : decode cX10_valley 24 = .ok (.bipush 8, 2) := by decide +kernel
theorem dX10_valley_26 : decode cX10_valley 26 = .ok (.if_icmp .ge 54, 3) := by decide +kernel
theorem dX10_valley_29 : decode cX10_valley 29 = .ok (.aload_n 0, 1) := by decide +kernel
theorem dX10_valley_30 : decode cX10_valley 30 = .ok (.getfield 7, 3) := by decide +kernel
theorem dX10_valley_33 : decode cX10_valley 33 = .ok (.iload_n 1, 1) := by decide +kernel
theorem dX10_valley_34 : decode cX10_valley 34 = .ok (.iload_n 1, 1) := by decide +kernel
theorem dX10_valley_35 : decode cX10_valley 35 = .ok (.iconst 4, 1) := by decide +kernel
theorem dX10_valley_36 : decode cX10_valley 36 = .ok (.idiv, 1) := by decide +kernel
theorem dX10_valley_37 : decode cX10_valley 37 = .ok (.iadd, 1) := by decide +kernel
theorem dX10_valley_38 : decode cX10_valley 38 = .ok (.iaload, 1) := by decide +kernel
theorem dX10_valley_39 : decode cX10_valley 39 = .ok (.istore_n 2, 1) := by decide +kernel
theorem dX10_valley_40 : decode cX10_valley 40 = .ok (.aload_n 0, 1) := by decide +kernel
theorem dX10_valley_41 : decode cX10_valley 41 = .ok (.getfield 13, 3) := by decide +kernel
theorem dX10_valley_44 : decode cX10_valley 44 = .ok (.iload_n 1, 1) := by decide +kernel
theorem dX10_valley_45 : decode cX10_valley 45 = .ok (.iload_n 2, 1) := by decide +kernel
theorem dX10_valley_46 : decode cX10_valley 46 = .ok (.bipush 35, 2) := by decide +kernel
theorem dX10_valley_48 : decode cX10_valley 48 = .ok (.if_icmp .ne 7, 3) := by decide +kernel
theorem dX10_valley_51 : decode cX10_valley 51 = .ok (.iconst 1, 1) := by decide +kernel
theorem dX10_valley_52 : decode cX10_valley 52 = .ok (.goto 14, 3) := by decide +kernel
theorem dX10_valley_55 : decode cX10_valley 55 = .ok (.iload_n 2, 1) := by decide +kernel
theorem dX10_valley_56 : decode cX10_valley 56 = .ok (.bipush 119, 2) := by decide +kernel
theorem dX10_valley_58 : decode cX10_valley 58 = .ok (.if_icmp .ne 7, 3) := by decide +kernel
theorem dX10_valley_61 : decode cX10_valley 61 = .ok (.iconst 2, 1) := by decide +kernel
theorem dX10_valley_62 : decode cX10_valley 62 = .ok (.goto 4, 3) := by decide +kernel
theorem dX10_valley_65 : decode cX10_valley 65 = .ok (.iconst 0, 1) := by decide +kernel
theorem dX10_valley_66 : decode cX10_valley 66 = .ok (.iastore, 1) := by decide +kernel
theorem dX10_valley_67 : decode cX10_valley 67 = .ok (.aload_n 0, 1) := by decide +kernel
theorem dX10_valley_68 : decode cX10_valley 68 = .ok (.getfield 16, 3) := by decide +kernel
theorem dX10_valley_71 : decode cX10_valley 71 = .ok (.iload_n 1, 1) := by decide +kernel
theorem dX10_valley_72 : decode cX10_valley 72 = .ok (.iconst 0, 1) := by decide +kernel
theorem dX10_valley_73 : decode cX10_valley 73 = .ok (.iastore, 1) := by decide +kernel
theorem dX10_valley_74 : decode cX10_valley 74 = .ok (.iinc 1 1, 3) := by decide +kernel
theorem dX10_valley_77 : decode cX10_valley 77 = .ok (.goto (-54), 3) := by decide +kernel
theorem dX10_valley_80 : decode cX10_valley 80 = .ok (.iconst 0, 1) := by decide +kernel
theorem dX10_valley_81 : decode cX10_valley 81 = .ok (.istore_n 1, 1) := by decide +kernel
theorem dX10_valley_82 : decode cX10_valley 82 = .ok (.iload_n 1, 1) := by decide +kernel
theorem dX10_valley_83 : decode cX10_valley 83 = .ok (.iconst 3, 1) := by decide +kernel
theorem dX10_valley_84 : decode cX10_valley 84 = .ok (.if_icmp .ge 16, 3) := by decide +kernel
theorem dX10_valley_87 : decode cX10_valley 87 = .ok (.aload_n 0, 1) := by decide +kernel
theorem dX10_valley_88 : decode cX10_valley 88 = .ok (.getfield 19, 3) := by decide +kernel
theorem dX10_valley_91 : decode cX10_valley 91 = .ok (.iload_n 1, 1) := by decide +kernel
theorem dX10_valley_92 : decode cX10_valley 92 = .ok (.iconst 0, 1) := by decide +kernel
theorem dX10_valley_93 : decode cX10_valley 93 = .ok (.iastore, 1) := by decide +kernel
theorem dX10_valley_94 : decode cX10_valley 94 = .ok (.iinc 1 1, 3) := by decide +kernel
theorem dX10_valley_97 : decode cX10_valley 97 = .ok (.goto (-15), 3) := by decide +kernel
theorem dX10_valley_100 : decode cX10_valley 100 = .ok (.aload_n 0, 1) := by decide +kernel
theorem dX10_valley_101 : decode cX10_valley 101 = .ok (.aload_n 0, 1) := by decide +kernel
theorem dX10_valley_102 : decode cX10_valley 102 = .ok (.getfield 7, 3) := by decide +kernel
theorem dX10_valley_105 : decode cX10_valley 105 = .ok (.bipush 10, 2) := by decide +kernel
theorem dX10_valley_107 : decode cX10_valley 107 = .ok (.iaload, 1) := by decide +kernel
theorem dX10_valley_108 : decode cX10_valley 108 = .ok (.bipush 48, 2) := by decide +kernel
theorem dX10_valley_110 : decode cX10_valley 110 = .ok (.isub, 1) := by decide +kernel
theorem dX10_valley_111 : decode cX10_valley 111 = .ok (.putfield 83, 3) := by decide +kernel
theorem dX10_valley_114 : decode cX10_valley 114 = .ok (.aload_n 0, 1) := by decide +kernel
theorem dX10_valley_115 : decode cX10_valley 115 = .ok (.iconst 0, 1) := by decide +kernel
theorem dX10_valley_116 : decode cX10_valley 116 = .ok (.putfield 86, 3) := by decide +kernel
theorem dX10_valley_119 : decode cX10_valley 119 = .ok (.aload_n 0, 1) := by decide +kernel
theorem dX10_valley_120 : decode cX10_valley 120 = .ok (.iconst 0, 1) := by decide +kernel
theorem dX10_valley_121 : decode cX10_valley 121 = .ok (.putfield 89, 3) := by decide +kernel
theorem dX10_valley_124 : decode cX10_valley 124 = .ok (.aload_n 0, 1) := by decide +kernel
theorem dX10_valley_125 : decode cX10_valley 125 = .ok (.iconst 0, 1) := by decide +kernel
theorem dX10_valley_126 : decode cX10_valley 126 = .ok (.putfield 92, 3) := by decide +kernel
theorem dX10_valley_129 : decode cX10_valley 129 = .ok (.aload_n 0, 1) := by decide +kernel
theorem dX10_valley_130 : decode cX10_valley 130 = .ok (.iconst 0, 1) := by decide +kernel
theorem dX10_valley_131 : decode cX10_valley 131 = .ok (.putfield 95, 3) := by decide +kernel
theorem dX10_valley_134 : decode cX10_valley 134 = .ok (.aload_n 0, 1) := by decide +kernel
theorem dX10_valley_135 : decode cX10_valley 135 = .ok (.iconst 0, 1) := by decide +kernel
theorem dX10_valley_136 : decode cX10_valley 136 = .ok (.putfield 98, 3) := by decide +kernel
theorem dX10_valley_139 : decode cX10_valley 139 = .ok (.aload_n 0, 1) := by decide +kernel
theorem dX10_valley_140 : decode cX10_valley 140 = .ok (.dup, 1) := by decide +kernel
theorem dX10_valley_141 : decode cX10_valley 141 = .ok (.getfield 101, 3) := by decide +kernel
theorem dX10_valley_144 : decode cX10_valley 144 = .ok (.iconst 1, 1) := by decide +kernel
theorem dX10_valley_145 : decode cX10_valley 145 = .ok (.iadd, 1) := by decide +kernel
theorem dX10_valley_146 : decode cX10_valley 146 = .ok (.putfield 101, 3) := by decide +kernel
theorem dX10_valley_149 : decode cX10_valley 149 = .ok (.aload_n 0, 1) := by decide +kernel
theorem dX10_valley_150 : decode cX10_valley 150 = .ok (.iconst 0, 1) := by decide +kernel
theorem dX10_valley_151 : decode cX10_valley 151 = .ok (.putfield 68, 3) := by decide +kernel
theorem dX10_valley_154 : decode cX10_valley 154 = .ok (.aload_n 0, 1) := by decide +kernel
theorem dX10_valley_155 : decode cX10_valley 155 = .ok (.invokevirtual 104, 3) := by decide +kernel
theorem dX10_valley_158 : decode cX10_valley 158 = .ok (.ireturn, 1) := by decide +kernel
theorem dX10_lacks_0 : decode cX10_lacks 0 = .ok (.aload_n 0, 1) := by decide +kernel
theorem dX10_lacks_1 : decode cX10_lacks 1 = .ok (.getfield 83, 3) := by decide +kernel
theorem dX10_lacks_4 : decode cX10_lacks 4 = .ok (.ifCond .ne 7, 3) := by decide +kernel
theorem dX10_lacks_7 : decode cX10_lacks 7 = .ok (.iconst 1, 1) := by decide +kernel
theorem dX10_lacks_8 : decode cX10_lacks 8 = .ok (.goto 4, 3) := by decide +kernel
theorem dX10_lacks_11 : decode cX10_lacks 11 = .ok (.iconst 0, 1) := by decide +kernel
theorem dX10_lacks_12 : decode cX10_lacks 12 = .ok (.ireturn, 1) := by decide +kernel
theorem dX10_isCell_0 : decode cX10_isCell 0 = .ok (.iload_n 1, 1) := by decide +kernel
theorem dX10_isCell_1 : decode cX10_isCell 1 = .ok (.i2l, 1) := by decide +kernel
theorem dX10_isCell_2 : decode cX10_isCell 2 = .ok (.lconst 0, 1) := by decide +kernel
theorem dX10_isCell_3 : decode cX10_isCell 3 = .ok (.ldc2_w 107, 3) := by decide +kernel
theorem dX10_isCell_6 : decode cX10_isCell 6 = .ok (.invokestatic 64, 3) := by decide +kernel
theorem dX10_isCell_9 : decode cX10_isCell 9 = .ok (.ifCond .eq 14, 3) := by decide +kernel
theorem dX10_isCell_12 : decode cX10_isCell 12 = .ok (.aload_n 0, 1) := by decide +kernel
theorem dX10_isCell_13 : decode cX10_isCell 13 = .ok (.invokevirtual 109, 3) := by decide +kernel
theorem dX10_isCell_16 : decode cX10_isCell 16 = .ok (.ifCond .ne 7, 3) := by decide +kernel
theorem dX10_isCell_19 : decode cX10_isCell 19 = .ok (.iconst 1, 1) := by decide +kernel
theorem dX10_isCell_20 : decode cX10_isCell 20 = .ok (.goto 4, 3) := by decide +kernel
theorem dX10_isCell_23 : decode cX10_isCell 23 = .ok (.iconst 0, 1) := by decide +kernel
theorem dX10_isCell_24 : decode cX10_isCell 24 = .ok (.ireturn, 1) := by decide +kernel
theorem dX10_isSource_0 : decode cX10_isSource 0 = .ok (.iload_n 1, 1) := by decide +kernel
theorem dX10_isSource_1 : decode cX10_isSource 1 = .ok (.i2l, 1) := by decide +kernel
theorem dX10_isSource_2 : decode cX10_isSource 2 = .ok (.lconst 0, 1) := by decide +kernel
theorem dX10_isSource_3 : decode cX10_isSource 3 = .ok (.aload_n 0, 1) := by decide +kernel
theorem dX10_isSource_4 : decode cX10_isSource 4 = .ok (.getfield 95, 3) := by decide +kernel
theorem dX10_isSource_7 : decode cX10_isSource 7 = .ok (.iconst 1, 1) := by decide +kernel
theorem dX10_isSource_8 : decode cX10_isSource 8 = .ok (.isub, 1) := by decide +kernel
theorem dX10_isSource_9 : decode cX10_isSource 9 = .ok (.i2l, 1) := by decide +kernel
theorem dX10_isSource_10 : decode cX10_isSource 10 = .ok (.invokestatic 64, 3) := by decide +kernel
theorem dX10_isSource_13 : decode cX10_isSource 13 = .ok (.ireturn, 1) := by decide +kernel
theorem dX10_lay_0 : decode cX10_lay 0 = .ok (.aload_n 0, 1) := by decide +kernel
theorem dX10_lay_1 : decode cX10_lay 1 = .ok (.getfield 22, 3) := by decide +kernel
theorem dX10_lay_4 : decode cX10_lay 4 = .ok (.bipush 6, 2) := by decide +kernel
theorem dX10_lay_6 : decode cX10_lay 6 = .ok (.iload_n 1, 1) := by decide +kernel
theorem dX10_lay_7 : decode cX10_lay 7 = .ok (.imul, 1) := by decide +kernel
theorem dX10_lay_8 : decode cX10_lay 8 = .ok (.iload_n 2, 1) := by decide +kernel
theorem dX10_lay_9 : decode cX10_lay 9 = .ok (.iastore, 1) := by decide +kernel
theorem dX10_lay_10 : decode cX10_lay 10 = .ok (.aload_n 0, 1) := by decide +kernel
theorem dX10_lay_11 : decode cX10_lay 11 = .ok (.getfield 22, 3) := by decide +kernel
theorem dX10_lay_14 : decode cX10_lay 14 = .ok (.bipush 6, 2) := by decide +kernel
theorem dX10_lay_16 : decode cX10_lay 16 = .ok (.iload_n 1, 1) := by decide +kernel
theorem dX10_lay_17 : decode cX10_lay 17 = .ok (.imul, 1) := by decide +kernel
theorem dX10_lay_18 : decode cX10_lay 18 = .ok (.iconst 1, 1) := by decide +kernel
theorem dX10_lay_19 : decode cX10_lay 19 = .ok (.iadd, 1) := by decide +kernel
theorem dX10_lay_20 : decode cX10_lay 20 = .ok (.iload_n 3, 1) := by decide +kernel
theorem dX10_lay_21 : decode cX10_lay 21 = .ok (.iastore, 1) := by decide +kernel
theorem dX10_lay_22 : decode cX10_lay 22 = .ok (.aload_n 0, 1) := by decide +kernel
theorem dX10_lay_23 : decode cX10_lay 23 = .ok (.getfield 22, 3) := by decide +kernel
theorem dX10_lay_26 : decode cX10_lay 26 = .ok (.bipush 6, 2) := by decide +kernel
theorem dX10_lay_28 : decode cX10_lay 28 = .ok (.iload_n 1, 1) := by decide +kernel
theorem dX10_lay_29 : decode cX10_lay 29 = .ok (.imul, 1) := by decide +kernel
theorem dX10_lay_30 : decode cX10_lay 30 = .ok (.iconst 2, 1) := by decide +kernel
theorem dX10_lay_31 : decode cX10_lay 31 = .ok (.iadd, 1) := by decide +kernel
theorem dX10_lay_32 : decode cX10_lay 32 = .ok (.iload 4, 2) := by decide +kernel
theorem dX10_lay_34 : decode cX10_lay 34 = .ok (.iastore, 1) := by decide +kernel
theorem dX10_lay_35 : decode cX10_lay 35 = .ok (.aload_n 0, 1) := by decide +kernel
theorem dX10_lay_36 : decode cX10_lay 36 = .ok (.getfield 22, 3) := by decide +kernel
theorem dX10_lay_39 : decode cX10_lay 39 = .ok (.bipush 6, 2) := by decide +kernel
theorem dX10_lay_41 : decode cX10_lay 41 = .ok (.iload_n 1, 1) := by decide +kernel
theorem dX10_lay_42 : decode cX10_lay 42 = .ok (.imul, 1) := by decide +kernel
theorem dX10_lay_43 : decode cX10_lay 43 = .ok (.iconst 3, 1) := by decide +kernel
theorem dX10_lay_44 : decode cX10_lay 44 = .ok (.iadd, 1) := by decide +kernel
theorem dX10_lay_45 : decode cX10_lay 45 = .ok (.iload 5, 2) := by decide +kernel
theorem dX10_lay_47 : decode cX10_lay 47 = .ok (.iastore, 1) := by decide +kernel
theorem dX10_lay_48 : decode cX10_lay 48 = .ok (.aload_n 0, 1) := by decide +kernel
theorem dX10_lay_49 : decode cX10_lay 49 = .ok (.getfield 22, 3) := by decide +kernel
theorem dX10_lay_52 : decode cX10_lay 52 = .ok (.bipush 6, 2) := by decide +kernel
theorem dX10_lay_54 : decode cX10_lay 54 = .ok (.iload_n 1, 1) := by decide +kernel
theorem dX10_lay_55 : decode cX10_lay 55 = .ok (.imul, 1) := by decide +kernel
theorem dX10_lay_56 : decode cX10_lay 56 = .ok (.iconst 4, 1) := by decide +kernel
theorem dX10_lay_57 : decode cX10_lay 57 = .ok (.iadd, 1) := by decide +kernel
theorem dX10_lay_58 : decode cX10_lay 58 = .ok (.iconst 1, 1) := by decide +kernel
theorem dX10_lay_59 : decode cX10_lay 59 = .ok (.iastore, 1) := by decide +kernel
theorem dX10_lay_60 : decode cX10_lay 60 = .ok (.aload_n 0, 1) := by decide +kernel
theorem dX10_lay_61 : decode cX10_lay 61 = .ok (.getfield 22, 3) := by decide +kernel
theorem dX10_lay_64 : decode cX10_lay 64 = .ok (.bipush 6, 2) := by decide +kernel
theorem dX10_lay_66 : decode cX10_lay 66 = .ok (.iload_n 1, 1) := by decide +kernel
theorem dX10_lay_67 : decode cX10_lay 67 = .ok (.imul, 1) := by decide +kernel
theorem dX10_lay_68 : decode cX10_lay 68 = .ok (.iconst 5, 1) := by decide +kernel
theorem dX10_lay_69 : decode cX10_lay 69 = .ok (.iadd, 1) := by decide +kernel
theorem dX10_lay_70 : decode cX10_lay 70 = .ok (.iconst 0, 1) := by decide +kernel
theorem dX10_lay_71 : decode cX10_lay 71 = .ok (.iastore, 1) := by decide +kernel
theorem dX10_lay_72 : decode cX10_lay 72 = .ok (.return_, 1) := by decide +kernel
theorem dX10_source_0 : decode cX10_source 0 = .ok (.iload_n 1, 1) := by decide +kernel
theorem dX10_source_1 : decode cX10_source 1 = .ok (.i2l, 1) := by decide +kernel
theorem dX10_source_2 : decode cX10_source 2 = .ok (.lconst 0, 1) := by decide +kernel
theorem dX10_source_3 : decode cX10_source 3 = .ok (.ldc2_w 113, 3) := by decide +kernel
theorem dX10_source_6 : decode cX10_source 6 = .ok (.invokestatic 64, 3) := by decide +kernel
theorem dX10_source_9 : decode cX10_source 9 = .ok (.ifCond .eq 28, 3) := by decide +kernel
theorem dX10_source_12 : decode cX10_source 12 = .ok (.iload_n 2, 1) := by decide +kernel
theorem dX10_source_13 : decode cX10_source 13 = .ok (.i2l, 1) := by decide +kernel
theorem dX10_source_14 : decode cX10_source 14 = .ok (.lconst 0, 1) := by decide +kernel
theorem dX10_source_15 : decode cX10_source 15 = .ok (.ldc2_w 115, 3) := by decide +kernel
theorem dX10_source_18 : decode cX10_source 18 = .ok (.invokestatic 64, 3) := by decide +kernel
theorem dX10_source_21 : decode cX10_source 21 = .ok (.ifCond .eq 16, 3) := by decide +kernel
theorem dX10_source_24 : decode cX10_source 24 = .ok (.iload 4, 2) := by decide +kernel
theorem dX10_source_26 : decode cX10_source 26 = .ok (.i2l, 1) := by decide +kernel
theorem dX10_source_27 : decode cX10_source 27 = .ok (.lconst 1, 1) := by decide +kernel
theorem dX10_source_28 : decode cX10_source 28 = .ok (.ldc2_w 117, 3) := by decide +kernel
theorem dX10_source_31 : decode cX10_source 31 = .ok (.invokestatic 64, 3) := by decide +kernel
theorem dX10_source_34 : decode cX10_source 34 = .ok (.ifCond .ne 6, 3) := by decide +kernel
theorem dX10_source_37 : decode cX10_source 37 = .ok (.bipush (-102), 2) := by decide +kernel
theorem dX10_source_39 : decode cX10_source 39 = .ok (.ireturn, 1) := by decide +kernel
theorem dX10_source_40 : decode cX10_source 40 = .ok (.aload_n 0, 1) := by decide +kernel
theorem dX10_source_41 : decode cX10_source 41 = .ok (.iload_n 3, 1) := by decide +kernel
theorem dX10_source_42 : decode cX10_source 42 = .ok (.invokevirtual 119, 3) := by decide +kernel
theorem dX10_source_45 : decode cX10_source 45 = .ok (.ifCond .ne 6, 3) := by decide +kernel
theorem dX10_source_48 : decode cX10_source 48 = .ok (.bipush (-101), 2) := by decide +kernel
theorem dX10_source_50 : decode cX10_source 50 = .ok (.ireturn, 1) := by decide +kernel
theorem dX10_source_51 : decode cX10_source 51 = .ok (.aload_n 0, 1) := by decide +kernel
theorem dX10_source_52 : decode cX10_source 52 = .ok (.getfield 13, 3) := by decide +kernel
theorem dX10_source_55 : decode cX10_source 55 = .ok (.iload_n 3, 1) := by decide +kernel
theorem dX10_source_56 : decode cX10_source 56 = .ok (.iaload, 1) := by decide +kernel
theorem dX10_source_57 : decode cX10_source 57 = .ok (.ifCond .eq 6, 3) := by decide +kernel
theorem dX10_source_60 : decode cX10_source 60 = .ok (.bipush (-103), 2) := by decide +kernel
theorem dX10_source_62 : decode cX10_source 62 = .ok (.ireturn, 1) := by decide +kernel
theorem dX10_source_63 : decode cX10_source 63 = .ok (.aload_n 0, 1) := by decide +kernel
theorem dX10_source_64 : decode cX10_source 64 = .ok (.getfield 95, 3) := by decide +kernel
theorem dX10_source_67 : decode cX10_source 67 = .ok (.bipush 6, 2) := by decide +kernel
theorem dX10_source_69 : decode cX10_source 69 = .ok (.if_icmp .ne 6, 3) := by decide +kernel
theorem dX10_source_72 : decode cX10_source 72 = .ok (.bipush (-104), 2) := by decide +kernel
theorem dX10_source_74 : decode cX10_source 74 = .ok (.ireturn, 1) := by decide +kernel
theorem dX10_source_75 : decode cX10_source 75 = .ok (.aload_n 0, 1) := by decide +kernel
theorem dX10_source_76 : decode cX10_source 76 = .ok (.aload_n 0, 1) := by decide +kernel
theorem dX10_source_77 : decode cX10_source 77 = .ok (.getfield 95, 3) := by decide +kernel
theorem dX10_source_80 : decode cX10_source 80 = .ok (.iload_n 1, 1) := by decide +kernel
theorem dX10_source_81 : decode cX10_source 81 = .ok (.iload_n 2, 1) := by decide +kernel
theorem dX10_source_82 : decode cX10_source 82 = .ok (.iload_n 3, 1) := by decide +kernel
theorem dX10_source_83 : decode cX10_source 83 = .ok (.iload 4, 2) := by decide +kernel
theorem dX10_source_85 : decode cX10_source 85 = .ok (.invokevirtual 123, 3) := by decide +kernel
theorem dX10_source_88 : decode cX10_source 88 = .ok (.aload_n 0, 1) := by decide +kernel
theorem dX10_source_89 : decode cX10_source 89 = .ok (.dup, 1) := by decide +kernel
theorem dX10_source_90 : decode cX10_source 90 = .ok (.getfield 95, 3) := by decide +kernel
theorem dX10_source_93 : decode cX10_source 93 = .ok (.iconst 1, 1) := by decide +kernel
theorem dX10_source_94 : decode cX10_source 94 = .ok (.iadd, 1) := by decide +kernel
theorem dX10_source_95 : decode cX10_source 95 = .ok (.putfield 95, 3) := by decide +kernel
theorem dX10_source_98 : decode cX10_source 98 = .ok (.aload_n 0, 1) := by decide +kernel
theorem dX10_source_99 : decode cX10_source 99 = .ok (.getfield 95, 3) := by decide +kernel
theorem dX10_source_102 : decode cX10_source 102 = .ok (.iconst 1, 1) := by decide +kernel
theorem dX10_source_103 : decode cX10_source 103 = .ok (.isub, 1) := by decide +kernel
theorem dX10_source_104 : decode cX10_source 104 = .ok (.ireturn, 1) := by decide +kernel
theorem dX10_smells_0 : decode cX10_smells 0 = .ok (.aload_n 0, 1) := by decide +kernel
theorem dX10_smells_1 : decode cX10_smells 1 = .ok (.getfield 22, 3) := by decide +kernel
theorem dX10_smells_4 : decode cX10_smells 4 = .ok (.bipush 6, 2) := by decide +kernel
theorem dX10_smells_6 : decode cX10_smells 6 = .ok (.iload_n 1, 1) := by decide +kernel
theorem dX10_smells_7 : decode cX10_smells 7 = .ok (.imul, 1) := by decide +kernel
theorem dX10_smells_8 : decode cX10_smells 8 = .ok (.iaload, 1) := by decide +kernel
theorem dX10_smells_9 : decode cX10_smells 9 = .ok (.istore_n 2, 1) := by decide +kernel
theorem dX10_smells_10 : decode cX10_smells 10 = .ok (.aload_n 0, 1) := by decide +kernel
theorem dX10_smells_11 : decode cX10_smells 11 = .ok (.getfield 22, 3) := by decide +kernel
theorem dX10_smells_14 : decode cX10_smells 14 = .ok (.bipush 6, 2) := by decide +kernel
theorem dX10_smells_16 : decode cX10_smells 16 = .ok (.iload_n 1, 1) := by decide +kernel
theorem dX10_smells_17 : decode cX10_smells 17 = .ok (.imul, 1) := by decide +kernel
theorem dX10_smells_18 : decode cX10_smells 18 = .ok (.iconst 4, 1) := by decide +kernel
theorem dX10_smells_19 : decode cX10_smells 19 = .ok (.iadd, 1) := by decide +kernel
theorem dX10_smells_20 : decode cX10_smells 20 = .ok (.iaload, 1) := by decide +kernel
theorem dX10_smells_21 : decode cX10_smells 21 = .ok (.iconst 1, 1) := by decide +kernel
theorem dX10_smells_22 : decode cX10_smells 22 = .ok (.if_icmp .ne 33, 3) := by decide +kernel
theorem dX10_smells_25 : decode cX10_smells 25 = .ok (.iload_n 2, 1) := by decide +kernel
theorem dX10_smells_26 : decode cX10_smells 26 = .ok (.iconst 4, 1) := by decide +kernel
theorem dX10_smells_27 : decode cX10_smells 27 = .ok (.if_icmp .eq 24, 3) := by decide +kernel
theorem dX10_smells_30 : decode cX10_smells 30 = .ok (.aload_n 0, 1) := by decide +kernel
theorem dX10_smells_31 : decode cX10_smells 31 = .ok (.getfield 89, 3) := by decide +kernel
theorem dX10_smells_34 : decode cX10_smells 34 = .ok (.ifCond .ne 21, 3) := by decide +kernel
theorem dX10_smells_37 : decode cX10_smells 37 = .ok (.iload_n 2, 1) := by decide +kernel
theorem dX10_smells_38 : decode cX10_smells 38 = .ok (.iconst 2, 1) := by decide +kernel
theorem dX10_smells_39 : decode cX10_smells 39 = .ok (.if_icmp .ne 12, 3) := by decide +kernel
theorem dX10_smells_42 : decode cX10_smells 42 = .ok (.aload_n 0, 1) := by decide +kernel
theorem dX10_smells_43 : decode cX10_smells 43 = .ok (.getfield 92, 3) := by decide +kernel
theorem dX10_smells_46 : decode cX10_smells 46 = .ok (.iconst 2, 1) := by decide +kernel
theorem dX10_smells_47 : decode cX10_smells 47 = .ok (.irem, 1) := by decide +kernel
theorem dX10_smells_48 : decode cX10_smells 48 = .ok (.ifCond .ne 7, 3) := by decide +kernel
theorem dX10_smells_51 : decode cX10_smells 51 = .ok (.iconst 1, 1) := by decide +kernel
theorem dX10_smells_52 : decode cX10_smells 52 = .ok (.goto 4, 3) := by decide +kernel
theorem dX10_smells_55 : decode cX10_smells 55 = .ok (.iconst 0, 1) := by decide +kernel
theorem dX10_smells_56 : decode cX10_smells 56 = .ok (.ireturn, 1) := by decide +kernel
theorem dX10_forceOf_0 : decode cX10_forceOf 0 = .ok (.aload_n 0, 1) := by decide +kernel
theorem dX10_forceOf_1 : decode cX10_forceOf 1 = .ok (.getfield 22, 3) := by decide +kernel
theorem dX10_forceOf_4 : decode cX10_forceOf 4 = .ok (.bipush 6, 2) := by decide +kernel
theorem dX10_forceOf_6 : decode cX10_forceOf 6 = .ok (.iload_n 1, 1) := by decide +kernel
theorem dX10_forceOf_7 : decode cX10_forceOf 7 = .ok (.imul, 1) := by decide +kernel
theorem dX10_forceOf_8 : decode cX10_forceOf 8 = .ok (.iconst 3, 1) := by decide +kernel
theorem dX10_forceOf_9 : decode cX10_forceOf 9 = .ok (.iadd, 1) := by decide +kernel
theorem dX10_forceOf_10 : decode cX10_forceOf 10 = .ok (.iaload, 1) := by decide +kernel
theorem dX10_forceOf_11 : decode cX10_forceOf 11 = .ok (.aload_n 0, 1) := by decide +kernel
theorem dX10_forceOf_12 : decode cX10_forceOf 12 = .ok (.getfield 22, 3) := by decide +kernel
theorem dX10_forceOf_15 : decode cX10_forceOf 15 = .ok (.bipush 6, 2) := by decide +kernel
theorem dX10_forceOf_17 : decode cX10_forceOf 17 = .ok (.iload_n 1, 1) := by decide +kernel
theorem dX10_forceOf_18 : decode cX10_forceOf 18 = .ok (.imul, 1) := by decide +kernel
theorem dX10_forceOf_19 : decode cX10_forceOf 19 = .ok (.iaload, 1) := by decide +kernel
theorem dX10_forceOf_20 : decode cX10_forceOf 20 = .ok (.iconst 1, 1) := by decide +kernel
theorem dX10_forceOf_21 : decode cX10_forceOf 21 = .ok (.if_icmp .ne 17, 3) := by decide +kernel
theorem dX10_forceOf_24 : decode cX10_forceOf 24 = .ok (.aload_n 0, 1) := by decide +kernel
theorem dX10_forceOf_25 : decode cX10_forceOf 25 = .ok (.getfield 22, 3) := by decide +kernel
theorem dX10_forceOf_28 : decode cX10_forceOf 28 = .ok (.bipush 6, 2) := by decide +kernel
theorem dX10_forceOf_30 : decode cX10_forceOf 30 = .ok (.iload_n 1, 1) := by decide +kernel
theorem dX10_forceOf_31 : decode cX10_forceOf 31 = .ok (.imul, 1) := by decide +kernel
theorem dX10_forceOf_32 : decode cX10_forceOf 32 = .ok (.iconst 5, 1) := by decide +kernel
theorem dX10_forceOf_33 : decode cX10_forceOf 33 = .ok (.iadd, 1) := by decide +kernel
theorem dX10_forceOf_34 : decode cX10_forceOf 34 = .ok (.iaload, 1) := by decide +kernel
theorem dX10_forceOf_35 : decode cX10_forceOf 35 = .ok (.goto 4, 3) := by decide +kernel
theorem dX10_forceOf_38 : decode cX10_forceOf 38 = .ok (.iconst 0, 1) := by decide +kernel
theorem dX10_forceOf_39 : decode cX10_forceOf 39 = .ok (.iadd, 1) := by decide +kernel
theorem dX10_forceOf_40 : decode cX10_forceOf 40 = .ok (.istore_n 2, 1) := by decide +kernel
theorem dX10_forceOf_41 : decode cX10_forceOf 41 = .ok (.iload_n 2, 1) := by decide +kernel
theorem dX10_forceOf_42 : decode cX10_forceOf 42 = .ok (.bipush 9, 2) := by decide +kernel
theorem dX10_forceOf_44 : decode cX10_forceOf 44 = .ok (.if_icmp .le 8, 3) := by decide +kernel
theorem dX10_forceOf_47 : decode cX10_forceOf 47 = .ok (.bipush 9, 2) := by decide +kernel
theorem dX10_forceOf_49 : decode cX10_forceOf 49 = .ok (.goto 4, 3) := by decide +kernel
theorem dX10_forceOf_52 : decode cX10_forceOf 52 = .ok (.iload_n 2, 1) := by decide +kernel
theorem dX10_forceOf_53 : decode cX10_forceOf 53 = .ok (.ireturn, 1) := by decide +kernel
theorem dX10_beside_0 : decode cX10_beside 0 = .ok (.iload_n 0, 1) := by decide +kernel
theorem dX10_beside_1 : decode cX10_beside 1 = .ok (.iconst 4, 1) := by decide +kernel
theorem dX10_beside_2 : decode cX10_beside 2 = .ok (.irem, 1) := by decide +kernel
theorem dX10_beside_3 : decode cX10_beside 3 = .ok (.istore_n 2, 1) := by decide +kernel
theorem dX10_beside_4 : decode cX10_beside 4 = .ok (.iload_n 1, 1) := by decide +kernel
theorem dX10_beside_5 : decode cX10_beside 5 = .ok (.iconst 1, 1) := by decide +kernel
theorem dX10_beside_6 : decode cX10_beside 6 = .ok (.if_icmp .ne 16, 3) := by decide +kernel
theorem dX10_beside_9 : decode cX10_beside 9 = .ok (.iload_n 2, 1) := by decide +kernel
theorem dX10_beside_10 : decode cX10_beside 10 = .ok (.iconst 3, 1) := by decide +kernel
theorem dX10_beside_11 : decode cX10_beside 11 = .ok (.if_icmp .ge 9, 3) := by decide +kernel
theorem dX10_beside_14 : decode cX10_beside 14 = .ok (.iload_n 0, 1) := by decide +kernel
theorem dX10_beside_15 : decode cX10_beside 15 = .ok (.iconst 1, 1) := by decide +kernel
theorem dX10_beside_16 : decode cX10_beside 16 = .ok (.iadd, 1) := by decide +kernel
theorem dX10_beside_17 : decode cX10_beside 17 = .ok (.goto 4, 3) := by decide +kernel
theorem dX10_beside_20 : decode cX10_beside 20 = .ok (.iconst (-1), 1) := by decide +kernel
theorem dX10_beside_21 : decode cX10_beside 21 = .ok (.ireturn, 1) := by decide +kernel
theorem dX10_beside_22 : decode cX10_beside 22 = .ok (.iload_n 1, 1) := by decide +kernel
theorem dX10_beside_23 : decode cX10_beside 23 = .ok (.iconst 2, 1) := by decide +kernel
theorem dX10_beside_24 : decode cX10_beside 24 = .ok (.if_icmp .ne 15, 3) := by decide +kernel
theorem dX10_beside_27 : decode cX10_beside 27 = .ok (.iload_n 2, 1) := by decide +kernel
theorem dX10_beside_28 : decode cX10_beside 28 = .ok (.ifCond .le 9, 3) := by decide +kernel
theorem dX10_beside_31 : decode cX10_beside 31 = .ok (.iload_n 0, 1) := by decide +kernel
theorem dX10_beside_32 : decode cX10_beside 32 = .ok (.iconst 1, 1) := by decide +kernel
theorem dX10_beside_33 : decode cX10_beside 33 = .ok (.isub, 1) := by decide +kernel
theorem dX10_beside_34 : decode cX10_beside 34 = .ok (.goto 4, 3) := by decide +kernel
theorem dX10_beside_37 : decode cX10_beside 37 = .ok (.iconst (-1), 1) := by decide +kernel
theorem dX10_beside_38 : decode cX10_beside 38 = .ok (.ireturn, 1) := by decide +kernel
theorem dX10_beside_39 : decode cX10_beside 39 = .ok (.iload_n 1, 1) := by decide +kernel
theorem dX10_beside_40 : decode cX10_beside 40 = .ok (.iconst 3, 1) := by decide +kernel
theorem dX10_beside_41 : decode cX10_beside 41 = .ok (.if_icmp .ne 18, 3) := by decide +kernel
theorem dX10_beside_44 : decode cX10_beside 44 = .ok (.iload_n 0, 1) := by decide +kernel
theorem dX10_beside_45 : decode cX10_beside 45 = .ok (.iconst 4, 1) := by decide +kernel
theorem dX10_beside_46 : decode cX10_beside 46 = .ok (.if_icmp .ge 9, 3) := by decide +kernel
theorem dX10_beside_49 : decode cX10_beside 49 = .ok (.iload_n 0, 1) := by decide +kernel
theorem dX10_beside_50 : decode cX10_beside 50 = .ok (.iconst 4, 1) := by decide +kernel
theorem dX10_beside_51 : decode cX10_beside 51 = .ok (.iadd, 1) := by decide +kernel
theorem dX10_beside_52 : decode cX10_beside 52 = .ok (.goto 19, 3) := by decide +kernel
theorem dX10_beside_55 : decode cX10_beside 55 = .ok (.iconst (-1), 1) := by decide +kernel
theorem dX10_beside_56 : decode cX10_beside 56 = .ok (.goto 15, 3) := by decide +kernel
theorem dX10_beside_59 : decode cX10_beside 59 = .ok (.iload_n 0, 1) := by decide +kernel
theorem dX10_beside_60 : decode cX10_beside 60 = .ok (.iconst 3, 1) := by decide +kernel
theorem dX10_beside_61 : decode cX10_beside 61 = .ok (.if_icmp .le 9, 3) := by decide +kernel
theorem dX10_beside_64 : decode cX10_beside 64 = .ok (.iload_n 0, 1) := by decide +kernel
theorem dX10_beside_65 : decode cX10_beside 65 = .ok (.iconst 4, 1) := by decide +kernel
theorem dX10_beside_66 : decode cX10_beside 66 = .ok (.isub, 1) := by decide +kernel
theorem dX10_beside_67 : decode cX10_beside 67 = .ok (.goto 4, 3) := by decide +kernel
theorem dX10_beside_70 : decode cX10_beside 70 = .ok (.iconst (-1), 1) := by decide +kernel
theorem dX10_beside_71 : decode cX10_beside 71 = .ok (.ireturn, 1) := by decide +kernel
theorem dX10_against_0 : decode cX10_against 0 = .ok (.iload_n 0, 1) := by decide +kernel
theorem dX10_against_1 : decode cX10_against 1 = .ok (.ifCond .ne 7, 3) := by decide +kernel
theorem dX10_against_4 : decode cX10_against 4 = .ok (.iconst 0, 1) := by decide +kernel
theorem dX10_against_5 : decode cX10_against 5 = .ok (.goto 19, 3) := by decide +kernel
theorem dX10_against_8 : decode cX10_against 8 = .ok (.iload_n 0, 1) := by decide +kernel
theorem dX10_against_9 : decode cX10_against 9 = .ok (.iconst 2, 1) := by decide +kernel
theorem dX10_against_10 : decode cX10_against 10 = .ok (.irem, 1) := by decide +kernel
theorem dX10_against_11 : decode cX10_against 11 = .ok (.iconst 1, 1) := by decide +kernel
theorem dX10_against_12 : decode cX10_against 12 = .ok (.if_icmp .ne 9, 3) := by decide +kernel
theorem dX10_against_15 : decode cX10_against 15 = .ok (.iload_n 0, 1) := by decide +kernel
theorem dX10_against_16 : decode cX10_against 16 = .ok (.iconst 1, 1) := by decide +kernel
theorem dX10_against_17 : decode cX10_against 17 = .ok (.iadd, 1) := by decide +kernel
theorem dX10_against_18 : decode cX10_against 18 = .ok (.goto 6, 3) := by decide +kernel
theorem dX10_against_21 : decode cX10_against 21 = .ok (.iload_n 0, 1) := by decide +kernel
theorem dX10_against_22 : decode cX10_against 22 = .ok (.iconst 1, 1) := by decide +kernel
theorem dX10_against_23 : decode cX10_against 23 = .ok (.isub, 1) := by decide +kernel
theorem dX10_against_24 : decode cX10_against 24 = .ok (.ireturn, 1) := by decide +kernel
theorem dX10_lossOf_0 : decode cX10_lossOf 0 = .ok (.aload_n 0, 1) := by decide +kernel
theorem dX10_lossOf_1 : decode cX10_lossOf 1 = .ok (.getfield 83, 3) := by decide +kernel
theorem dX10_lossOf_4 : decode cX10_lossOf 4 = .ok (.iload_n 1, 1) := by decide +kernel
theorem dX10_lossOf_5 : decode cX10_lossOf 5 = .ok (.iconst 2, 1) := by decide +kernel
theorem dX10_lossOf_6 : decode cX10_lossOf 6 = .ok (.if_icmp .le 7, 3) := by decide +kernel
theorem dX10_lossOf_9 : decode cX10_lossOf 9 = .ok (.iconst 1, 1) := by decide +kernel
theorem dX10_lossOf_10 : decode cX10_lossOf 10 = .ok (.goto 4, 3) := by decide +kernel
theorem dX10_lossOf_13 : decode cX10_lossOf 13 = .ok (.iconst 0, 1) := by decide +kernel
theorem dX10_lossOf_14 : decode cX10_lossOf 14 = .ok (.isub, 1) := by decide +kernel
theorem dX10_lossOf_15 : decode cX10_lossOf 15 = .ok (.istore 4, 2) := by decide +kernel
theorem dX10_lossOf_17 : decode cX10_lossOf 17 = .ok (.iload 4, 2) := by decide +kernel
theorem dX10_lossOf_19 : decode cX10_lossOf 19 = .ok (.iload_n 2, 1) := by decide +kernel
theorem dX10_lossOf_20 : decode cX10_lossOf 20 = .ok (.aload_n 0, 1) := by decide +kernel
theorem dX10_lossOf_21 : decode cX10_lossOf 21 = .ok (.getfield 86, 3) := by decide +kernel
theorem dX10_lossOf_24 : decode cX10_lossOf 24 = .ok (.if_icmp .ne 7, 3) := by decide +kernel
theorem dX10_lossOf_27 : decode cX10_lossOf 27 = .ok (.iconst (-1), 1) := by decide +kernel
theorem dX10_lossOf_28 : decode cX10_lossOf 28 = .ok (.goto 26, 3) := by decide +kernel
theorem dX10_lossOf_31 : decode cX10_lossOf 31 = .ok (.aload_n 0, 1) := by decide +kernel
theorem dX10_lossOf_32 : decode cX10_lossOf 32 = .ok (.getfield 86, 3) := by decide +kernel
theorem dX10_lossOf_35 : decode cX10_lossOf 35 = .ok (.ifCond .le 18, 3) := by decide +kernel
theorem dX10_lossOf_38 : decode cX10_lossOf 38 = .ok (.iload_n 2, 1) := by decide +kernel
theorem dX10_lossOf_39 : decode cX10_lossOf 39 = .ok (.aload_n 0, 1) := by decide +kernel
theorem dX10_lossOf_40 : decode cX10_lossOf 40 = .ok (.getfield 86, 3) := by decide +kernel
theorem dX10_lossOf_43 : decode cX10_lossOf 43 = .ok (.invokestatic 127, 3) := by decide +kernel
theorem dX10_lossOf_46 : decode cX10_lossOf 46 = .ok (.if_icmp .ne 7, 3) := by decide +kernel
theorem dX10_lossOf_49 : decode cX10_lossOf 49 = .ok (.iconst 1, 1) := by decide +kernel
theorem dX10_lossOf_50 : decode cX10_lossOf 50 = .ok (.goto 4, 3) := by decide +kernel
theorem dX10_lossOf_53 : decode cX10_lossOf 53 = .ok (.iconst 0, 1) := by decide +kernel
theorem dX10_lossOf_54 : decode cX10_lossOf 54 = .ok (.iadd, 1) := by decide +kernel
theorem dX10_lossOf_55 : decode cX10_lossOf 55 = .ok (.istore 4, 2) := by decide +kernel
theorem dX10_lossOf_57 : decode cX10_lossOf 57 = .ok (.iload 4, 2) := by decide +kernel
theorem dX10_lossOf_59 : decode cX10_lossOf 59 = .ok (.aload_n 0, 1) := by decide +kernel
theorem dX10_lossOf_60 : decode cX10_lossOf 60 = .ok (.getfield 13, 3) := by decide +kernel
theorem dX10_lossOf_63 : decode cX10_lossOf 63 = .ok (.iload_n 3, 1) := by decide +kernel
theorem dX10_lossOf_64 : decode cX10_lossOf 64 = .ok (.iaload, 1) := by decide +kernel
theorem dX10_lossOf_65 : decode cX10_lossOf 65 = .ok (.iconst 2, 1) := by decide +kernel
theorem dX10_lossOf_66 : decode cX10_lossOf 66 = .ok (.if_icmp .ne 7, 3) := by decide +kernel
theorem dX10_lossOf_69 : decode cX10_lossOf 69 = .ok (.iconst 2, 1) := by decide +kernel
theorem dX10_lossOf_70 : decode cX10_lossOf 70 = .ok (.goto 4, 3) := by decide +kernel
theorem dX10_lossOf_73 : decode cX10_lossOf 73 = .ok (.iconst 0, 1) := by decide +kernel
theorem dX10_lossOf_74 : decode cX10_lossOf 74 = .ok (.iadd, 1) := by decide +kernel
theorem dX10_lossOf_75 : decode cX10_lossOf 75 = .ok (.istore 4, 2) := by decide +kernel
theorem dX10_lossOf_77 : decode cX10_lossOf 77 = .ok (.iload 4, 2) := by decide +kernel
theorem dX10_lossOf_79 : decode cX10_lossOf 79 = .ok (.ifCond .ge 7, 3) := by decide +kernel
theorem dX10_lossOf_82 : decode cX10_lossOf 82 = .ok (.iconst 0, 1) := by decide +kernel
theorem dX10_lossOf_83 : decode cX10_lossOf 83 = .ok (.goto 5, 3) := by decide +kernel
theorem dX10_lossOf_86 : decode cX10_lossOf 86 = .ok (.iload 4, 2) := by decide +kernel
theorem dX10_lossOf_88 : decode cX10_lossOf 88 = .ok (.ireturn, 1) := by decide +kernel
theorem dX10_layMuch_0 : decode cX10_layMuch 0 = .ok (.iconst 0, 1) := by decide +kernel
theorem dX10_layMuch_1 : decode cX10_layMuch 1 = .ok (.istore_n 2, 1) := by decide +kernel
theorem dX10_layMuch_2 : decode cX10_layMuch 2 = .ok (.iload_n 2, 1) := by decide +kernel
theorem dX10_layMuch_3 : decode cX10_layMuch 3 = .ok (.bipush 8, 2) := by decide +kernel
theorem dX10_layMuch_5 : decode cX10_layMuch 5 = .ok (.if_icmp .ge 16, 3) := by decide +kernel
theorem dX10_layMuch_8 : decode cX10_layMuch 8 = .ok (.aload_n 0, 1) := by decide +kernel
theorem dX10_layMuch_9 : decode cX10_layMuch 9 = .ok (.getfield 25, 3) := by decide +kernel
theorem dX10_layMuch_12 : decode cX10_layMuch 12 = .ok (.iload_n 2, 1) := by decide +kernel
theorem dX10_layMuch_13 : decode cX10_layMuch 13 = .ok (.iconst 0, 1) := by decide +kernel
theorem dX10_layMuch_14 : decode cX10_layMuch 14 = .ok (.iastore, 1) := by decide +kernel
theorem dX10_layMuch_15 : decode cX10_layMuch 15 = .ok (.iinc 2 1, 3) := by decide +kernel
theorem dX10_layMuch_18 : decode cX10_layMuch 18 = .ok (.goto (-16), 3) := by decide +kernel
theorem dX10_layMuch_21 : decode cX10_layMuch 21 = .ok (.aload_n 0, 1) := by decide +kernel
theorem dX10_layMuch_22 : decode cX10_layMuch 22 = .ok (.iload_n 1, 1) := by decide +kernel
theorem dX10_layMuch_23 : decode cX10_layMuch 23 = .ok (.invokevirtual 131, 3) := by decide +kernel
theorem dX10_layMuch_26 : decode cX10_layMuch 26 = .ok (.ifCond .ne 4, 3) := by decide +kernel
theorem dX10_layMuch_29 : decode cX10_layMuch 29 = .ok (.return_, 1) := by decide +kernel
theorem dX10_layMuch_30 : decode cX10_layMuch 30 = .ok (.aload_n 0, 1) := by decide +kernel
theorem dX10_layMuch_31 : decode cX10_layMuch 31 = .ok (.getfield 25, 3) := by decide +kernel
theorem dX10_layMuch_34 : decode cX10_layMuch 34 = .ok (.aload_n 0, 1) := by decide +kernel
theorem dX10_layMuch_35 : decode cX10_layMuch 35 = .ok (.getfield 22, 3) := by decide +kernel
theorem dX10_layMuch_38 : decode cX10_layMuch 38 = .ok (.bipush 6, 2) := by decide +kernel
theorem dX10_layMuch_40 : decode cX10_layMuch 40 = .ok (.iload_n 1, 1) := by decide +kernel
theorem dX10_layMuch_41 : decode cX10_layMuch 41 = .ok (.imul, 1) := by decide +kernel
theorem dX10_layMuch_42 : decode cX10_layMuch 42 = .ok (.iconst 2, 1) := by decide +kernel
theorem dX10_layMuch_43 : decode cX10_layMuch 43 = .ok (.iadd, 1) := by decide +kernel
theorem dX10_layMuch_44 : decode cX10_layMuch 44 = .ok (.iaload, 1) := by decide +kernel
theorem dX10_layMuch_45 : decode cX10_layMuch 45 = .ok (.aload_n 0, 1) := by decide +kernel
theorem dX10_layMuch_46 : decode cX10_layMuch 46 = .ok (.iload_n 1, 1) := by decide +kernel
theorem dX10_layMuch_47 : decode cX10_layMuch 47 = .ok (.invokevirtual 134, 3) := by decide +kernel
theorem dX10_layMuch_50 : decode cX10_layMuch 50 = .ok (.iastore, 1) := by decide +kernel
theorem dX10_layMuch_51 : decode cX10_layMuch 51 = .ok (.iconst 1, 1) := by decide +kernel
theorem dX10_layMuch_52 : decode cX10_layMuch 52 = .ok (.istore_n 2, 1) := by decide +kernel
theorem dX10_layMuch_53 : decode cX10_layMuch 53 = .ok (.iload_n 2, 1) := by decide +kernel
theorem dX10_layMuch_54 : decode cX10_layMuch 54 = .ok (.ifCond .eq 150, 3) := by decide +kernel
theorem dX10_layMuch_57 : decode cX10_layMuch 57 = .ok (.iconst 0, 1) := by decide +kernel
theorem dX10_layMuch_58 : decode cX10_layMuch 58 = .ok (.istore_n 2, 1) := by decide +kernel
theorem dX10_layMuch_59 : decode cX10_layMuch 59 = .ok (.iconst 0, 1) := by decide +kernel
theorem dX10_layMuch_60 : decode cX10_layMuch 60 = .ok (.istore_n 3, 1) := by decide +kernel
theorem dX10_layMuch_61 : decode cX10_layMuch 61 = .ok (.iload_n 3, 1) := by decide +kernel
theorem dX10_layMuch_62 : decode cX10_layMuch 62 = .ok (.bipush 32, 2) := by decide +kernel
theorem dX10_layMuch_64 : decode cX10_layMuch 64 = .ok (.if_icmp .ge 137, 3) := by decide +kernel
theorem dX10_layMuch_67 : decode cX10_layMuch 67 = .ok (.iload_n 3, 1) := by decide +kernel
theorem dX10_layMuch_68 : decode cX10_layMuch 68 = .ok (.iconst 4, 1) := by decide +kernel
theorem dX10_layMuch_69 : decode cX10_layMuch 69 = .ok (.idiv, 1) := by decide +kernel
theorem dX10_layMuch_70 : decode cX10_layMuch 70 = .ok (.istore 4, 2) := by decide +kernel
theorem dX10_layMuch_72 : decode cX10_layMuch 72 = .ok (.iload_n 3, 1) := by decide +kernel
theorem dX10_layMuch_73 : decode cX10_layMuch 73 = .ok (.iconst 4, 1) := by decide +kernel
theorem dX10_layMuch_74 : decode cX10_layMuch 74 = .ok (.irem, 1) := by decide +kernel
theorem dX10_layMuch_75 : decode cX10_layMuch 75 = .ok (.iconst 1, 1) := by decide +kernel
theorem dX10_layMuch_76 : decode cX10_layMuch 76 = .ok (.iadd, 1) := by decide +kernel
theorem dX10_layMuch_77 : decode cX10_layMuch 77 = .ok (.istore 5, 2) := by decide +kernel
theorem dX10_layMuch_79 : decode cX10_layMuch 79 = .ok (.iload 4, 2) := by decide +kernel
theorem dX10_layMuch_81 : decode cX10_layMuch 81 = .ok (.iload 5, 2) := by decide +kernel
theorem dX10_layMuch_83 : decode cX10_layMuch 83 = .ok (.invokestatic 137, 3) := by decide +kernel
theorem dX10_layMuch_86 : decode cX10_layMuch 86 = .ok (.istore 6, 2) := by decide +kernel
theorem dX10_layMuch_88 : decode cX10_layMuch 88 = .ok (.iload 6, 2) := by decide +kernel
theorem dX10_layMuch_90 : decode cX10_layMuch 90 = .ok (.iconst (-1), 1) := by decide +kernel
theorem dX10_layMuch_91 : decode cX10_layMuch 91 = .ok (.if_icmp .eq 104, 3) := by decide +kernel
theorem dX10_layMuch_94 : decode cX10_layMuch 94 = .ok (.aload_n 0, 1) := by decide +kernel
theorem dX10_layMuch_95 : decode cX10_layMuch 95 = .ok (.getfield 13, 3) := by decide +kernel
theorem dX10_layMuch_98 : decode cX10_layMuch 98 = .ok (.iload 6, 2) := by decide +kernel
theorem dX10_layMuch_100 : decode cX10_layMuch 100 = .ok (.iaload, 1) := by decide +kernel
theorem dX10_layMuch_101 : decode cX10_layMuch 101 = .ok (.iconst 1, 1) := by decide +kernel
theorem dX10_layMuch_102 : decode cX10_layMuch 102 = .ok (.if_icmp .eq 93, 3) := by decide +kernel
theorem dX10_layMuch_105 : decode cX10_layMuch 105 = .ok (.aload_n 0, 1) := by decide +kernel
theorem dX10_layMuch_106 : decode cX10_layMuch 106 = .ok (.getfield 25, 3) := by decide +kernel
theorem dX10_layMuch_109 : decode cX10_layMuch 109 = .ok (.iload 4, 2) := by decide +kernel
theorem dX10_layMuch_111 : decode cX10_layMuch 111 = .ok (.iaload, 1) := by decide +kernel
theorem dX10_layMuch_112 : decode cX10_layMuch 112 = .ok (.ifCond .le 83, 3) := by decide +kernel
theorem dX10_layMuch_115 : decode cX10_layMuch 115 = .ok (.aload_n 0, 1) := by decide +kernel
theorem dX10_layMuch_116 : decode cX10_layMuch 116 = .ok (.getfield 25, 3) := by decide +kernel
theorem dX10_layMuch_119 : decode cX10_layMuch 119 = .ok (.iload 4, 2) := by decide +kernel
theorem dX10_layMuch_121 : decode cX10_layMuch 121 = .ok (.iaload, 1) := by decide +kernel
theorem dX10_layMuch_122 : decode cX10_layMuch 122 = .ok (.aload_n 0, 1) := by decide +kernel
theorem dX10_layMuch_123 : decode cX10_layMuch 123 = .ok (.aload_n 0, 1) := by decide +kernel
theorem dX10_layMuch_124 : decode cX10_layMuch 124 = .ok (.getfield 22, 3) := by decide +kernel
theorem dX10_layMuch_127 : decode cX10_layMuch 127 = .ok (.bipush 6, 2) := by decide +kernel
theorem dX10_layMuch_129 : decode cX10_layMuch 129 = .ok (.iload_n 1, 1) := by decide +kernel
theorem dX10_layMuch_130 : decode cX10_layMuch 130 = .ok (.imul, 1) := by decide +kernel
theorem dX10_layMuch_131 : decode cX10_layMuch 131 = .ok (.iaload, 1) := by decide +kernel
theorem dX10_layMuch_132 : decode cX10_layMuch 132 = .ok (.iload 5, 2) := by decide +kernel
theorem dX10_layMuch_134 : decode cX10_layMuch 134 = .ok (.iload 6, 2) := by decide +kernel
theorem dX10_layMuch_136 : decode cX10_layMuch 136 = .ok (.invokevirtual 141, 3) := by decide +kernel
theorem dX10_layMuch_139 : decode cX10_layMuch 139 = .ok (.isub, 1) := by decide +kernel
theorem dX10_layMuch_140 : decode cX10_layMuch 140 = .ok (.istore 7, 2) := by decide +kernel
theorem dX10_layMuch_142 : decode cX10_layMuch 142 = .ok (.iload_n 2, 1) := by decide +kernel
theorem dX10_layMuch_143 : decode cX10_layMuch 143 = .ok (.ifCond .ne 15, 3) := by decide +kernel
theorem dX10_layMuch_146 : decode cX10_layMuch 146 = .ok (.iload 7, 2) := by decide +kernel
theorem dX10_layMuch_148 : decode cX10_layMuch 148 = .ok (.aload_n 0, 1) := by decide +kernel
theorem dX10_layMuch_149 : decode cX10_layMuch 149 = .ok (.getfield 25, 3) := by decide +kernel
theorem dX10_layMuch_152 : decode cX10_layMuch 152 = .ok (.iload 6, 2) := by decide +kernel
theorem dX10_layMuch_154 : decode cX10_layMuch 154 = .ok (.iaload, 1) := by decide +kernel
theorem dX10_layMuch_155 : decode cX10_layMuch 155 = .ok (.if_icmp .le 7, 3) := by decide +kernel
theorem dX10_layMuch_158 : decode cX10_layMuch 158 = .ok (.iconst 1, 1) := by decide +kernel
theorem dX10_layMuch_159 : decode cX10_layMuch 159 = .ok (.goto 4, 3) := by decide +kernel
theorem dX10_layMuch_162 : decode cX10_layMuch 162 = .ok (.iconst 0, 1) := by decide +kernel
theorem dX10_layMuch_163 : decode cX10_layMuch 163 = .ok (.istore_n 2, 1) := by decide +kernel
theorem dX10_layMuch_164 : decode cX10_layMuch 164 = .ok (.aload_n 0, 1) := by decide +kernel
theorem dX10_layMuch_165 : decode cX10_layMuch 165 = .ok (.getfield 25, 3) := by decide +kernel
theorem dX10_layMuch_168 : decode cX10_layMuch 168 = .ok (.iload 6, 2) := by decide +kernel
theorem dX10_layMuch_170 : decode cX10_layMuch 170 = .ok (.iload 7, 2) := by decide +kernel
theorem dX10_layMuch_172 : decode cX10_layMuch 172 = .ok (.aload_n 0, 1) := by decide +kernel
theorem dX10_layMuch_173 : decode cX10_layMuch 173 = .ok (.getfield 25, 3) := by decide +kernel
theorem dX10_layMuch_176 : decode cX10_layMuch 176 = .ok (.iload 6, 2) := by decide +kernel
theorem dX10_layMuch_178 : decode cX10_layMuch 178 = .ok (.iaload, 1) := by decide +kernel
theorem dX10_layMuch_179 : decode cX10_layMuch 179 = .ok (.if_icmp .le 8, 3) := by decide +kernel
theorem dX10_layMuch_182 : decode cX10_layMuch 182 = .ok (.iload 7, 2) := by decide +kernel
theorem dX10_layMuch_184 : decode cX10_layMuch 184 = .ok (.goto 10, 3) := by decide +kernel
theorem dX10_layMuch_187 : decode cX10_layMuch 187 = .ok (.aload_n 0, 1) := by decide +kernel
theorem dX10_layMuch_188 : decode cX10_layMuch 188 = .ok (.getfield 25, 3) := by decide +kernel
theorem dX10_layMuch_191 : decode cX10_layMuch 191 = .ok (.iload 6, 2) := by decide +kernel
theorem dX10_layMuch_193 : decode cX10_layMuch 193 = .ok (.iaload, 1) := by decide +kernel
theorem dX10_layMuch_194 : decode cX10_layMuch 194 = .ok (.iastore, 1) := by decide +kernel
theorem dX10_layMuch_195 : decode cX10_layMuch 195 = .ok (.iinc 3 1, 3) := by decide +kernel
theorem dX10_layMuch_198 : decode cX10_layMuch 198 = .ok (.goto (-137), 3) := by decide +kernel
theorem dX10_layMuch_201 : decode cX10_layMuch 201 = .ok (.goto (-148), 3) := by decide +kernel
theorem dX10_layMuch_204 : decode cX10_layMuch 204 = .ok (.return_, 1) := by decide +kernel
theorem dX10_layCells_0 : decode cX10_layCells 0 = .ok (.iconst 0, 1) := by decide +kernel
theorem dX10_layCells_1 : decode cX10_layCells 1 = .ok (.istore_n 1, 1) := by decide +kernel
theorem dX10_layCells_2 : decode cX10_layCells 2 = .ok (.iload_n 1, 1) := by decide +kernel
theorem dX10_layCells_3 : decode cX10_layCells 3 = .ok (.bipush 8, 2) := by decide +kernel
theorem dX10_layCells_5 : decode cX10_layCells 5 = .ok (.if_icmp .ge 23, 3) := by decide +kernel
theorem dX10_layCells_8 : decode cX10_layCells 8 = .ok (.aload_n 0, 1) := by decide +kernel
theorem dX10_layCells_9 : decode cX10_layCells 9 = .ok (.getfield 28, 3) := by decide +kernel
theorem dX10_layCells_12 : decode cX10_layCells 12 = .ok (.iload_n 1, 1) := by decide +kernel
theorem dX10_layCells_13 : decode cX10_layCells 13 = .ok (.iconst (-1), 1) := by decide +kernel
theorem dX10_layCells_14 : decode cX10_layCells 14 = .ok (.iastore, 1) := by decide +kernel
theorem dX10_layCells_15 : decode cX10_layCells 15 = .ok (.aload_n 0, 1) := by decide +kernel
theorem dX10_layCells_16 : decode cX10_layCells 16 = .ok (.getfield 31, 3) := by decide +kernel
theorem dX10_layCells_19 : decode cX10_layCells 19 = .ok (.iload_n 1, 1) := by decide +kernel
theorem dX10_layCells_20 : decode cX10_layCells 20 = .ok (.iconst 0, 1) := by decide +kernel
theorem dX10_layCells_21 : decode cX10_layCells 21 = .ok (.iastore, 1) := by decide +kernel
theorem dX10_layCells_22 : decode cX10_layCells 22 = .ok (.iinc 1 1, 3) := by decide +kernel
theorem dX10_layCells_25 : decode cX10_layCells 25 = .ok (.goto (-23), 3) := by decide +kernel
theorem dX10_layCells_28 : decode cX10_layCells 28 = .ok (.iconst 0, 1) := by decide +kernel
theorem dX10_layCells_29 : decode cX10_layCells 29 = .ok (.istore_n 1, 1) := by decide +kernel
theorem dX10_layCells_30 : decode cX10_layCells 30 = .ok (.iload_n 1, 1) := by decide +kernel
theorem dX10_layCells_31 : decode cX10_layCells 31 = .ok (.aload_n 0, 1) := by decide +kernel
theorem dX10_layCells_32 : decode cX10_layCells 32 = .ok (.getfield 95, 3) := by decide +kernel
theorem dX10_layCells_35 : decode cX10_layCells 35 = .ok (.if_icmp .ge 95, 3) := by decide +kernel
theorem dX10_layCells_38 : decode cX10_layCells 38 = .ok (.aload_n 0, 1) := by decide +kernel
theorem dX10_layCells_39 : decode cX10_layCells 39 = .ok (.iload_n 1, 1) := by decide +kernel
theorem dX10_layCells_40 : decode cX10_layCells 40 = .ok (.invokevirtual 145, 3) := by decide +kernel
theorem dX10_layCells_43 : decode cX10_layCells 43 = .ok (.iconst 0, 1) := by decide +kernel
theorem dX10_layCells_44 : decode cX10_layCells 44 = .ok (.istore_n 2, 1) := by decide +kernel
theorem dX10_layCells_45 : decode cX10_layCells 45 = .ok (.iload_n 2, 1) := by decide +kernel
theorem dX10_layCells_46 : decode cX10_layCells 46 = .ok (.bipush 8, 2) := by decide +kernel
theorem dX10_layCells_48 : decode cX10_layCells 48 = .ok (.if_icmp .ge 76, 3) := by decide +kernel
theorem dX10_layCells_51 : decode cX10_layCells 51 = .ok (.aload_n 0, 1) := by decide +kernel
theorem dX10_layCells_52 : decode cX10_layCells 52 = .ok (.getfield 28, 3) := by decide +kernel
theorem dX10_layCells_55 : decode cX10_layCells 55 = .ok (.iload_n 2, 1) := by decide +kernel
theorem dX10_layCells_56 : decode cX10_layCells 56 = .ok (.aload_n 0, 1) := by decide +kernel
theorem dX10_layCells_57 : decode cX10_layCells 57 = .ok (.getfield 25, 3) := by decide +kernel
theorem dX10_layCells_60 : decode cX10_layCells 60 = .ok (.iload_n 2, 1) := by decide +kernel
theorem dX10_layCells_61 : decode cX10_layCells 61 = .ok (.iaload, 1) := by decide +kernel
theorem dX10_layCells_62 : decode cX10_layCells 62 = .ok (.aload_n 0, 1) := by decide +kernel
theorem dX10_layCells_63 : decode cX10_layCells 63 = .ok (.getfield 31, 3) := by decide +kernel
theorem dX10_layCells_66 : decode cX10_layCells 66 = .ok (.iload_n 2, 1) := by decide +kernel
theorem dX10_layCells_67 : decode cX10_layCells 67 = .ok (.iaload, 1) := by decide +kernel
theorem dX10_layCells_68 : decode cX10_layCells 68 = .ok (.if_icmp .le 7, 3) := by decide +kernel
theorem dX10_layCells_71 : decode cX10_layCells 71 = .ok (.iload_n 1, 1) := by decide +kernel
theorem dX10_layCells_72 : decode cX10_layCells 72 = .ok (.goto 9, 3) := by decide +kernel
theorem dX10_layCells_75 : decode cX10_layCells 75 = .ok (.aload_n 0, 1) := by decide +kernel
theorem dX10_layCells_76 : decode cX10_layCells 76 = .ok (.getfield 28, 3) := by decide +kernel
theorem dX10_layCells_79 : decode cX10_layCells 79 = .ok (.iload_n 2, 1) := by decide +kernel
theorem dX10_layCells_80 : decode cX10_layCells 80 = .ok (.iaload, 1) := by decide +kernel
theorem dX10_layCells_81 : decode cX10_layCells 81 = .ok (.iastore, 1) := by decide +kernel
theorem dX10_layCells_82 : decode cX10_layCells 82 = .ok (.aload_n 0, 1) := by decide +kernel
theorem dX10_layCells_83 : decode cX10_layCells 83 = .ok (.getfield 31, 3) := by decide +kernel
theorem dX10_layCells_86 : decode cX10_layCells 86 = .ok (.iload_n 2, 1) := by decide +kernel
theorem dX10_layCells_87 : decode cX10_layCells 87 = .ok (.aload_n 0, 1) := by decide +kernel
theorem dX10_layCells_88 : decode cX10_layCells 88 = .ok (.getfield 25, 3) := by decide +kernel
theorem dX10_layCells_91 : decode cX10_layCells 91 = .ok (.iload_n 2, 1) := by decide +kernel
theorem dX10_layCells_92 : decode cX10_layCells 92 = .ok (.iaload, 1) := by decide +kernel
theorem dX10_layCells_93 : decode cX10_layCells 93 = .ok (.aload_n 0, 1) := by decide +kernel
theorem dX10_layCells_94 : decode cX10_layCells 94 = .ok (.getfield 31, 3) := by decide +kernel
theorem dX10_layCells_97 : decode cX10_layCells 97 = .ok (.iload_n 2, 1) := by decide +kernel
theorem dX10_layCells_98 : decode cX10_layCells 98 = .ok (.iaload, 1) := by decide +kernel
theorem dX10_layCells_99 : decode cX10_layCells 99 = .ok (.if_icmp .le 12, 3) := by decide +kernel
theorem dX10_layCells_102 : decode cX10_layCells 102 = .ok (.aload_n 0, 1) := by decide +kernel
theorem dX10_layCells_103 : decode cX10_layCells 103 = .ok (.getfield 25, 3) := by decide +kernel
theorem dX10_layCells_106 : decode cX10_layCells 106 = .ok (.iload_n 2, 1) := by decide +kernel
theorem dX10_layCells_107 : decode cX10_layCells 107 = .ok (.iaload, 1) := by decide +kernel
theorem dX10_layCells_108 : decode cX10_layCells 108 = .ok (.goto 9, 3) := by decide +kernel
theorem dX10_layCells_111 : decode cX10_layCells 111 = .ok (.aload_n 0, 1) := by decide +kernel
theorem dX10_layCells_112 : decode cX10_layCells 112 = .ok (.getfield 31, 3) := by decide +kernel
theorem dX10_layCells_115 : decode cX10_layCells 115 = .ok (.iload_n 2, 1) := by decide +kernel
theorem dX10_layCells_116 : decode cX10_layCells 116 = .ok (.iaload, 1) := by decide +kernel
theorem dX10_layCells_117 : decode cX10_layCells 117 = .ok (.iastore, 1) := by decide +kernel
theorem dX10_layCells_118 : decode cX10_layCells 118 = .ok (.iinc 2 1, 3) := by decide +kernel
theorem dX10_layCells_121 : decode cX10_layCells 121 = .ok (.goto (-76), 3) := by decide +kernel
theorem dX10_layCells_124 : decode cX10_layCells 124 = .ok (.iinc 1 1, 3) := by decide +kernel
theorem dX10_layCells_127 : decode cX10_layCells 127 = .ok (.goto (-97), 3) := by decide +kernel
theorem dX10_layCells_130 : decode cX10_layCells 130 = .ok (.return_, 1) := by decide +kernel
theorem dX10_whose_0 : decode cX10_whose 0 = .ok (.aload_n 0, 1) := by decide +kernel
theorem dX10_whose_1 : decode cX10_whose 1 = .ok (.getfield 28, 3) := by decide +kernel
theorem dX10_whose_4 : decode cX10_whose 4 = .ok (.iload_n 1, 1) := by decide +kernel
theorem dX10_whose_5 : decode cX10_whose 5 = .ok (.iaload, 1) := by decide +kernel
theorem dX10_whose_6 : decode cX10_whose 6 = .ok (.iconst (-1), 1) := by decide +kernel
theorem dX10_whose_7 : decode cX10_whose 7 = .ok (.if_icmp .ne 7, 3) := by decide +kernel
theorem dX10_whose_10 : decode cX10_whose 10 = .ok (.iconst (-1), 1) := by decide +kernel
theorem dX10_whose_11 : decode cX10_whose 11 = .ok (.goto 19, 3) := by decide +kernel
theorem dX10_whose_14 : decode cX10_whose 14 = .ok (.aload_n 0, 1) := by decide +kernel
theorem dX10_whose_15 : decode cX10_whose 15 = .ok (.getfield 22, 3) := by decide +kernel
theorem dX10_whose_18 : decode cX10_whose 18 = .ok (.bipush 6, 2) := by decide +kernel
theorem dX10_whose_20 : decode cX10_whose 20 = .ok (.aload_n 0, 1) := by decide +kernel
theorem dX10_whose_21 : decode cX10_whose 21 = .ok (.getfield 28, 3) := by decide +kernel
theorem dX10_whose_24 : decode cX10_whose 24 = .ok (.iload_n 1, 1) := by decide +kernel
theorem dX10_whose_25 : decode cX10_whose 25 = .ok (.iaload, 1) := by decide +kernel
theorem dX10_whose_26 : decode cX10_whose 26 = .ok (.imul, 1) := by decide +kernel
theorem dX10_whose_27 : decode cX10_whose 27 = .ok (.iconst 1, 1) := by decide +kernel
theorem dX10_whose_28 : decode cX10_whose 28 = .ok (.iadd, 1) := by decide +kernel
theorem dX10_whose_29 : decode cX10_whose 29 = .ok (.iaload, 1) := by decide +kernel
theorem dX10_whose_30 : decode cX10_whose 30 = .ok (.ireturn, 1) := by decide +kernel
theorem dX10_tellCell_0 : decode cX10_tellCell 0 = .ok (.aload_n 0, 1) := by decide +kernel
theorem dX10_tellCell_1 : decode cX10_tellCell 1 = .ok (.invokevirtual 149, 3) := by decide +kernel
theorem dX10_tellCell_4 : decode cX10_tellCell 4 = .ok (.iload_n 2, 1) := by decide +kernel
theorem dX10_tellCell_5 : decode cX10_tellCell 5 = .ok (.tableswitch 69 0 4 #[35, 42, 48, 55, 62], 35) := by decide +kernel
theorem dX10_tellCell_40 : decode cX10_tellCell 40 = .ok (.aload_n 0, 1) := by decide +kernel
theorem dX10_tellCell_41 : decode cX10_tellCell 41 = .ok (.getfield 13, 3) := by decide +kernel
theorem dX10_tellCell_44 : decode cX10_tellCell 44 = .ok (.iload_n 1, 1) := by decide +kernel
theorem dX10_tellCell_45 : decode cX10_tellCell 45 = .ok (.iaload, 1) := by decide +kernel
theorem dX10_tellCell_46 : decode cX10_tellCell 46 = .ok (.ireturn, 1) := by decide +kernel
theorem dX10_tellCell_47 : decode cX10_tellCell 47 = .ok (.aload_n 0, 1) := by decide +kernel
theorem dX10_tellCell_48 : decode cX10_tellCell 48 = .ok (.iload_n 1, 1) := by decide +kernel
theorem dX10_tellCell_49 : decode cX10_tellCell 49 = .ok (.invokevirtual 152, 3) := by decide +kernel
theorem dX10_tellCell_52 : decode cX10_tellCell 52 = .ok (.ireturn, 1) := by decide +kernel
theorem dX10_tellCell_53 : decode cX10_tellCell 53 = .ok (.aload_n 0, 1) := by decide +kernel
theorem dX10_tellCell_54 : decode cX10_tellCell 54 = .ok (.getfield 31, 3) := by decide +kernel
theorem dX10_tellCell_57 : decode cX10_tellCell 57 = .ok (.iload_n 1, 1) := by decide +kernel
theorem dX10_tellCell_58 : decode cX10_tellCell 58 = .ok (.iaload, 1) := by decide +kernel
theorem dX10_tellCell_59 : decode cX10_tellCell 59 = .ok (.ireturn, 1) := by decide +kernel
theorem dX10_tellCell_60 : decode cX10_tellCell 60 = .ok (.aload_n 0, 1) := by decide +kernel
theorem dX10_tellCell_61 : decode cX10_tellCell 61 = .ok (.getfield 16, 3) := by decide +kernel
theorem dX10_tellCell_64 : decode cX10_tellCell 64 = .ok (.iload_n 1, 1) := by decide +kernel
theorem dX10_tellCell_65 : decode cX10_tellCell 65 = .ok (.iaload, 1) := by decide +kernel
theorem dX10_tellCell_66 : decode cX10_tellCell 66 = .ok (.ireturn, 1) := by decide +kernel
theorem dX10_tellCell_67 : decode cX10_tellCell 67 = .ok (.aload_n 0, 1) := by decide +kernel
theorem dX10_tellCell_68 : decode cX10_tellCell 68 = .ok (.getfield 28, 3) := by decide +kernel
theorem dX10_tellCell_71 : decode cX10_tellCell 71 = .ok (.iload_n 1, 1) := by decide +kernel
theorem dX10_tellCell_72 : decode cX10_tellCell 72 = .ok (.iaload, 1) := by decide +kernel
theorem dX10_tellCell_73 : decode cX10_tellCell 73 = .ok (.ireturn, 1) := by decide +kernel
theorem dX10_tellCell_74 : decode cX10_tellCell 74 = .ok (.bipush (-102), 2) := by decide +kernel
theorem dX10_tellCell_76 : decode cX10_tellCell 76 = .ok (.ireturn, 1) := by decide +kernel
theorem dX10_cell_0 : decode cX10_cell 0 = .ok (.aload_n 0, 1) := by decide +kernel
theorem dX10_cell_1 : decode cX10_cell 1 = .ok (.iload_n 1, 1) := by decide +kernel
theorem dX10_cell_2 : decode cX10_cell 2 = .ok (.invokevirtual 119, 3) := by decide +kernel
theorem dX10_cell_5 : decode cX10_cell 5 = .ok (.ifCond .eq 12, 3) := by decide +kernel
theorem dX10_cell_8 : decode cX10_cell 8 = .ok (.aload_n 0, 1) := by decide +kernel
theorem dX10_cell_9 : decode cX10_cell 9 = .ok (.iload_n 1, 1) := by decide +kernel
theorem dX10_cell_10 : decode cX10_cell 10 = .ok (.iload_n 2, 1) := by decide +kernel
theorem dX10_cell_11 : decode cX10_cell 11 = .ok (.invokevirtual 155, 3) := by decide +kernel
theorem dX10_cell_14 : decode cX10_cell 14 = .ok (.goto 5, 3) := by decide +kernel
theorem dX10_cell_17 : decode cX10_cell 17 = .ok (.bipush (-101), 2) := by decide +kernel
theorem dX10_cell_19 : decode cX10_cell 19 = .ok (.ireturn, 1) := by decide +kernel
theorem dX10_bordersOf_0 : decode cX10_bordersOf 0 = .ok (.aload_n 0, 1) := by decide +kernel
theorem dX10_bordersOf_1 : decode cX10_bordersOf 1 = .ok (.invokevirtual 149, 3) := by decide +kernel
theorem dX10_bordersOf_4 : decode cX10_bordersOf 4 = .ok (.iconst 0, 1) := by decide +kernel
theorem dX10_bordersOf_5 : decode cX10_bordersOf 5 = .ok (.istore_n 1, 1) := by decide +kernel
theorem dX10_bordersOf_6 : decode cX10_bordersOf 6 = .ok (.iconst 0, 1) := by decide +kernel
theorem dX10_bordersOf_7 : decode cX10_bordersOf 7 = .ok (.istore_n 2, 1) := by decide +kernel
theorem dX10_bordersOf_8 : decode cX10_bordersOf 8 = .ok (.iload_n 2, 1) := by decide +kernel
theorem dX10_bordersOf_9 : decode cX10_bordersOf 9 = .ok (.bipush 16, 2) := by decide +kernel
theorem dX10_bordersOf_11 : decode cX10_bordersOf 11 = .ok (.if_icmp .ge 77, 3) := by decide +kernel
theorem dX10_bordersOf_14 : decode cX10_bordersOf 14 = .ok (.iload_n 2, 1) := by decide +kernel
theorem dX10_bordersOf_15 : decode cX10_bordersOf 15 = .ok (.iconst 2, 1) := by decide +kernel
theorem dX10_bordersOf_16 : decode cX10_bordersOf 16 = .ok (.idiv, 1) := by decide +kernel
theorem dX10_bordersOf_17 : decode cX10_bordersOf 17 = .ok (.istore_n 3, 1) := by decide +kernel
theorem dX10_bordersOf_18 : decode cX10_bordersOf 18 = .ok (.iload_n 3, 1) := by decide +kernel
theorem dX10_bordersOf_19 : decode cX10_bordersOf 19 = .ok (.iload_n 2, 1) := by decide +kernel
theorem dX10_bordersOf_20 : decode cX10_bordersOf 20 = .ok (.iconst 2, 1) := by decide +kernel
theorem dX10_bordersOf_21 : decode cX10_bordersOf 21 = .ok (.irem, 1) := by decide +kernel
theorem dX10_bordersOf_22 : decode cX10_bordersOf 22 = .ok (.ifCond .ne 7, 3) := by decide +kernel
theorem dX10_bordersOf_25 : decode cX10_bordersOf 25 = .ok (.iconst 1, 1) := by decide +kernel
theorem dX10_bordersOf_26 : decode cX10_bordersOf 26 = .ok (.goto 4, 3) := by decide +kernel
theorem dX10_bordersOf_29 : decode cX10_bordersOf 29 = .ok (.iconst 3, 1) := by decide +kernel
theorem dX10_bordersOf_30 : decode cX10_bordersOf 30 = .ok (.invokestatic 137, 3) := by decide +kernel
theorem dX10_bordersOf_33 : decode cX10_bordersOf 33 = .ok (.istore 4, 2) := by decide +kernel
theorem dX10_bordersOf_35 : decode cX10_bordersOf 35 = .ok (.iload_n 1, 1) := by decide +kernel
theorem dX10_bordersOf_36 : decode cX10_bordersOf 36 = .ok (.iload 4, 2) := by decide +kernel
theorem dX10_bordersOf_38 : decode cX10_bordersOf 38 = .ok (.iconst (-1), 1) := by decide +kernel
theorem dX10_bordersOf_39 : decode cX10_bordersOf 39 = .ok (.if_icmp .eq 40, 3) := by decide +kernel
theorem dX10_bordersOf_42 : decode cX10_bordersOf 42 = .ok (.aload_n 0, 1) := by decide +kernel
theorem dX10_bordersOf_43 : decode cX10_bordersOf 43 = .ok (.iload_n 3, 1) := by decide +kernel
theorem dX10_bordersOf_44 : decode cX10_bordersOf 44 = .ok (.invokevirtual 152, 3) := by decide +kernel
theorem dX10_bordersOf_47 : decode cX10_bordersOf 47 = .ok (.iconst (-1), 1) := by decide +kernel
theorem dX10_bordersOf_48 : decode cX10_bordersOf 48 = .ok (.if_icmp .eq 31, 3) := by decide +kernel
theorem dX10_bordersOf_51 : decode cX10_bordersOf 51 = .ok (.aload_n 0, 1) := by decide +kernel
theorem dX10_bordersOf_52 : decode cX10_bordersOf 52 = .ok (.iload 4, 2) := by decide +kernel
theorem dX10_bordersOf_54 : decode cX10_bordersOf 54 = .ok (.invokevirtual 152, 3) := by decide +kernel
theorem dX10_bordersOf_57 : decode cX10_bordersOf 57 = .ok (.iconst (-1), 1) := by decide +kernel
theorem dX10_bordersOf_58 : decode cX10_bordersOf 58 = .ok (.if_icmp .eq 21, 3) := by decide +kernel
theorem dX10_bordersOf_61 : decode cX10_bordersOf 61 = .ok (.aload_n 0, 1) := by decide +kernel
theorem dX10_bordersOf_62 : decode cX10_bordersOf 62 = .ok (.iload_n 3, 1) := by decide +kernel
theorem dX10_bordersOf_63 : decode cX10_bordersOf 63 = .ok (.invokevirtual 152, 3) := by decide +kernel
theorem dX10_bordersOf_66 : decode cX10_bordersOf 66 = .ok (.aload_n 0, 1) := by decide +kernel
theorem dX10_bordersOf_67 : decode cX10_bordersOf 67 = .ok (.iload 4, 2) := by decide +kernel
theorem dX10_bordersOf_69 : decode cX10_bordersOf 69 = .ok (.invokevirtual 152, 3) := by decide +kernel
theorem dX10_bordersOf_72 : decode cX10_bordersOf 72 = .ok (.if_icmp .eq 7, 3) := by decide +kernel
theorem dX10_bordersOf_75 : decode cX10_bordersOf 75 = .ok (.iconst 1, 1) := by decide +kernel
theorem dX10_bordersOf_76 : decode cX10_bordersOf 76 = .ok (.goto 4, 3) := by decide +kernel
theorem dX10_bordersOf_79 : decode cX10_bordersOf 79 = .ok (.iconst 0, 1) := by decide +kernel
theorem dX10_bordersOf_80 : decode cX10_bordersOf 80 = .ok (.iadd, 1) := by decide +kernel
theorem dX10_bordersOf_81 : decode cX10_bordersOf 81 = .ok (.istore_n 1, 1) := by decide +kernel
theorem dX10_bordersOf_82 : decode cX10_bordersOf 82 = .ok (.iinc 2 1, 3) := by decide +kernel
theorem dX10_bordersOf_85 : decode cX10_bordersOf 85 = .ok (.goto (-77), 3) := by decide +kernel
theorem dX10_bordersOf_88 : decode cX10_bordersOf 88 = .ok (.iload_n 1, 1) := by decide +kernel
theorem dX10_bordersOf_89 : decode cX10_bordersOf 89 = .ok (.ireturn, 1) := by decide +kernel
theorem dX10_borders_0 : decode cX10_borders 0 = .ok (.aload_n 0, 1) := by decide +kernel
theorem dX10_borders_1 : decode cX10_borders 1 = .ok (.invokevirtual 109, 3) := by decide +kernel
theorem dX10_borders_4 : decode cX10_borders 4 = .ok (.ifCond .eq 7, 3) := by decide +kernel
theorem dX10_borders_7 : decode cX10_borders 7 = .ok (.iconst 0, 1) := by decide +kernel
theorem dX10_borders_8 : decode cX10_borders 8 = .ok (.goto 7, 3) := by decide +kernel
theorem dX10_borders_11 : decode cX10_borders 11 = .ok (.aload_n 0, 1) := by decide +kernel
theorem dX10_borders_12 : decode cX10_borders 12 = .ok (.invokevirtual 158, 3) := by decide +kernel
theorem dX10_borders_15 : decode cX10_borders 15 = .ok (.ireturn, 1) := by decide +kernel
theorem dX10_tell_0 : decode cX10_tell 0 = .ok (.iload_n 2, 1) := by decide +kernel
theorem dX10_tell_1 : decode cX10_tell 1 = .ok (.i2l, 1) := by decide +kernel
theorem dX10_tell_2 : decode cX10_tell 2 = .ok (.ldc2_w 161, 3) := by decide +kernel
theorem dX10_tell_5 : decode cX10_tell 5 = .ok (.ldc2_w 163, 3) := by decide +kernel
theorem dX10_tell_8 : decode cX10_tell 8 = .ok (.invokestatic 64, 3) := by decide +kernel
theorem dX10_tell_11 : decode cX10_tell 11 = .ok (.ifCond .eq 18, 3) := by decide +kernel
theorem dX10_tell_14 : decode cX10_tell 14 = .ok (.aload_n 0, 1) := by decide +kernel
theorem dX10_tell_15 : decode cX10_tell 15 = .ok (.iload_n 1, 1) := by decide +kernel
theorem dX10_tell_16 : decode cX10_tell 16 = .ok (.invokevirtual 145, 3) := by decide +kernel
theorem dX10_tell_19 : decode cX10_tell 19 = .ok (.aload_n 0, 1) := by decide +kernel
theorem dX10_tell_20 : decode cX10_tell 20 = .ok (.getfield 25, 3) := by decide +kernel
theorem dX10_tell_23 : decode cX10_tell 23 = .ok (.iload_n 2, 1) := by decide +kernel
theorem dX10_tell_24 : decode cX10_tell 24 = .ok (.bipush 10, 2) := by decide +kernel
theorem dX10_tell_26 : decode cX10_tell 26 = .ok (.isub, 1) := by decide +kernel
theorem dX10_tell_27 : decode cX10_tell 27 = .ok (.iaload, 1) := by decide +kernel
theorem dX10_tell_28 : decode cX10_tell 28 = .ok (.ireturn, 1) := by decide +kernel
theorem dX10_tell_29 : decode cX10_tell 29 = .ok (.iload_n 2, 1) := by decide +kernel
theorem dX10_tell_30 : decode cX10_tell 30 = .ok (.i2l, 1) := by decide +kernel
theorem dX10_tell_31 : decode cX10_tell 31 = .ok (.lconst 0, 1) := by decide +kernel
theorem dX10_tell_32 : decode cX10_tell 32 = .ok (.ldc2_w 165, 3) := by decide +kernel
theorem dX10_tell_35 : decode cX10_tell 35 = .ok (.invokestatic 64, 3) := by decide +kernel
theorem dX10_tell_38 : decode cX10_tell 38 = .ok (.ifCond .eq 15, 3) := by decide +kernel
theorem dX10_tell_41 : decode cX10_tell 41 = .ok (.aload_n 0, 1) := by decide +kernel
theorem dX10_tell_42 : decode cX10_tell 42 = .ok (.getfield 22, 3) := by decide +kernel
theorem dX10_tell_45 : decode cX10_tell 45 = .ok (.bipush 6, 2) := by decide +kernel
theorem dX10_tell_47 : decode cX10_tell 47 = .ok (.iload_n 1, 1) := by decide +kernel
theorem dX10_tell_48 : decode cX10_tell 48 = .ok (.imul, 1) := by decide +kernel
theorem dX10_tell_49 : decode cX10_tell 49 = .ok (.iload_n 2, 1) := by decide +kernel
theorem dX10_tell_50 : decode cX10_tell 50 = .ok (.iadd, 1) := by decide +kernel
theorem dX10_tell_51 : decode cX10_tell 51 = .ok (.iaload, 1) := by decide +kernel
theorem dX10_tell_52 : decode cX10_tell 52 = .ok (.ireturn, 1) := by decide +kernel
theorem dX10_tell_53 : decode cX10_tell 53 = .ok (.iload_n 2, 1) := by decide +kernel
theorem dX10_tell_54 : decode cX10_tell 54 = .ok (.bipush 6, 2) := by decide +kernel
theorem dX10_tell_56 : decode cX10_tell 56 = .ok (.if_icmp .ne 11, 3) := by decide +kernel
theorem dX10_tell_59 : decode cX10_tell 59 = .ok (.aload_n 0, 1) := by decide +kernel
theorem dX10_tell_60 : decode cX10_tell 60 = .ok (.iload_n 1, 1) := by decide +kernel
theorem dX10_tell_61 : decode cX10_tell 61 = .ok (.invokevirtual 134, 3) := by decide +kernel
theorem dX10_tell_64 : decode cX10_tell 64 = .ok (.goto 27, 3) := by decide +kernel
theorem dX10_tell_67 : decode cX10_tell 67 = .ok (.iload_n 2, 1) := by decide +kernel
theorem dX10_tell_68 : decode cX10_tell 68 = .ok (.bipush 7, 2) := by decide +kernel
theorem dX10_tell_70 : decode cX10_tell 70 = .ok (.if_icmp .ne 19, 3) := by decide +kernel
theorem dX10_tell_73 : decode cX10_tell 73 = .ok (.aload_n 0, 1) := by decide +kernel
theorem dX10_tell_74 : decode cX10_tell 74 = .ok (.iload_n 1, 1) := by decide +kernel
theorem dX10_tell_75 : decode cX10_tell 75 = .ok (.invokevirtual 131, 3) := by decide +kernel
theorem dX10_tell_78 : decode cX10_tell 78 = .ok (.ifCond .eq 7, 3) := by decide +kernel
theorem dX10_tell_81 : decode cX10_tell 81 = .ok (.iconst 1, 1) := by decide +kernel
theorem dX10_tell_82 : decode cX10_tell 82 = .ok (.goto 9, 3) := by decide +kernel
theorem dX10_tell_85 : decode cX10_tell 85 = .ok (.iconst 0, 1) := by decide +kernel
theorem dX10_tell_86 : decode cX10_tell 86 = .ok (.goto 5, 3) := by decide +kernel
theorem dX10_tell_89 : decode cX10_tell 89 = .ok (.bipush (-102), 2) := by decide +kernel
theorem dX10_tell_91 : decode cX10_tell 91 = .ok (.ireturn, 1) := by decide +kernel
theorem dX10_about_0 : decode cX10_about 0 = .ok (.aload_n 0, 1) := by decide +kernel
theorem dX10_about_1 : decode cX10_about 1 = .ok (.iload_n 1, 1) := by decide +kernel
theorem dX10_about_2 : decode cX10_about 2 = .ok (.invokevirtual 167, 3) := by decide +kernel
theorem dX10_about_5 : decode cX10_about 5 = .ok (.ifCond .eq 12, 3) := by decide +kernel
theorem dX10_about_8 : decode cX10_about 8 = .ok (.aload_n 0, 1) := by decide +kernel
theorem dX10_about_9 : decode cX10_about 9 = .ok (.iload_n 1, 1) := by decide +kernel
theorem dX10_about_10 : decode cX10_about 10 = .ok (.iload_n 2, 1) := by decide +kernel
theorem dX10_about_11 : decode cX10_about 11 = .ok (.invokevirtual 170, 3) := by decide +kernel
theorem dX10_about_14 : decode cX10_about 14 = .ok (.goto 5, 3) := by decide +kernel
theorem dX10_about_17 : decode cX10_about 17 = .ok (.bipush (-101), 2) := by decide +kernel
theorem dX10_about_19 : decode cX10_about 19 = .ok (.ireturn, 1) := by decide +kernel
theorem dX10_as_0 : decode cX10_as 0 = .ok (.aload_n 0, 1) := by decide +kernel
theorem dX10_as_1 : decode cX10_as 1 = .ok (.iload_n 1, 1) := by decide +kernel
theorem dX10_as_2 : decode cX10_as 2 = .ok (.invokevirtual 167, 3) := by decide +kernel
theorem dX10_as_5 : decode cX10_as 5 = .ok (.ifCond .ne 6, 3) := by decide +kernel
theorem dX10_as_8 : decode cX10_as 8 = .ok (.bipush (-101), 2) := by decide +kernel
theorem dX10_as_10 : decode cX10_as 10 = .ok (.ireturn, 1) := by decide +kernel
theorem dX10_as_11 : decode cX10_as 11 = .ok (.iload_n 2, 1) := by decide +kernel
theorem dX10_as_12 : decode cX10_as 12 = .ok (.i2l, 1) := by decide +kernel
theorem dX10_as_13 : decode cX10_as 13 = .ok (.lconst 0, 1) := by decide +kernel
theorem dX10_as_14 : decode cX10_as 14 = .ok (.ldc2_w 113, 3) := by decide +kernel
theorem dX10_as_17 : decode cX10_as 17 = .ok (.invokestatic 64, 3) := by decide +kernel
theorem dX10_as_20 : decode cX10_as 20 = .ok (.ifCond .ne 6, 3) := by decide +kernel
theorem dX10_as_23 : decode cX10_as 23 = .ok (.bipush (-102), 2) := by decide +kernel
theorem dX10_as_25 : decode cX10_as 25 = .ok (.ireturn, 1) := by decide +kernel
theorem dX10_as_26 : decode cX10_as 26 = .ok (.aload_n 0, 1) := by decide +kernel
theorem dX10_as_27 : decode cX10_as 27 = .ok (.getfield 22, 3) := by decide +kernel
theorem dX10_as_30 : decode cX10_as 30 = .ok (.bipush 6, 2) := by decide +kernel
theorem dX10_as_32 : decode cX10_as 32 = .ok (.iload_n 1, 1) := by decide +kernel
theorem dX10_as_33 : decode cX10_as 33 = .ok (.imul, 1) := by decide +kernel
theorem dX10_as_34 : decode cX10_as 34 = .ok (.iaload, 1) := by decide +kernel
theorem dX10_as_35 : decode cX10_as 35 = .ok (.istore_n 3, 1) := by decide +kernel
theorem dX10_as_36 : decode cX10_as 36 = .ok (.iload_n 2, 1) := by decide +kernel
theorem dX10_as_37 : decode cX10_as 37 = .ok (.ifCond .eq 18, 3) := by decide +kernel
theorem dX10_as_40 : decode cX10_as 40 = .ok (.iload_n 2, 1) := by decide +kernel
theorem dX10_as_41 : decode cX10_as 41 = .ok (.iload_n 3, 1) := by decide +kernel
theorem dX10_as_42 : decode cX10_as 42 = .ok (.if_icmp .eq 13, 3) := by decide +kernel
theorem dX10_as_45 : decode cX10_as 45 = .ok (.iload_n 2, 1) := by decide +kernel
theorem dX10_as_46 : decode cX10_as 46 = .ok (.iconst 3, 1) := by decide +kernel
theorem dX10_as_47 : decode cX10_as 47 = .ok (.if_icmp .ne 12, 3) := by decide +kernel
theorem dX10_as_50 : decode cX10_as 50 = .ok (.iload_n 3, 1) := by decide +kernel
theorem dX10_as_51 : decode cX10_as 51 = .ok (.iconst 4, 1) := by decide +kernel
theorem dX10_as_52 : decode cX10_as 52 = .ok (.if_icmp .ne 7, 3) := by decide +kernel
theorem dX10_as_55 : decode cX10_as 55 = .ok (.iconst 1, 1) := by decide +kernel
theorem dX10_as_56 : decode cX10_as 56 = .ok (.goto 4, 3) := by decide +kernel
theorem dX10_as_59 : decode cX10_as 59 = .ok (.iconst 0, 1) := by decide +kernel
theorem dX10_as_60 : decode cX10_as 60 = .ok (.istore 4, 2) := by decide +kernel
theorem dX10_as_62 : decode cX10_as 62 = .ok (.iload 4, 2) := by decide +kernel
theorem dX10_as_64 : decode cX10_as 64 = .ok (.ifCond .eq 7, 3) := by decide +kernel
theorem dX10_as_67 : decode cX10_as 67 = .ok (.iload_n 1, 1) := by decide +kernel
theorem dX10_as_68 : decode cX10_as 68 = .ok (.goto 4, 3) := by decide +kernel
theorem dX10_as_71 : decode cX10_as 71 = .ok (.iconst (-1), 1) := by decide +kernel
theorem dX10_as_72 : decode cX10_as 72 = .ok (.ireturn, 1) := by decide +kernel
theorem dX10_burn_0 : decode cX10_burn 0 = .ok (.aload_n 0, 1) := by decide +kernel
theorem dX10_burn_1 : decode cX10_burn 1 = .ok (.iload_n 1, 1) := by decide +kernel
theorem dX10_burn_2 : decode cX10_burn 2 = .ok (.invokevirtual 167, 3) := by decide +kernel
theorem dX10_burn_5 : decode cX10_burn 5 = .ok (.ifCond .ne 6, 3) := by decide +kernel
theorem dX10_burn_8 : decode cX10_burn 8 = .ok (.bipush (-101), 2) := by decide +kernel
theorem dX10_burn_10 : decode cX10_burn 10 = .ok (.ireturn, 1) := by decide +kernel
theorem dX10_burn_11 : decode cX10_burn 11 = .ok (.aload_n 0, 1) := by decide +kernel
theorem dX10_burn_12 : decode cX10_burn 12 = .ok (.getfield 22, 3) := by decide +kernel
theorem dX10_burn_15 : decode cX10_burn 15 = .ok (.bipush 6, 2) := by decide +kernel
theorem dX10_burn_17 : decode cX10_burn 17 = .ok (.iload_n 1, 1) := by decide +kernel
theorem dX10_burn_18 : decode cX10_burn 18 = .ok (.imul, 1) := by decide +kernel
theorem dX10_burn_19 : decode cX10_burn 19 = .ok (.iconst 4, 1) := by decide +kernel

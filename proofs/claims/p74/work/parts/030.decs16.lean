theorem dX12_rests_103 : decode cX12_rests 103 = .ok (.istore 7, 2) := by decide +kernel
theorem dX12_rests_105 : decode cX12_rests 105 = .ok (.iload_n 3, 1) := by decide +kernel
theorem dX12_rests_106 : decode cX12_rests 106 = .ok (.iload 7, 2) := by decide +kernel
theorem dX12_rests_108 : decode cX12_rests 108 = .ok (.ifCond .eq 40, 3) := by decide +kernel
theorem dX12_rests_111 : decode cX12_rests 111 = .ok (.aload_n 0, 1) := by decide +kernel
theorem dX12_rests_112 : decode cX12_rests 112 = .ok (.iload_n 1, 1) := by decide +kernel
theorem dX12_rests_113 : decode cX12_rests 113 = .ok (.iconst 1, 1) := by decide +kernel
theorem dX12_rests_114 : decode cX12_rests 114 = .ok (.iload 6, 2) := by decide +kernel
theorem dX12_rests_116 : decode cX12_rests 116 = .ok (.iload 5, 2) := by decide +kernel
theorem dX12_rests_118 : decode cX12_rests 118 = .ok (.iload_n 2, 1) := by decide +kernel
theorem dX12_rests_119 : decode cX12_rests 119 = .ok (.invokevirtual 385, 3) := by decide +kernel
theorem dX12_rests_122 : decode cX12_rests 122 = .ok (.aload_n 0, 1) := by decide +kernel
theorem dX12_rests_123 : decode cX12_rests 123 = .ok (.iload_n 1, 1) := by decide +kernel
theorem dX12_rests_124 : decode cX12_rests 124 = .ok (.iconst 1, 1) := by decide +kernel
theorem dX12_rests_125 : decode cX12_rests 125 = .ok (.iload 6, 2) := by decide +kernel
theorem dX12_rests_127 : decode cX12_rests 127 = .ok (.ifCond .ne 7, 3) := by decide +kernel
theorem dX12_rests_130 : decode cX12_rests 130 = .ok (.iconst 1, 1) := by decide +kernel
theorem dX12_rests_131 : decode cX12_rests 131 = .ok (.goto 4, 3) := by decide +kernel
theorem dX12_rests_134 : decode cX12_rests 134 = .ok (.iconst 0, 1) := by decide +kernel
theorem dX12_rests_135 : decode cX12_rests 135 = .ok (.iload 5, 2) := by decide +kernel
theorem dX12_rests_137 : decode cX12_rests 137 = .ok (.iload_n 2, 1) := by decide +kernel
theorem dX12_rests_138 : decode cX12_rests 138 = .ok (.invokevirtual 385, 3) := by decide +kernel
theorem dX12_rests_141 : decode cX12_rests 141 = .ok (.if_icmp .lt 7, 3) := by decide +kernel
theorem dX12_rests_144 : decode cX12_rests 144 = .ok (.iconst 1, 1) := by decide +kernel
theorem dX12_rests_145 : decode cX12_rests 145 = .ok (.goto 4, 3) := by decide +kernel
theorem dX12_rests_148 : decode cX12_rests 148 = .ok (.iconst 0, 1) := by decide +kernel
theorem dX12_rests_149 : decode cX12_rests 149 = .ok (.iadd, 1) := by decide +kernel
theorem dX12_rests_150 : decode cX12_rests 150 = .ok (.istore_n 3, 1) := by decide +kernel
theorem dX12_rests_151 : decode cX12_rests 151 = .ok (.iinc 4 1, 3) := by decide +kernel
theorem dX12_rests_154 : decode cX12_rests 154 = .ok (.goto (-125), 3) := by decide +kernel
theorem dX12_rests_157 : decode cX12_rests 157 = .ok (.iload_n 3, 1) := by decide +kernel
theorem dX12_rests_158 : decode cX12_rests 158 = .ok (.ireturn, 1) := by decide +kernel
theorem dX12_row_0 : decode cX12_row 0 = .ok (.iload_n 1, 1) := by decide +kernel
theorem dX12_row_1 : decode cX12_row 1 = .ok (.invokestatic 311, 3) := by decide +kernel
theorem dX12_row_4 : decode cX12_row 4 = .ok (.ifCond .eq 21, 3) := by decide +kernel
theorem dX12_row_7 : decode cX12_row 7 = .ok (.iload_n 2, 1) := by decide +kernel
theorem dX12_row_8 : decode cX12_row 8 = .ok (.i2l, 1) := by decide +kernel
theorem dX12_row_9 : decode cX12_row 9 = .ok (.lconst 0, 1) := by decide +kernel
theorem dX12_row_10 : decode cX12_row 10 = .ok (.ldc2_w 459, 3) := by decide +kernel
theorem dX12_row_13 : decode cX12_row 13 = .ok (.invokestatic 70, 3) := by decide +kernel
theorem dX12_row_16 : decode cX12_row 16 = .ok (.ifCond .eq 9, 3) := by decide +kernel
theorem dX12_row_19 : decode cX12_row 19 = .ok (.iload_n 3, 1) := by decide +kernel
theorem dX12_row_20 : decode cX12_row 20 = .ok (.bipush 60, 2) := by decide +kernel
theorem dX12_row_22 : decode cX12_row 22 = .ok (.if_icmp .le 6, 3) := by decide +kernel
theorem dX12_row_25 : decode cX12_row 25 = .ok (.bipush (-2), 2) := by decide +kernel
theorem dX12_row_27 : decode cX12_row 27 = .ok (.ireturn, 1) := by decide +kernel
theorem dX12_row_28 : decode cX12_row 28 = .ok (.iload_n 3, 1) := by decide +kernel
theorem dX12_row_29 : decode cX12_row 29 = .ok (.ifCond .ge 6, 3) := by decide +kernel
theorem dX12_row_32 : decode cX12_row 32 = .ok (.bipush (-3), 2) := by decide +kernel
theorem dX12_row_34 : decode cX12_row 34 = .ok (.ireturn, 1) := by decide +kernel
theorem dX12_row_35 : decode cX12_row 35 = .ok (.aload_n 0, 1) := by decide +kernel
theorem dX12_row_36 : decode cX12_row 36 = .ok (.getfield 52, 3) := by decide +kernel
theorem dX12_row_39 : decode cX12_row 39 = .ok (.iload_n 1, 1) := by decide +kernel
theorem dX12_row_40 : decode cX12_row 40 = .ok (.iload_n 3, 1) := by decide +kernel
theorem dX12_row_41 : decode cX12_row 41 = .ok (.iastore, 1) := by decide +kernel
theorem dX12_row_42 : decode cX12_row 42 = .ok (.aload_n 0, 1) := by decide +kernel
theorem dX12_row_43 : decode cX12_row 43 = .ok (.getfield 55, 3) := by decide +kernel
theorem dX12_row_46 : decode cX12_row 46 = .ok (.iload_n 1, 1) := by decide +kernel
theorem dX12_row_47 : decode cX12_row 47 = .ok (.iload_n 2, 1) := by decide +kernel
theorem dX12_row_48 : decode cX12_row 48 = .ok (.iastore, 1) := by decide +kernel
theorem dX12_row_49 : decode cX12_row 49 = .ok (.iconst 0, 1) := by decide +kernel
theorem dX12_row_50 : decode cX12_row 50 = .ok (.istore 4, 2) := by decide +kernel
theorem dX12_row_52 : decode cX12_row 52 = .ok (.iload 4, 2) := by decide +kernel
theorem dX12_row_54 : decode cX12_row 54 = .ok (.bipush 60, 2) := by decide +kernel
theorem dX12_row_56 : decode cX12_row 56 = .ok (.if_icmp .ge 22, 3) := by decide +kernel
theorem dX12_row_59 : decode cX12_row 59 = .ok (.aload_n 0, 1) := by decide +kernel
theorem dX12_row_60 : decode cX12_row 60 = .ok (.getfield 58, 3) := by decide +kernel
theorem dX12_row_63 : decode cX12_row 63 = .ok (.bipush 60, 2) := by decide +kernel
theorem dX12_row_65 : decode cX12_row 65 = .ok (.iload_n 1, 1) := by decide +kernel
theorem dX12_row_66 : decode cX12_row 66 = .ok (.imul, 1) := by decide +kernel
theorem dX12_row_67 : decode cX12_row 67 = .ok (.iload 4, 2) := by decide +kernel
theorem dX12_row_69 : decode cX12_row 69 = .ok (.iadd, 1) := by decide +kernel
theorem dX12_row_70 : decode cX12_row 70 = .ok (.lconst 0, 1) := by decide +kernel
theorem dX12_row_71 : decode cX12_row 71 = .ok (.lastore, 1) := by decide +kernel
theorem dX12_row_72 : decode cX12_row 72 = .ok (.iinc 4 1, 3) := by decide +kernel
theorem dX12_row_75 : decode cX12_row 75 = .ok (.goto (-23), 3) := by decide +kernel
theorem dX12_row_78 : decode cX12_row 78 = .ok (.iconst 0, 1) := by decide +kernel
theorem dX12_row_79 : decode cX12_row 79 = .ok (.ireturn, 1) := by decide +kernel
theorem dX12_saysOf_0 : decode cX12_saysOf 0 = .ok (.iconst 0, 1) := by decide +kernel
theorem dX12_saysOf_1 : decode cX12_saysOf 1 = .ok (.istore_n 2, 1) := by decide +kernel
theorem dX12_saysOf_2 : decode cX12_saysOf 2 = .ok (.iconst 0, 1) := by decide +kernel
theorem dX12_saysOf_3 : decode cX12_saysOf 3 = .ok (.istore_n 3, 1) := by decide +kernel
theorem dX12_saysOf_4 : decode cX12_saysOf 4 = .ok (.iload_n 3, 1) := by decide +kernel
theorem dX12_saysOf_5 : decode cX12_saysOf 5 = .ok (.aload_n 0, 1) := by decide +kernel
theorem dX12_saysOf_6 : decode cX12_saysOf 6 = .ok (.getfield 9, 3) := by decide +kernel
theorem dX12_saysOf_9 : decode cX12_saysOf 9 = .ok (.iconst 5, 1) := by decide +kernel
theorem dX12_saysOf_10 : decode cX12_saysOf 10 = .ok (.iaload, 1) := by decide +kernel
theorem dX12_saysOf_11 : decode cX12_saysOf 11 = .ok (.if_icmp .ge 24, 3) := by decide +kernel
theorem dX12_saysOf_14 : decode cX12_saysOf 14 = .ok (.iload_n 2, 1) := by decide +kernel
theorem dX12_saysOf_15 : decode cX12_saysOf 15 = .ok (.iload_n 1, 1) := by decide +kernel
theorem dX12_saysOf_16 : decode cX12_saysOf 16 = .ok (.iload_n 3, 1) := by decide +kernel
theorem dX12_saysOf_17 : decode cX12_saysOf 17 = .ok (.invokestatic 299, 3) := by decide +kernel
theorem dX12_saysOf_20 : decode cX12_saysOf 20 = .ok (.aload_n 0, 1) := by decide +kernel
theorem dX12_saysOf_21 : decode cX12_saysOf 21 = .ok (.iload_n 3, 1) := by decide +kernel
theorem dX12_saysOf_22 : decode cX12_saysOf 22 = .ok (.iconst 0, 1) := by decide +kernel
theorem dX12_saysOf_23 : decode cX12_saysOf 23 = .ok (.invokevirtual 208, 3) := by decide +kernel
theorem dX12_saysOf_26 : decode cX12_saysOf 26 = .ok (.imul, 1) := by decide +kernel
theorem dX12_saysOf_27 : decode cX12_saysOf 27 = .ok (.iadd, 1) := by decide +kernel
theorem dX12_saysOf_28 : decode cX12_saysOf 28 = .ok (.istore_n 2, 1) := by decide +kernel
theorem dX12_saysOf_29 : decode cX12_saysOf 29 = .ok (.iinc 3 1, 3) := by decide +kernel
theorem dX12_saysOf_32 : decode cX12_saysOf 32 = .ok (.goto (-28), 3) := by decide +kernel
theorem dX12_saysOf_35 : decode cX12_saysOf 35 = .ok (.iload_n 2, 1) := by decide +kernel
theorem dX12_saysOf_36 : decode cX12_saysOf 36 = .ok (.ireturn, 1) := by decide +kernel
theorem dX12_see_0 : decode cX12_see 0 = .ok (.iload_n 1, 1) := by decide +kernel
theorem dX12_see_1 : decode cX12_see 1 = .ok (.aload_n 0, 1) := by decide +kernel
theorem dX12_see_2 : decode cX12_see 2 = .ok (.getfield 81, 3) := by decide +kernel
theorem dX12_see_5 : decode cX12_see 5 = .ok (.if_icmp .ge 16, 3) := by decide +kernel
theorem dX12_see_8 : decode cX12_see 8 = .ok (.aload_n 0, 1) := by decide +kernel
theorem dX12_see_9 : decode cX12_see 9 = .ok (.getfield 20, 3) := by decide +kernel
theorem dX12_see_12 : decode cX12_see 12 = .ok (.iload_n 1, 1) := by decide +kernel
theorem dX12_see_13 : decode cX12_see 13 = .ok (.baload, 1) := by decide +kernel
theorem dX12_see_14 : decode cX12_see 14 = .ok (.sipush 255, 3) := by decide +kernel
theorem dX12_see_17 : decode cX12_see 17 = .ok (.iand, 1) := by decide +kernel
theorem dX12_see_18 : decode cX12_see 18 = .ok (.goto 4, 3) := by decide +kernel
theorem dX12_see_21 : decode cX12_see 21 = .ok (.iconst (-1), 1) := by decide +kernel
theorem dX12_see_22 : decode cX12_see 22 = .ok (.ireturn, 1) := by decide +kernel
theorem dX12_sign_0 : decode cX12_sign 0 = .ok (.aload_n 0, 1) := by decide +kernel
theorem dX12_sign_1 : decode cX12_sign 1 = .ok (.iload_n 1, 1) := by decide +kernel
theorem dX12_sign_2 : decode cX12_sign 2 = .ok (.i2l, 1) := by decide +kernel
theorem dX12_sign_3 : decode cX12_sign 3 = .ok (.invokevirtual 205, 3) := by decide +kernel
theorem dX12_sign_6 : decode cX12_sign 6 = .ok (.ifCond .ne 6, 3) := by decide +kernel
theorem dX12_sign_9 : decode cX12_sign 9 = .ok (.bipush (-2), 2) := by decide +kernel
theorem dX12_sign_11 : decode cX12_sign 11 = .ok (.ireturn, 1) := by decide +kernel
theorem dX12_sign_12 : decode cX12_sign 12 = .ok (.aload_n 0, 1) := by decide +kernel
theorem dX12_sign_13 : decode cX12_sign 13 = .ok (.invokevirtual 430, 3) := by decide +kernel
theorem dX12_sign_16 : decode cX12_sign 16 = .ok (.ifCond .eq 37, 3) := by decide +kernel
theorem dX12_sign_19 : decode cX12_sign 19 = .ok (.aload_n 0, 1) := by decide +kernel
theorem dX12_sign_20 : decode cX12_sign 20 = .ok (.getfield 223, 3) := by decide +kernel
theorem dX12_sign_23 : decode cX12_sign 23 = .ok (.iload_n 1, 1) := by decide +kernel
theorem dX12_sign_24 : decode cX12_sign 24 = .ok (.invokestatic 299, 3) := by decide +kernel
theorem dX12_sign_27 : decode cX12_sign 27 = .ok (.iconst 1, 1) := by decide +kernel
theorem dX12_sign_28 : decode cX12_sign 28 = .ok (.if_icmp .eq 25, 3) := by decide +kernel
theorem dX12_sign_31 : decode cX12_sign 31 = .ok (.aload_n 0, 1) := by decide +kernel
theorem dX12_sign_32 : decode cX12_sign 32 = .ok (.iload_n 1, 1) := by decide +kernel
theorem dX12_sign_33 : decode cX12_sign 33 = .ok (.iconst 0, 1) := by decide +kernel
theorem dX12_sign_34 : decode cX12_sign 34 = .ok (.invokevirtual 208, 3) := by decide +kernel
theorem dX12_sign_37 : decode cX12_sign 37 = .ok (.aload_n 0, 1) := by decide +kernel
theorem dX12_sign_38 : decode cX12_sign 38 = .ok (.getfield 220, 3) := by decide +kernel
theorem dX12_sign_41 : decode cX12_sign 41 = .ok (.if_icmp .gt 12, 3) := by decide +kernel
theorem dX12_sign_44 : decode cX12_sign 44 = .ok (.aload_n 0, 1) := by decide +kernel
theorem dX12_sign_45 : decode cX12_sign 45 = .ok (.iconst 2, 1) := by decide +kernel
theorem dX12_sign_46 : decode cX12_sign 46 = .ok (.iload_n 1, 1) := by decide +kernel
theorem dX12_sign_47 : decode cX12_sign 47 = .ok (.invokevirtual 433, 3) := by decide +kernel
theorem dX12_sign_50 : decode cX12_sign 50 = .ok (.ifCond .ne 6, 3) := by decide +kernel
theorem dX12_sign_53 : decode cX12_sign 53 = .ok (.bipush (-5), 2) := by decide +kernel
theorem dX12_sign_55 : decode cX12_sign 55 = .ok (.ireturn, 1) := by decide +kernel
theorem dX12_sign_56 : decode cX12_sign 56 = .ok (.aload_n 0, 1) := by decide +kernel
theorem dX12_sign_57 : decode cX12_sign 57 = .ok (.getfield 220, 3) := by decide +kernel
theorem dX12_sign_60 : decode cX12_sign 60 = .ok (.ireturn, 1) := by decide +kernel
theorem dX12_signs_0 : decode cX12_signs 0 = .ok (.aload_n 0, 1) := by decide +kernel
theorem dX12_signs_1 : decode cX12_signs 1 = .ok (.invokevirtual 74, 3) := by decide +kernel
theorem dX12_signs_4 : decode cX12_signs 4 = .ok (.ifCond .ne 6, 3) := by decide +kernel
theorem dX12_signs_7 : decode cX12_signs 7 = .ok (.bipush (-2), 2) := by decide +kernel
theorem dX12_signs_9 : decode cX12_signs 9 = .ok (.ireturn, 1) := by decide +kernel
theorem dX12_signs_10 : decode cX12_signs 10 = .ok (.iconst 0, 1) := by decide +kernel
theorem dX12_signs_11 : decode cX12_signs 11 = .ok (.istore_n 1, 1) := by decide +kernel
theorem dX12_signs_12 : decode cX12_signs 12 = .ok (.iconst 0, 1) := by decide +kernel
theorem dX12_signs_13 : decode cX12_signs 13 = .ok (.istore_n 2, 1) := by decide +kernel
theorem dX12_signs_14 : decode cX12_signs 14 = .ok (.iload_n 2, 1) := by decide +kernel
theorem dX12_signs_15 : decode cX12_signs 15 = .ok (.aload_n 0, 1) := by decide +kernel
theorem dX12_signs_16 : decode cX12_signs 16 = .ok (.invokevirtual 349, 3) := by decide +kernel
theorem dX12_signs_19 : decode cX12_signs 19 = .ok (.if_icmp .gt 25, 3) := by decide +kernel
theorem dX12_signs_22 : decode cX12_signs 22 = .ok (.iload_n 1, 1) := by decide +kernel
theorem dX12_signs_23 : decode cX12_signs 23 = .ok (.aload_n 0, 1) := by decide +kernel
theorem dX12_signs_24 : decode cX12_signs 24 = .ok (.iload_n 2, 1) := by decide +kernel
theorem dX12_signs_25 : decode cX12_signs 25 = .ok (.invokevirtual 370, 3) := by decide +kernel
theorem dX12_signs_28 : decode cX12_signs 28 = .ok (.ifCond .eq 7, 3) := by decide +kernel
theorem dX12_signs_31 : decode cX12_signs 31 = .ok (.iconst 1, 1) := by decide +kernel
theorem dX12_signs_32 : decode cX12_signs 32 = .ok (.goto 4, 3) := by decide +kernel
theorem dX12_signs_35 : decode cX12_signs 35 = .ok (.iconst 0, 1) := by decide +kernel
theorem dX12_signs_36 : decode cX12_signs 36 = .ok (.iadd, 1) := by decide +kernel
theorem dX12_signs_37 : decode cX12_signs 37 = .ok (.istore_n 1, 1) := by decide +kernel
theorem dX12_signs_38 : decode cX12_signs 38 = .ok (.iinc 2 1, 3) := by decide +kernel
theorem dX12_signs_41 : decode cX12_signs 41 = .ok (.goto (-27), 3) := by decide +kernel
theorem dX12_signs_44 : decode cX12_signs 44 = .ok (.iload_n 1, 1) := by decide +kernel
theorem dX12_signs_45 : decode cX12_signs 45 = .ok (.ireturn, 1) := by decide +kernel
theorem dX12_soonest_0 : decode cX12_soonest 0 = .ok (.aload_n 0, 1) := by decide +kernel
theorem dX12_soonest_1 : decode cX12_soonest 1 = .ok (.invokevirtual 74, 3) := by decide +kernel
theorem dX12_soonest_4 : decode cX12_soonest 4 = .ok (.ifCond .ne 6, 3) := by decide +kernel
theorem dX12_soonest_7 : decode cX12_soonest 7 = .ok (.bipush (-2), 2) := by decide +kernel
theorem dX12_soonest_9 : decode cX12_soonest 9 = .ok (.ireturn, 1) := by decide +kernel
theorem dX12_soonest_10 : decode cX12_soonest 10 = .ok (.aload_n 0, 1) := by decide +kernel
theorem dX12_soonest_11 : decode cX12_soonest 11 = .ok (.invokevirtual 259, 3) := by decide +kernel
theorem dX12_soonest_14 : decode cX12_soonest 14 = .ok (.iconst (-1), 1) := by decide +kernel
theorem dX12_soonest_15 : decode cX12_soonest 15 = .ok (.istore_n 1, 1) := by decide +kernel
theorem dX12_soonest_16 : decode cX12_soonest 16 = .ok (.ldc_w 274, 3) := by decide +kernel
theorem dX12_soonest_19 : decode cX12_soonest 19 = .ok (.istore_n 2, 1) := by decide +kernel
theorem dX12_soonest_20 : decode cX12_soonest 20 = .ok (.aload_n 0, 1) := by decide +kernel
theorem dX12_soonest_21 : decode cX12_soonest 21 = .ok (.iconst 0, 1) := by decide +kernel
theorem dX12_soonest_22 : decode cX12_soonest 22 = .ok (.putfield 211, 3) := by decide +kernel
theorem dX12_soonest_25 : decode cX12_soonest 25 = .ok (.aload_n 0, 1) := by decide +kernel
theorem dX12_soonest_26 : decode cX12_soonest 26 = .ok (.getfield 211, 3) := by decide +kernel
theorem dX12_soonest_29 : decode cX12_soonest 29 = .ok (.aload_n 0, 1) := by decide +kernel
theorem dX12_soonest_30 : decode cX12_soonest 30 = .ok (.getfield 9, 3) := by decide +kernel
theorem dX12_soonest_33 : decode cX12_soonest 33 = .ok (.iconst 0, 1) := by decide +kernel
theorem dX12_soonest_34 : decode cX12_soonest 34 = .ok (.iaload, 1) := by decide +kernel
theorem dX12_soonest_35 : decode cX12_soonest 35 = .ok (.if_icmp .ge 42, 3) := by decide +kernel
theorem dX12_soonest_38 : decode cX12_soonest 38 = .ok (.aload_n 0, 1) := by decide +kernel
theorem dX12_soonest_39 : decode cX12_soonest 39 = .ok (.iconst 0, 1) := by decide +kernel
theorem dX12_soonest_40 : decode cX12_soonest 40 = .ok (.invokevirtual 236, 3) := by decide +kernel
theorem dX12_soonest_43 : decode cX12_soonest 43 = .ok (.istore_n 3, 1) := by decide +kernel
theorem dX12_soonest_44 : decode cX12_soonest 44 = .ok (.iload_n 3, 1) := by decide +kernel
theorem dX12_soonest_45 : decode cX12_soonest 45 = .ok (.iconst (-1), 1) := by decide +kernel
theorem dX12_soonest_46 : decode cX12_soonest 46 = .ok (.if_icmp .eq 18, 3) := by decide +kernel
theorem dX12_soonest_49 : decode cX12_soonest 49 = .ok (.iload_n 3, 1) := by decide +kernel
theorem dX12_soonest_50 : decode cX12_soonest 50 = .ok (.iload_n 2, 1) := by decide +kernel
theorem dX12_soonest_51 : decode cX12_soonest 51 = .ok (.if_icmp .lt 6, 3) := by decide +kernel
theorem dX12_soonest_54 : decode cX12_soonest 54 = .ok (.goto 10, 3) := by decide +kernel
theorem dX12_soonest_57 : decode cX12_soonest 57 = .ok (.iload_n 3, 1) := by decide +kernel
theorem dX12_soonest_58 : decode cX12_soonest 58 = .ok (.istore_n 2, 1) := by decide +kernel
theorem dX12_soonest_59 : decode cX12_soonest 59 = .ok (.aload_n 0, 1) := by decide +kernel
theorem dX12_soonest_60 : decode cX12_soonest 60 = .ok (.getfield 211, 3) := by decide +kernel
theorem dX12_soonest_63 : decode cX12_soonest 63 = .ok (.istore_n 1, 1) := by decide +kernel
theorem dX12_soonest_64 : decode cX12_soonest 64 = .ok (.aload_n 0, 1) := by decide +kernel
theorem dX12_soonest_65 : decode cX12_soonest 65 = .ok (.dup, 1) := by decide +kernel
theorem dX12_soonest_66 : decode cX12_soonest 66 = .ok (.getfield 211, 3) := by decide +kernel
theorem dX12_soonest_69 : decode cX12_soonest 69 = .ok (.iconst 1, 1) := by decide +kernel
theorem dX12_soonest_70 : decode cX12_soonest 70 = .ok (.iadd, 1) := by decide +kernel
theorem dX12_soonest_71 : decode cX12_soonest 71 = .ok (.putfield 211, 3) := by decide +kernel
theorem dX12_soonest_74 : decode cX12_soonest 74 = .ok (.goto (-49), 3) := by decide +kernel
theorem dX12_soonest_77 : decode cX12_soonest 77 = .ok (.iload_n 1, 1) := by decide +kernel
theorem dX12_soonest_78 : decode cX12_soonest 78 = .ok (.ireturn, 1) := by decide +kernel
theorem dX12_spare_0 : decode cX12_spare 0 = .ok (.aload_n 0, 1) := by decide +kernel
theorem dX12_spare_1 : decode cX12_spare 1 = .ok (.iload_n 1, 1) := by decide +kernel
theorem dX12_spare_2 : decode cX12_spare 2 = .ok (.iload_n 2, 1) := by decide +kernel
theorem dX12_spare_3 : decode cX12_spare 3 = .ok (.invokevirtual 290, 3) := by decide +kernel
theorem dX12_spare_6 : decode cX12_spare 6 = .ok (.ifCond .ne 6, 3) := by decide +kernel
theorem dX12_spare_9 : decode cX12_spare 9 = .ok (.bipush (-2), 2) := by decide +kernel
theorem dX12_spare_11 : decode cX12_spare 11 = .ok (.ireturn, 1) := by decide +kernel
theorem dX12_spare_12 : decode cX12_spare 12 = .ok (.aload_n 0, 1) := by decide +kernel
theorem dX12_spare_13 : decode cX12_spare 13 = .ok (.iload_n 1, 1) := by decide +kernel
theorem dX12_spare_14 : decode cX12_spare 14 = .ok (.iload_n 2, 1) := by decide +kernel
theorem dX12_spare_15 : decode cX12_spare 15 = .ok (.invokevirtual 293, 3) := by decide +kernel
theorem dX12_spare_18 : decode cX12_spare 18 = .ok (.ifCond .ne 5, 3) := by decide +kernel
theorem dX12_spare_21 : decode cX12_spare 21 = .ok (.iconst (-1), 1) := by decide +kernel
theorem dX12_spare_22 : decode cX12_spare 22 = .ok (.ireturn, 1) := by decide +kernel
theorem dX12_spare_23 : decode cX12_spare 23 = .ok (.iconst 0, 1) := by decide +kernel
theorem dX12_spare_24 : decode cX12_spare 24 = .ok (.istore_n 3, 1) := by decide +kernel
theorem dX12_spare_25 : decode cX12_spare 25 = .ok (.aload_n 0, 1) := by decide +kernel
theorem dX12_spare_26 : decode cX12_spare 26 = .ok (.iload_n 1, 1) := by decide +kernel
theorem dX12_spare_27 : decode cX12_spare 27 = .ok (.iload_n 2, 1) := by decide +kernel
theorem dX12_spare_28 : decode cX12_spare 28 = .ok (.iload_n 3, 1) := by decide +kernel
theorem dX12_spare_29 : decode cX12_spare 29 = .ok (.invokevirtual 308, 3) := by decide +kernel
theorem dX12_spare_32 : decode cX12_spare 32 = .ok (.aload_n 0, 1) := by decide +kernel
theorem dX12_spare_33 : decode cX12_spare 33 = .ok (.iload_n 1, 1) := by decide +kernel
theorem dX12_spare_34 : decode cX12_spare 34 = .ok (.iload_n 2, 1) := by decide +kernel
theorem dX12_spare_35 : decode cX12_spare 35 = .ok (.aload_n 0, 1) := by decide +kernel
theorem dX12_spare_36 : decode cX12_spare 36 = .ok (.getfield 9, 3) := by decide +kernel
theorem dX12_spare_39 : decode cX12_spare 39 = .ok (.iconst 3, 1) := by decide +kernel
theorem dX12_spare_40 : decode cX12_spare 40 = .ok (.iaload, 1) := by decide +kernel
theorem dX12_spare_41 : decode cX12_spare 41 = .ok (.invokevirtual 308, 3) := by decide +kernel
theorem dX12_spare_44 : decode cX12_spare 44 = .ok (.if_icmp .ge 9, 3) := by decide +kernel
theorem dX12_spare_47 : decode cX12_spare 47 = .ok (.iinc 3 1, 3) := by decide +kernel
theorem dX12_spare_50 : decode cX12_spare 50 = .ok (.goto (-25), 3) := by decide +kernel
theorem dX12_spare_53 : decode cX12_spare 53 = .ok (.iload_n 3, 1) := by decide +kernel
theorem dX12_spare_54 : decode cX12_spare 54 = .ok (.ireturn, 1) := by decide +kernel
theorem dX12_stands_0 : decode cX12_stands 0 = .ok (.aload_n 0, 1) := by decide +kernel
theorem dX12_stands_1 : decode cX12_stands 1 = .ok (.invokevirtual 74, 3) := by decide +kernel
theorem dX12_stands_4 : decode cX12_stands 4 = .ok (.ifCond .ne 6, 3) := by decide +kernel
theorem dX12_stands_7 : decode cX12_stands 7 = .ok (.bipush (-2), 2) := by decide +kernel
theorem dX12_stands_9 : decode cX12_stands 9 = .ok (.ireturn, 1) := by decide +kernel
theorem dX12_stands_10 : decode cX12_stands 10 = .ok (.iconst 0, 1) := by decide +kernel
theorem dX12_stands_11 : decode cX12_stands 11 = .ok (.istore_n 1, 1) := by decide +kernel
theorem dX12_stands_12 : decode cX12_stands 12 = .ok (.iconst 0, 1) := by decide +kernel
theorem dX12_stands_13 : decode cX12_stands 13 = .ok (.istore_n 2, 1) := by decide +kernel
theorem dX12_stands_14 : decode cX12_stands 14 = .ok (.iload_n 2, 1) := by decide +kernel
theorem dX12_stands_15 : decode cX12_stands 15 = .ok (.aload_n 0, 1) := by decide +kernel
theorem dX12_stands_16 : decode cX12_stands 16 = .ok (.getfield 9, 3) := by decide +kernel
theorem dX12_stands_19 : decode cX12_stands 19 = .ok (.iconst 5, 1) := by decide +kernel
theorem dX12_stands_20 : decode cX12_stands 20 = .ok (.iaload, 1) := by decide +kernel
theorem dX12_stands_21 : decode cX12_stands 21 = .ok (.if_icmp .ge 37, 3) := by decide +kernel
theorem dX12_stands_24 : decode cX12_stands 24 = .ok (.iload_n 1, 1) := by decide +kernel
theorem dX12_stands_25 : decode cX12_stands 25 = .ok (.aload_n 0, 1) := by decide +kernel
theorem dX12_stands_26 : decode cX12_stands 26 = .ok (.iload_n 2, 1) := by decide +kernel
theorem dX12_stands_27 : decode cX12_stands 27 = .ok (.iconst 1, 1) := by decide +kernel
theorem dX12_stands_28 : decode cX12_stands 28 = .ok (.invokevirtual 208, 3) := by decide +kernel
theorem dX12_stands_31 : decode cX12_stands 31 = .ok (.ifCond .lt 18, 3) := by decide +kernel
theorem dX12_stands_34 : decode cX12_stands 34 = .ok (.aload_n 0, 1) := by decide +kernel
theorem dX12_stands_35 : decode cX12_stands 35 = .ok (.iload_n 2, 1) := by decide +kernel
theorem dX12_stands_36 : decode cX12_stands 36 = .ok (.iconst 2, 1) := by decide +kernel
theorem dX12_stands_37 : decode cX12_stands 37 = .ok (.invokevirtual 208, 3) := by decide +kernel
theorem dX12_stands_40 : decode cX12_stands 40 = .ok (.ifCond .lt 9, 3) := by decide +kernel
theorem dX12_stands_43 : decode cX12_stands 43 = .ok (.iconst 1, 1) := by decide +kernel
theorem dX12_stands_44 : decode cX12_stands 44 = .ok (.iload_n 2, 1) := by decide +kernel
theorem dX12_stands_45 : decode cX12_stands 45 = .ok (.ishl, 1) := by decide +kernel
theorem dX12_stands_46 : decode cX12_stands 46 = .ok (.goto 4, 3) := by decide +kernel
theorem dX12_stands_49 : decode cX12_stands 49 = .ok (.iconst 0, 1) := by decide +kernel
theorem dX12_stands_50 : decode cX12_stands 50 = .ok (.ior, 1) := by decide +kernel
theorem dX12_stands_51 : decode cX12_stands 51 = .ok (.istore_n 1, 1) := by decide +kernel
theorem dX12_stands_52 : decode cX12_stands 52 = .ok (.iinc 2 1, 3) := by decide +kernel
theorem dX12_stands_55 : decode cX12_stands 55 = .ok (.goto (-41), 3) := by decide +kernel
theorem dX12_stands_58 : decode cX12_stands 58 = .ok (.iload_n 1, 1) := by decide +kernel
theorem dX12_stands_59 : decode cX12_stands 59 = .ok (.ireturn, 1) := by decide +kernel
theorem dX12_start_0 : decode cX12_start 0 = .ok (.aload_n 0, 1) := by decide +kernel
theorem dX12_start_1 : decode cX12_start 1 = .ok (.iload_n 1, 1) := by decide +kernel
theorem dX12_start_2 : decode cX12_start 2 = .ok (.invokevirtual 256, 3) := by decide +kernel
theorem dX12_start_5 : decode cX12_start 5 = .ok (.ifCond .ne 6, 3) := by decide +kernel
theorem dX12_start_8 : decode cX12_start 8 = .ok (.bipush (-2), 2) := by decide +kernel
theorem dX12_start_10 : decode cX12_start 10 = .ok (.ireturn, 1) := by decide +kernel
theorem dX12_start_11 : decode cX12_start 11 = .ok (.aload_n 0, 1) := by decide +kernel
theorem dX12_start_12 : decode cX12_start 12 = .ok (.invokevirtual 259, 3) := by decide +kernel
theorem dX12_start_15 : decode cX12_start 15 = .ok (.iload_n 1, 1) := by decide +kernel
theorem dX12_start_16 : decode cX12_start 16 = .ok (.ifCond .ne 10, 3) := by decide +kernel
theorem dX12_start_19 : decode cX12_start 19 = .ok (.aload_n 0, 1) := by decide +kernel
theorem dX12_start_20 : decode cX12_start 20 = .ok (.getfield 211, 3) := by decide +kernel
theorem dX12_start_23 : decode cX12_start 23 = .ok (.goto 7, 3) := by decide +kernel
theorem dX12_start_26 : decode cX12_start 26 = .ok (.aload_n 0, 1) := by decide +kernel
theorem dX12_start_27 : decode cX12_start 27 = .ok (.getfield 214, 3) := by decide +kernel
theorem dX12_start_30 : decode cX12_start 30 = .ok (.ireturn, 1) := by decide +kernel
theorem dX12_strong_0 : decode cX12_strong 0 = .ok (.aload_n 0, 1) := by decide +kernel
theorem dX12_strong_1 : decode cX12_strong 1 = .ok (.iload_n 1, 1) := by decide +kernel
theorem dX12_strong_2 : decode cX12_strong 2 = .ok (.invokevirtual 256, 3) := by decide +kernel
theorem dX12_strong_5 : decode cX12_strong 5 = .ok (.ifCond .ne 6, 3) := by decide +kernel
theorem dX12_strong_8 : decode cX12_strong 8 = .ok (.bipush (-2), 2) := by decide +kernel
theorem dX12_strong_10 : decode cX12_strong 10 = .ok (.ireturn, 1) := by decide +kernel
theorem dX12_strong_11 : decode cX12_strong 11 = .ok (.iconst (-1), 1) := by decide +kernel
theorem dX12_strong_12 : decode cX12_strong 12 = .ok (.istore_n 2, 1) := by decide +kernel
theorem dX12_strong_13 : decode cX12_strong 13 = .ok (.iconst 0, 1) := by decide +kernel
theorem dX12_strong_14 : decode cX12_strong 14 = .ok (.istore_n 3, 1) := by decide +kernel
theorem dX12_strong_15 : decode cX12_strong 15 = .ok (.iload_n 3, 1) := by decide +kernel
theorem dX12_strong_16 : decode cX12_strong 16 = .ok (.aload_n 0, 1) := by decide +kernel
theorem dX12_strong_17 : decode cX12_strong 17 = .ok (.getfield 9, 3) := by decide +kernel
theorem dX12_strong_20 : decode cX12_strong 20 = .ok (.iconst 4, 1) := by decide +kernel
theorem dX12_strong_21 : decode cX12_strong 21 = .ok (.iaload, 1) := by decide +kernel
theorem dX12_strong_22 : decode cX12_strong 22 = .ok (.if_icmp .ge 41, 3) := by decide +kernel
theorem dX12_strong_25 : decode cX12_strong 25 = .ok (.aload_n 0, 1) := by decide +kernel
theorem dX12_strong_26 : decode cX12_strong 26 = .ok (.iload_n 3, 1) := by decide +kernel
theorem dX12_strong_27 : decode cX12_strong 27 = .ok (.iconst 0, 1) := by decide +kernel
theorem dX12_strong_28 : decode cX12_strong 28 = .ok (.invokevirtual 202, 3) := by decide +kernel
theorem dX12_strong_31 : decode cX12_strong 31 = .ok (.iload_n 1, 1) := by decide +kernel
theorem dX12_strong_32 : decode cX12_strong 32 = .ok (.if_icmp .ne 25, 3) := by decide +kernel
theorem dX12_strong_35 : decode cX12_strong 35 = .ok (.iload_n 2, 1) := by decide +kernel
theorem dX12_strong_36 : decode cX12_strong 36 = .ok (.iconst (-1), 1) := by decide +kernel
theorem dX12_strong_37 : decode cX12_strong 37 = .ok (.if_icmp .eq 18, 3) := by decide +kernel
theorem dX12_strong_40 : decode cX12_strong 40 = .ok (.aload_n 0, 1) := by decide +kernel
theorem dX12_strong_41 : decode cX12_strong 41 = .ok (.iload_n 3, 1) := by decide +kernel
theorem dX12_strong_42 : decode cX12_strong 42 = .ok (.iconst 1, 1) := by decide +kernel
theorem dX12_strong_43 : decode cX12_strong 43 = .ok (.invokevirtual 202, 3) := by decide +kernel
theorem dX12_strong_46 : decode cX12_strong 46 = .ok (.aload_n 0, 1) := by decide +kernel
theorem dX12_strong_47 : decode cX12_strong 47 = .ok (.iload_n 2, 1) := by decide +kernel
theorem dX12_strong_48 : decode cX12_strong 48 = .ok (.iconst 1, 1) := by decide +kernel
theorem dX12_strong_49 : decode cX12_strong 49 = .ok (.invokevirtual 202, 3) := by decide +kernel
theorem dX12_strong_52 : decode cX12_strong 52 = .ok (.if_icmp .le 5, 3) := by decide +kernel
theorem dX12_strong_55 : decode cX12_strong 55 = .ok (.iload_n 3, 1) := by decide +kernel
theorem dX12_strong_56 : decode cX12_strong 56 = .ok (.istore_n 2, 1) := by decide +kernel
theorem dX12_strong_57 : decode cX12_strong 57 = .ok (.iinc 3 1, 3) := by decide +kernel
theorem dX12_strong_60 : decode cX12_strong 60 = .ok (.goto (-45), 3) := by decide +kernel
theorem dX12_strong_63 : decode cX12_strong 63 = .ok (.iload_n 2, 1) := by decide +kernel
theorem dX12_strong_64 : decode cX12_strong 64 = .ok (.ireturn, 1) := by decide +kernel
theorem dX12_sumFrom_0 : decode cX12_sumFrom 0 = .ok (.aload_n 0, 1) := by decide +kernel
theorem dX12_sumFrom_1 : decode cX12_sumFrom 1 = .ok (.getfield 34, 3) := by decide +kernel
theorem dX12_sumFrom_4 : decode cX12_sumFrom 4 = .ok (.iload_n 1, 1) := by decide +kernel
theorem dX12_sumFrom_5 : decode cX12_sumFrom 5 = .ok (.bipush 8, 2) := by decide +kernel
theorem dX12_sumFrom_7 : decode cX12_sumFrom 7 = .ok (.ishl, 1) := by decide +kernel
theorem dX12_sumFrom_8 : decode cX12_sumFrom 8 = .ok (.iload_n 2, 1) := by decide +kernel
theorem dX12_sumFrom_9 : decode cX12_sumFrom 9 = .ok (.ior, 1) := by decide +kernel
theorem dX12_sumFrom_10 : decode cX12_sumFrom 10 = .ok (.iaload, 1) := by decide +kernel
theorem dX12_sumFrom_11 : decode cX12_sumFrom 11 = .ok (.ireturn, 1) := by decide +kernel
theorem dX12_sure_0 : decode cX12_sure 0 = .ok (.aload_n 0, 1) := by decide +kernel
theorem dX12_sure_1 : decode cX12_sure 1 = .ok (.iload_n 1, 1) := by decide +kernel
theorem dX12_sure_2 : decode cX12_sure 2 = .ok (.iload_n 2, 1) := by decide +kernel
theorem dX12_sure_3 : decode cX12_sure 3 = .ok (.invokevirtual 290, 3) := by decide +kernel
theorem dX12_sure_6 : decode cX12_sure 6 = .ok (.ifCond .eq 15, 3) := by decide +kernel
theorem dX12_sure_9 : decode cX12_sure 9 = .ok (.iload_n 3, 1) := by decide +kernel
theorem dX12_sure_10 : decode cX12_sure 10 = .ok (.i2l, 1) := by decide +kernel
theorem dX12_sure_11 : decode cX12_sure 11 = .ok (.lconst 0, 1) := by decide +kernel
theorem dX12_sure_12 : decode cX12_sure 12 = .ok (.ldc2_w 423, 3) := by decide +kernel
theorem dX12_sure_15 : decode cX12_sure 15 = .ok (.invokestatic 70, 3) := by decide +kernel
theorem dX12_sure_18 : decode cX12_sure 18 = .ok (.ifCond .ne 6, 3) := by decide +kernel
theorem dX12_sure_21 : decode cX12_sure 21 = .ok (.bipush (-2), 2) := by decide +kernel
theorem dX12_sure_23 : decode cX12_sure 23 = .ok (.ireturn, 1) := by decide +kernel
theorem dX12_sure_24 : decode cX12_sure 24 = .ok (.aload_n 0, 1) := by decide +kernel
theorem dX12_sure_25 : decode cX12_sure 25 = .ok (.iload_n 1, 1) := by decide +kernel
theorem dX12_sure_26 : decode cX12_sure 26 = .ok (.iload_n 2, 1) := by decide +kernel
theorem dX12_sure_27 : decode cX12_sure 27 = .ok (.invokevirtual 293, 3) := by decide +kernel
theorem dX12_sure_30 : decode cX12_sure 30 = .ok (.ifCond .ne 5, 3) := by decide +kernel
theorem dX12_sure_33 : decode cX12_sure 33 = .ok (.iconst (-1), 1) := by decide +kernel
theorem dX12_sure_34 : decode cX12_sure 34 = .ok (.ireturn, 1) := by decide +kernel
theorem dX12_sure_35 : decode cX12_sure 35 = .ok (.bipush 18, 2) := by decide +kernel
theorem dX12_sure_37 : decode cX12_sure 37 = .ok (.aload_n 0, 1) := by decide +kernel
theorem dX12_sure_38 : decode cX12_sure 38 = .ok (.iload_n 1, 1) := by decide +kernel
theorem dX12_sure_39 : decode cX12_sure 39 = .ok (.iload_n 2, 1) := by decide +kernel
theorem dX12_sure_40 : decode cX12_sure 40 = .ok (.invokevirtual 239, 3) := by decide +kernel
theorem dX12_sure_43 : decode cX12_sure 43 = .ok (.invokestatic 109, 3) := by decide +kernel
theorem dX12_sure_46 : decode cX12_sure 46 = .ok (.istore 4, 2) := by decide +kernel
theorem dX12_sure_48 : decode cX12_sure 48 = .ok (.aload_n 0, 1) := by decide +kernel
theorem dX12_sure_49 : decode cX12_sure 49 = .ok (.iload 4, 2) := by decide +kernel
theorem dX12_sure_51 : decode cX12_sure 51 = .ok (.iload_n 3, 1) := by decide +kernel
theorem dX12_sure_52 : decode cX12_sure 52 = .ok (.invokevirtual 425, 3) := by decide +kernel
theorem dX12_sure_55 : decode cX12_sure 55 = .ok (.ifCond .ne 9, 3) := by decide +kernel
theorem dX12_sure_58 : decode cX12_sure 58 = .ok (.iinc 4 (-1), 3) := by decide +kernel
theorem dX12_sure_61 : decode cX12_sure 61 = .ok (.goto (-13), 3) := by decide +kernel
theorem dX12_sure_64 : decode cX12_sure 64 = .ok (.iload 4, 2) := by decide +kernel
theorem dX12_sure_66 : decode cX12_sure 66 = .ok (.ireturn, 1) := by decide +kernel
theorem dX12_swap_0 : decode cX12_swap 0 = .ok (.aload_n 0, 1) := by decide +kernel
theorem dX12_swap_1 : decode cX12_swap 1 = .ok (.getfield 43, 3) := by decide +kernel
theorem dX12_swap_4 : decode cX12_swap 4 = .ok (.iload_n 1, 1) := by decide +kernel
theorem dX12_swap_5 : decode cX12_swap 5 = .ok (.iaload, 1) := by decide +kernel
theorem dX12_swap_6 : decode cX12_swap 6 = .ok (.istore_n 3, 1) := by decide +kernel
theorem dX12_swap_7 : decode cX12_swap 7 = .ok (.aload_n 0, 1) := by decide +kernel
theorem dX12_swap_8 : decode cX12_swap 8 = .ok (.getfield 43, 3) := by decide +kernel
theorem dX12_swap_11 : decode cX12_swap 11 = .ok (.iload_n 1, 1) := by decide +kernel
theorem dX12_swap_12 : decode cX12_swap 12 = .ok (.aload_n 0, 1) := by decide +kernel
theorem dX12_swap_13 : decode cX12_swap 13 = .ok (.getfield 43, 3) := by decide +kernel
theorem dX12_swap_16 : decode cX12_swap 16 = .ok (.iload_n 2, 1) := by decide +kernel
theorem dX12_swap_17 : decode cX12_swap 17 = .ok (.iaload, 1) := by decide +kernel
theorem dX12_swap_18 : decode cX12_swap 18 = .ok (.iastore, 1) := by decide +kernel
theorem dX12_swap_19 : decode cX12_swap 19 = .ok (.aload_n 0, 1) := by decide +kernel
theorem dX12_swap_20 : decode cX12_swap 20 = .ok (.getfield 43, 3) := by decide +kernel
theorem dX12_swap_23 : decode cX12_swap 23 = .ok (.iload_n 2, 1) := by decide +kernel
theorem dX12_swap_24 : decode cX12_swap 24 = .ok (.iload_n 3, 1) := by decide +kernel
theorem dX12_swap_25 : decode cX12_swap 25 = .ok (.iastore, 1) := by decide +kernel
theorem dX12_swap_26 : decode cX12_swap 26 = .ok (.return_, 1) := by decide +kernel
theorem dX12_swing_0 : decode cX12_swing 0 = .ok (.aload_n 0, 1) := by decide +kernel
theorem dX12_swing_1 : decode cX12_swing 1 = .ok (.iload_n 1, 1) := by decide +kernel
theorem dX12_swing_2 : decode cX12_swing 2 = .ok (.iload_n 2, 1) := by decide +kernel
theorem dX12_swing_3 : decode cX12_swing 3 = .ok (.invokevirtual 290, 3) := by decide +kernel
theorem dX12_swing_6 : decode cX12_swing 6 = .ok (.ifCond .eq 12, 3) := by decide +kernel
theorem dX12_swing_9 : decode cX12_swing 9 = .ok (.aload_n 0, 1) := by decide +kernel
theorem dX12_swing_10 : decode cX12_swing 10 = .ok (.iload_n 1, 1) := by decide +kernel
theorem dX12_swing_11 : decode cX12_swing 11 = .ok (.iload_n 2, 1) := by decide +kernel
theorem dX12_swing_12 : decode cX12_swing 12 = .ok (.invokevirtual 293, 3) := by decide +kernel
theorem dX12_swing_15 : decode cX12_swing 15 = .ok (.ifCond .ne 6, 3) := by decide +kernel
theorem dX12_swing_18 : decode cX12_swing 18 = .ok (.bipush (-2), 2) := by decide +kernel
theorem dX12_swing_20 : decode cX12_swing 20 = .ok (.ireturn, 1) := by decide +kernel
theorem dX12_swing_21 : decode cX12_swing 21 = .ok (.aload_n 0, 1) := by decide +kernel
theorem dX12_swing_22 : decode cX12_swing 22 = .ok (.invokevirtual 430, 3) := by decide +kernel
theorem dX12_swing_25 : decode cX12_swing 25 = .ok (.ifCond .ne 31, 3) := by decide +kernel
theorem dX12_swing_28 : decode cX12_swing 28 = .ok (.aload_n 0, 1) := by decide +kernel
theorem dX12_swing_29 : decode cX12_swing 29 = .ok (.aload_n 0, 1) := by decide +kernel
theorem dX12_swing_30 : decode cX12_swing 30 = .ok (.getfield 217, 3) := by decide +kernel
theorem dX12_swing_33 : decode cX12_swing 33 = .ok (.iconst 1, 1) := by decide +kernel
theorem dX12_swing_34 : decode cX12_swing 34 = .ok (.iadd, 1) := by decide +kernel
theorem dX12_swing_35 : decode cX12_swing 35 = .ok (.invokevirtual 236, 3) := by decide +kernel
theorem dX12_swing_38 : decode cX12_swing 38 = .ok (.iconst (-1), 1) := by decide +kernel
theorem dX12_swing_39 : decode cX12_swing 39 = .ok (.if_icmp .eq 17, 3) := by decide +kernel
theorem dX12_swing_42 : decode cX12_swing 42 = .ok (.aload_n 0, 1) := by decide +kernel
theorem dX12_swing_43 : decode cX12_swing 43 = .ok (.iconst 1, 1) := by decide +kernel
theorem dX12_swing_44 : decode cX12_swing 44 = .ok (.bipush 8, 2) := by decide +kernel
theorem dX12_swing_46 : decode cX12_swing 46 = .ok (.iload_n 1, 1) := by decide +kernel
theorem dX12_swing_47 : decode cX12_swing 47 = .ok (.imul, 1) := by decide +kernel
theorem dX12_swing_48 : decode cX12_swing 48 = .ok (.iload_n 2, 1) := by decide +kernel
theorem dX12_swing_49 : decode cX12_swing 49 = .ok (.iadd, 1) := by decide +kernel
theorem dX12_swing_50 : decode cX12_swing 50 = .ok (.invokevirtual 433, 3) := by decide +kernel
theorem dX12_swing_53 : decode cX12_swing 53 = .ok (.ifCond .ne 6, 3) := by decide +kernel
theorem dX12_swing_56 : decode cX12_swing 56 = .ok (.bipush (-5), 2) := by decide +kernel
theorem dX12_swing_58 : decode cX12_swing 58 = .ok (.ireturn, 1) := by decide +kernel
theorem dX12_swing_59 : decode cX12_swing 59 = .ok (.aload_n 0, 1) := by decide +kernel
theorem dX12_swing_60 : decode cX12_swing 60 = .ok (.getfield 217, 3) := by decide +kernel
theorem dX12_swing_63 : decode cX12_swing 63 = .ok (.ireturn, 1) := by decide +kernel

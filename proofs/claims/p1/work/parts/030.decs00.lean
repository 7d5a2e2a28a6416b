theorem dJ7_fill_53178_0 : decode cJ7_fill_53178 0 = .ok (.iconst 0, 1) := by decide +kernel
theorem dJ7_fill_53178_1 : decode cJ7_fill_53178 1 = .ok (.istore_n 2, 1) := by decide +kernel
theorem dJ7_fill_53178_2 : decode cJ7_fill_53178 2 = .ok (.aload_n 0, 1) := by decide +kernel
theorem dJ7_fill_53178_3 : decode cJ7_fill_53178 3 = .ok (.arraylength, 1) := by decide +kernel
theorem dJ7_fill_53178_4 : decode cJ7_fill_53178 4 = .ok (.istore_n 3, 1) := by decide +kernel
theorem dJ7_fill_53178_5 : decode cJ7_fill_53178 5 = .ok (.iload_n 2, 1) := by decide +kernel
theorem dJ7_fill_53178_6 : decode cJ7_fill_53178 6 = .ok (.iload_n 3, 1) := by decide +kernel
theorem dJ7_fill_53178_7 : decode cJ7_fill_53178 7 = .ok (.if_icmp .ge 13, 3) := by decide +kernel
theorem dJ7_fill_53178_10 : decode cJ7_fill_53178 10 = .ok (.aload_n 0, 1) := by decide +kernel
theorem dJ7_fill_53178_11 : decode cJ7_fill_53178 11 = .ok (.iload_n 2, 1) := by decide +kernel
theorem dJ7_fill_53178_12 : decode cJ7_fill_53178 12 = .ok (.iload_n 1, 1) := by decide +kernel
theorem dJ7_fill_53178_13 : decode cJ7_fill_53178 13 = .ok (.iastore, 1) := by decide +kernel
theorem dJ7_fill_53178_14 : decode cJ7_fill_53178 14 = .ok (.iinc 2 1, 3) := by decide +kernel
theorem dJ7_fill_53178_17 : decode cJ7_fill_53178 17 = .ok (.goto (-12), 3) := by decide +kernel
theorem dJ7_fill_53178_20 : decode cJ7_fill_53178 20 = .ok (.return_, 1) := by decide +kernel
theorem dX0_init_0 : decode cX0_init 0 = .ok (.aload_n 0, 1) := by decide +kernel
theorem dX0_init_1 : decode cX0_init 1 = .ok (.invokespecial 3, 3) := by decide +kernel
theorem dX0_init_4 : decode cX0_init 4 = .ok (.aload_n 0, 1) := by decide +kernel
theorem dX0_init_5 : decode cX0_init 5 = .ok (.iconst (-1), 1) := by decide +kernel
theorem dX0_init_6 : decode cX0_init 6 = .ok (.putfield 9, 3) := by decide +kernel
theorem dX0_init_9 : decode cX0_init 9 = .ok (.aload_n 0, 1) := by decide +kernel
theorem dX0_init_10 : decode cX0_init 10 = .ok (.sipush 128, 3) := by decide +kernel
theorem dX0_init_13 : decode cX0_init 13 = .ok (.newarray .int, 2) := by decide +kernel
theorem dX0_init_15 : decode cX0_init 15 = .ok (.putfield 15, 3) := by decide +kernel
theorem dX0_init_18 : decode cX0_init 18 = .ok (.aload_n 0, 1) := by decide +kernel
theorem dX0_init_19 : decode cX0_init 19 = .ok (.sipush 128, 3) := by decide +kernel
theorem dX0_init_22 : decode cX0_init 22 = .ok (.newarray .int, 2) := by decide +kernel
theorem dX0_init_24 : decode cX0_init 24 = .ok (.putfield 19, 3) := by decide +kernel
theorem dX0_init_27 : decode cX0_init 27 = .ok (.aload_n 0, 1) := by decide +kernel
theorem dX0_init_28 : decode cX0_init 28 = .ok (.sipush 128, 3) := by decide +kernel
theorem dX0_init_31 : decode cX0_init 31 = .ok (.newarray .int, 2) := by decide +kernel
theorem dX0_init_33 : decode cX0_init 33 = .ok (.putfield 22, 3) := by decide +kernel
theorem dX0_init_36 : decode cX0_init 36 = .ok (.aload_n 0, 1) := by decide +kernel
theorem dX0_init_37 : decode cX0_init 37 = .ok (.aload_n 1, 1) := by decide +kernel
theorem dX0_init_38 : decode cX0_init 38 = .ok (.putfield 25, 3) := by decide +kernel
theorem dX0_init_41 : decode cX0_init 41 = .ok (.return_, 1) := by decide +kernel
theorem dX10_init_0 : decode cX10_init 0 = .ok (.aload_n 0, 1) := by decide +kernel
theorem dX10_init_1 : decode cX10_init 1 = .ok (.invokespecial 3, 3) := by decide +kernel
theorem dX10_init_4 : decode cX10_init 4 = .ok (.aload_n 0, 1) := by decide +kernel
theorem dX10_init_5 : decode cX10_init 5 = .ok (.sipush 240, 3) := by decide +kernel
theorem dX10_init_8 : decode cX10_init 8 = .ok (.newarray .boolean, 2) := by decide +kernel
theorem dX10_init_10 : decode cX10_init 10 = .ok (.putfield 11, 3) := by decide +kernel
theorem dX10_init_13 : decode cX10_init 13 = .ok (.aload_n 0, 1) := by decide +kernel
theorem dX10_init_14 : decode cX10_init 14 = .ok (.bipush 40, 2) := by decide +kernel
theorem dX10_init_16 : decode cX10_init 16 = .ok (.newarray .int, 2) := by decide +kernel
theorem dX10_init_18 : decode cX10_init 18 = .ok (.putfield 15, 3) := by decide +kernel
theorem dX10_init_21 : decode cX10_init 21 = .ok (.aload_n 0, 1) := by decide +kernel
theorem dX10_init_22 : decode cX10_init 22 = .ok (.aload_n 1, 1) := by decide +kernel
theorem dX10_init_23 : decode cX10_init 23 = .ok (.putfield 19, 3) := by decide +kernel
theorem dX10_init_26 : decode cX10_init 26 = .ok (.aload_n 0, 1) := by decide +kernel
theorem dX10_init_27 : decode cX10_init 27 = .ok (.aload_n 2, 1) := by decide +kernel
theorem dX10_init_28 : decode cX10_init 28 = .ok (.putfield 23, 3) := by decide +kernel
theorem dX10_init_31 : decode cX10_init 31 = .ok (.return_, 1) := by decide +kernel
theorem dX11_able_0 : decode cX11_able 0 = .ok (.aload_n 0, 1) := by decide +kernel
theorem dX11_able_1 : decode cX11_able 1 = .ok (.getfield 28, 3) := by decide +kernel
theorem dX11_able_4 : decode cX11_able 4 = .ok (.invokevirtual 166, 3) := by decide +kernel
theorem dX11_able_7 : decode cX11_able 7 = .ok (.ifCond .ne 6, 3) := by decide +kernel
theorem dX11_able_10 : decode cX11_able 10 = .ok (.bipush (-2), 2) := by decide +kernel
theorem dX11_able_12 : decode cX11_able 12 = .ok (.ireturn, 1) := by decide +kernel
theorem dX11_anew_0 : decode cX11_anew 0 = .ok (.aload_n 0, 1) := by decide +kernel
theorem dX11_anew_1 : decode cX11_anew 1 = .ok (.getfield 28, 3) := by decide +kernel
theorem dX11_anew_4 : decode cX11_anew 4 = .ok (.invokevirtual 166, 3) := by decide +kernel
theorem dX11_anew_7 : decode cX11_anew 7 = .ok (.ifCond .ne 6, 3) := by decide +kernel
theorem dX11_anew_10 : decode cX11_anew 10 = .ok (.bipush (-2), 2) := by decide +kernel
theorem dX11_anew_12 : decode cX11_anew 12 = .ok (.ireturn, 1) := by decide +kernel
theorem dX11_ask_0 : decode cX11_ask 0 = .ok (.aload_n 0, 1) := by decide +kernel
theorem dX11_ask_1 : decode cX11_ask 1 = .ok (.iload_n 1, 1) := by decide +kernel
theorem dX11_ask_2 : decode cX11_ask 2 = .ok (.invokevirtual 300, 3) := by decide +kernel
theorem dX11_ask_5 : decode cX11_ask 5 = .ok (.istore_n 2, 1) := by decide +kernel
theorem dX11_ask_6 : decode cX11_ask 6 = .ok (.iload_n 2, 1) := by decide +kernel
theorem dX11_ask_7 : decode cX11_ask 7 = .ok (.ifCond .eq 5, 3) := by decide +kernel
theorem dX11_ask_10 : decode cX11_ask 10 = .ok (.iload_n 2, 1) := by decide +kernel
theorem dX11_ask_11 : decode cX11_ask 11 = .ok (.ireturn, 1) := by decide +kernel
theorem dX11_back_0 : decode cX11_back 0 = .ok (.iload_n 1, 1) := by decide +kernel
theorem dX11_back_1 : decode cX11_back 1 = .ok (.iconst 0, 1) := by decide +kernel
theorem dX11_back_2 : decode cX11_back 2 = .ok (.iconst 2, 1) := by decide +kernel
theorem dX11_back_3 : decode cX11_back 3 = .ok (.invokestatic 104, 3) := by decide +kernel
theorem dX11_back_6 : decode cX11_back 6 = .ok (.ifCond .ne 6, 3) := by decide +kernel
theorem dX11_back_9 : decode cX11_back 9 = .ok (.bipush (-2), 2) := by decide +kernel
theorem dX11_back_11 : decode cX11_back 11 = .ok (.ireturn, 1) := by decide +kernel
theorem dX11_back_12 : decode cX11_back 12 = .ok (.aload_n 0, 1) := by decide +kernel
theorem dX11_back_13 : decode cX11_back 13 = .ok (.getfield 41, 3) := by decide +kernel
theorem dX11_back_16 : decode cX11_back 16 = .ok (.iload_n 1, 1) := by decide +kernel
theorem dX11_back_17 : decode cX11_back 17 = .ok (.aaload, 1) := by decide +kernel
theorem dX11_back_18 : decode cX11_back 18 = .ok (.getfield 389, 3) := by decide +kernel
theorem dX11_back_21 : decode cX11_back 21 = .ok (.ifCond .ne 6, 3) := by decide +kernel
theorem dX11_back_24 : decode cX11_back 24 = .ok (.bipush (-6), 2) := by decide +kernel
theorem dX11_back_26 : decode cX11_back 26 = .ok (.ireturn, 1) := by decide +kernel
theorem dX11_bundle_0 : decode cX11_bundle 0 = .ok (.aload_n 0, 1) := by decide +kernel
theorem dX11_bundle_1 : decode cX11_bundle 1 = .ok (.getfield 28, 3) := by decide +kernel
theorem dX11_bundle_4 : decode cX11_bundle 4 = .ok (.invokevirtual 166, 3) := by decide +kernel
theorem dX11_bundle_7 : decode cX11_bundle 7 = .ok (.ifCond .ne 6, 3) := by decide +kernel
theorem dX11_bundle_10 : decode cX11_bundle 10 = .ok (.bipush (-2), 2) := by decide +kernel
theorem dX11_bundle_12 : decode cX11_bundle 12 = .ok (.ireturn, 1) := by decide +kernel
theorem dX11_bundles_0 : decode cX11_bundles 0 = .ok (.aload_n 0, 1) := by decide +kernel
theorem dX11_bundles_1 : decode cX11_bundles 1 = .ok (.getfield 28, 3) := by decide +kernel
theorem dX11_bundles_4 : decode cX11_bundles 4 = .ok (.invokevirtual 166, 3) := by decide +kernel
theorem dX11_bundles_7 : decode cX11_bundles 7 = .ok (.ifCond .ne 6, 3) := by decide +kernel
theorem dX11_bundles_10 : decode cX11_bundles 10 = .ok (.bipush (-2), 2) := by decide +kernel
theorem dX11_bundles_12 : decode cX11_bundles 12 = .ok (.ireturn, 1) := by decide +kernel
theorem dX11_by_0 : decode cX11_by 0 = .ok (.aload_n 0, 1) := by decide +kernel
theorem dX11_by_1 : decode cX11_by 1 = .ok (.getfield 28, 3) := by decide +kernel
theorem dX11_by_4 : decode cX11_by 4 = .ok (.iload_n 2, 1) := by decide +kernel
theorem dX11_by_5 : decode cX11_by 5 = .ok (.invokevirtual 130, 3) := by decide +kernel
theorem dX11_by_8 : decode cX11_by 8 = .ok (.ifCond .eq 11, 3) := by decide +kernel
theorem dX11_by_19 : decode cX11_by 19 = .ok (.bipush (-2), 2) := by decide +kernel
theorem dX11_by_21 : decode cX11_by 21 = .ok (.istore_n 3, 1) := by decide +kernel
theorem dX11_by_22 : decode cX11_by 22 = .ok (.iload_n 3, 1) := by decide +kernel
theorem dX11_by_23 : decode cX11_by 23 = .ok (.ifCond .eq 5, 3) := by decide +kernel
theorem dX11_by_26 : decode cX11_by 26 = .ok (.iload_n 3, 1) := by decide +kernel
theorem dX11_by_27 : decode cX11_by 27 = .ok (.ireturn, 1) := by decide +kernel
theorem dX11_chance_0 : decode cX11_chance 0 = .ok (.iload_n 3, 1) := by decide +kernel
theorem dX11_chance_1 : decode cX11_chance 1 = .ok (.iconst 0, 1) := by decide +kernel
theorem dX11_chance_2 : decode cX11_chance 2 = .ok (.bipush 18, 2) := by decide +kernel
theorem dX11_chance_4 : decode cX11_chance 4 = .ok (.invokestatic 104, 3) := by decide +kernel
theorem dX11_chance_7 : decode cX11_chance 7 = .ok (.ifCond .eq 13, 3) := by decide +kernel
theorem dX11_chance_10 : decode cX11_chance 10 = .ok (.iload 4, 2) := by decide +kernel
theorem dX11_chance_12 : decode cX11_chance 12 = .ok (.iconst 0, 1) := by decide +kernel
theorem dX11_chance_13 : decode cX11_chance 13 = .ok (.iconst 1, 1) := by decide +kernel
theorem dX11_chance_14 : decode cX11_chance 14 = .ok (.invokestatic 104, 3) := by decide +kernel
theorem dX11_chance_17 : decode cX11_chance 17 = .ok (.ifCond .ne 7, 3) := by decide +kernel
theorem dX11_chance_20 : decode cX11_chance 20 = .ok (.ldc2_w 315, 3) := by decide +kernel
theorem dX11_chance_23 : decode cX11_chance 23 = .ok (.lreturn, 1) := by decide +kernel
theorem dX11_chance_24 : decode cX11_chance 24 = .ok (.aload_n 0, 1) := by decide +kernel
theorem dX11_chance_25 : decode cX11_chance 25 = .ok (.getfield 28, 3) := by decide +kernel
theorem dX11_chance_28 : decode cX11_chance 28 = .ok (.iload_n 1, 1) := by decide +kernel
theorem dX11_chance_29 : decode cX11_chance 29 = .ok (.iload_n 2, 1) := by decide +kernel
theorem dX11_chance_30 : decode cX11_chance 30 = .ok (.invokevirtual 199, 3) := by decide +kernel
theorem dX11_chance_33 : decode cX11_chance 33 = .ok (.istore 5, 2) := by decide +kernel
theorem dX11_chance_35 : decode cX11_chance 35 = .ok (.iload 5, 2) := by decide +kernel
theorem dX11_chance_37 : decode cX11_chance 37 = .ok (.ifCond .ge 7, 3) := by decide +kernel
theorem dX11_chance_40 : decode cX11_chance 40 = .ok (.iload 5, 2) := by decide +kernel
theorem dX11_chance_42 : decode cX11_chance 42 = .ok (.i2l, 1) := by decide +kernel
theorem dX11_chance_43 : decode cX11_chance 43 = .ok (.lreturn, 1) := by decide +kernel
theorem dX11_clause_0 : decode cX11_clause 0 = .ok (.aload_n 0, 1) := by decide +kernel
theorem dX11_clause_1 : decode cX11_clause 1 = .ok (.getfield 28, 3) := by decide +kernel
theorem dX11_clause_4 : decode cX11_clause 4 = .ok (.iload_n 1, 1) := by decide +kernel
theorem dX11_clause_5 : decode cX11_clause 5 = .ok (.invokevirtual 143, 3) := by decide +kernel
theorem dX11_clause_8 : decode cX11_clause 8 = .ok (.ifCond .ne 7, 3) := by decide +kernel
theorem dX11_clause_11 : decode cX11_clause 11 = .ok (.sipush (-1000), 3) := by decide +kernel
theorem dX11_clause_14 : decode cX11_clause 14 = .ok (.ireturn, 1) := by decide +kernel
theorem dX11_count_0 : decode cX11_count 0 = .ok (.iload_n 1, 1) := by decide +kernel
theorem dX11_count_1 : decode cX11_count 1 = .ok (.tableswitch 149 0 10 #[59, 68, 77, 85, 93, 101, 109, 117, 125, 133, 141], 59) := by decide +kernel
theorem dX11_count_60 : decode cX11_count 60 = .ok (.aload_n 0, 1) := by decide +kernel
theorem dX11_count_61 : decode cX11_count 61 = .ok (.getfield 28, 3) := by decide +kernel
theorem dX11_count_64 : decode cX11_count 64 = .ok (.iconst 0, 1) := by decide +kernel
theorem dX11_count_65 : decode cX11_count 65 = .ok (.invokevirtual 160, 3) := by decide +kernel
theorem dX11_count_68 : decode cX11_count 68 = .ok (.ireturn, 1) := by decide +kernel
theorem dX11_count_69 : decode cX11_count 69 = .ok (.aload_n 0, 1) := by decide +kernel
theorem dX11_count_70 : decode cX11_count 70 = .ok (.getfield 28, 3) := by decide +kernel
theorem dX11_count_73 : decode cX11_count 73 = .ok (.iconst 1, 1) := by decide +kernel
theorem dX11_count_74 : decode cX11_count 74 = .ok (.invokevirtual 160, 3) := by decide +kernel
theorem dX11_count_77 : decode cX11_count 77 = .ok (.ireturn, 1) := by decide +kernel
theorem dX11_count_78 : decode cX11_count 78 = .ok (.aload_n 0, 1) := by decide +kernel
theorem dX11_count_79 : decode cX11_count 79 = .ok (.getfield 28, 3) := by decide +kernel
theorem dX11_count_82 : decode cX11_count 82 = .ok (.getfield 317, 3) := by decide +kernel
theorem dX11_count_85 : decode cX11_count 85 = .ok (.ireturn, 1) := by decide +kernel
theorem dX11_count_86 : decode cX11_count 86 = .ok (.aload_n 0, 1) := by decide +kernel
theorem dX11_count_87 : decode cX11_count 87 = .ok (.getfield 28, 3) := by decide +kernel
theorem dX11_count_90 : decode cX11_count 90 = .ok (.getfield 220, 3) := by decide +kernel
theorem dX11_count_93 : decode cX11_count 93 = .ok (.ireturn, 1) := by decide +kernel
theorem dX11_count_94 : decode cX11_count 94 = .ok (.aload_n 0, 1) := by decide +kernel
theorem dX11_count_95 : decode cX11_count 95 = .ok (.getfield 28, 3) := by decide +kernel
theorem dX11_count_98 : decode cX11_count 98 = .ok (.getfield 202, 3) := by decide +kernel
theorem dX11_count_101 : decode cX11_count 101 = .ok (.ireturn, 1) := by decide +kernel
theorem dX11_count_102 : decode cX11_count 102 = .ok (.aload_n 0, 1) := by decide +kernel
theorem dX11_count_103 : decode cX11_count 103 = .ok (.getfield 28, 3) := by decide +kernel
theorem dX11_count_106 : decode cX11_count 106 = .ok (.getfield 279, 3) := by decide +kernel
theorem dX11_count_109 : decode cX11_count 109 = .ok (.ireturn, 1) := by decide +kernel
theorem dX11_count_110 : decode cX11_count 110 = .ok (.aload_n 0, 1) := by decide +kernel
theorem dX11_count_111 : decode cX11_count 111 = .ok (.getfield 28, 3) := by decide +kernel
theorem dX11_count_114 : decode cX11_count 114 = .ok (.getfield 383, 3) := by decide +kernel
theorem dX11_count_117 : decode cX11_count 117 = .ok (.ireturn, 1) := by decide +kernel
theorem dX11_count_118 : decode cX11_count 118 = .ok (.aload_n 0, 1) := by decide +kernel
theorem dX11_count_119 : decode cX11_count 119 = .ok (.getfield 35, 3) := by decide +kernel
theorem dX11_count_122 : decode cX11_count 122 = .ok (.getfield 371, 3) := by decide +kernel
theorem dX11_count_125 : decode cX11_count 125 = .ok (.ireturn, 1) := by decide +kernel
theorem dX11_count_126 : decode cX11_count 126 = .ok (.aload_n 0, 1) := by decide +kernel
theorem dX11_count_127 : decode cX11_count 127 = .ok (.getfield 28, 3) := by decide +kernel
theorem dX11_count_130 : decode cX11_count 130 = .ok (.getfield 121, 3) := by decide +kernel
theorem dX11_count_133 : decode cX11_count 133 = .ok (.ireturn, 1) := by decide +kernel
theorem dX11_count_134 : decode cX11_count 134 = .ok (.aload_n 0, 1) := by decide +kernel
theorem dX11_count_135 : decode cX11_count 135 = .ok (.getfield 10, 3) := by decide +kernel
theorem dX11_count_138 : decode cX11_count 138 = .ok (.getfield 100, 3) := by decide +kernel
theorem dX11_count_141 : decode cX11_count 141 = .ok (.ireturn, 1) := by decide +kernel
theorem dX11_count_142 : decode cX11_count 142 = .ok (.aload_n 0, 1) := by decide +kernel
theorem dX11_count_143 : decode cX11_count 143 = .ok (.getfield 49, 3) := by decide +kernel
theorem dX11_count_146 : decode cX11_count 146 = .ok (.invokevirtual 386, 3) := by decide +kernel
theorem dX11_count_149 : decode cX11_count 149 = .ok (.ireturn, 1) := by decide +kernel
theorem dX11_count_150 : decode cX11_count 150 = .ok (.iconst (-1), 1) := by decide +kernel
theorem dX11_count_151 : decode cX11_count 151 = .ok (.ireturn, 1) := by decide +kernel
theorem dX11_cut_0 : decode cX11_cut 0 = .ok (.aload_n 0, 1) := by decide +kernel
theorem dX11_cut_1 : decode cX11_cut 1 = .ok (.iload_n 1, 1) := by decide +kernel
theorem dX11_cut_2 : decode cX11_cut 2 = .ok (.iload_n 2, 1) := by decide +kernel
theorem dX11_cut_3 : decode cX11_cut 3 = .ok (.invokevirtual 227, 3) := by decide +kernel
theorem dX11_cut_6 : decode cX11_cut 6 = .ok (.istore_n 3, 1) := by decide +kernel
theorem dX11_cut_7 : decode cX11_cut 7 = .ok (.iload_n 3, 1) := by decide +kernel
theorem dX11_cut_8 : decode cX11_cut 8 = .ok (.ifCond .eq 7, 3) := by decide +kernel
theorem dX11_cut_11 : decode cX11_cut 11 = .ok (.iload_n 3, 1) := by decide +kernel
theorem dX11_cut_12 : decode cX11_cut 12 = .ok (.goto 16, 3) := by decide +kernel
theorem dX11_cut_28 : decode cX11_cut 28 = .ok (.ireturn, 1) := by decide +kernel
theorem dX11_deal_0 : decode cX11_deal 0 = .ok (.aload_n 0, 1) := by decide +kernel
theorem dX11_deal_1 : decode cX11_deal 1 = .ok (.getfield 28, 3) := by decide +kernel
theorem dX11_deal_4 : decode cX11_deal 4 = .ok (.invokevirtual 166, 3) := by decide +kernel
theorem dX11_deal_7 : decode cX11_deal 7 = .ok (.ifCond .eq 13, 3) := by decide +kernel
theorem dX11_deal_20 : decode cX11_deal 20 = .ok (.bipush (-2), 2) := by decide +kernel
theorem dX11_deal_22 : decode cX11_deal 22 = .ok (.ireturn, 1) := by decide +kernel
theorem dX11_drawn_0 : decode cX11_drawn 0 = .ok (.iload_n 1, 1) := by decide +kernel
theorem dX11_drawn_1 : decode cX11_drawn 1 = .ok (.iconst 0, 1) := by decide +kernel
theorem dX11_drawn_2 : decode cX11_drawn 2 = .ok (.ldc 159, 2) := by decide +kernel
theorem dX11_drawn_4 : decode cX11_drawn 4 = .ok (.invokestatic 104, 3) := by decide +kernel
theorem dX11_drawn_7 : decode cX11_drawn 7 = .ok (.ifCond .ne 6, 3) := by decide +kernel
theorem dX11_drawn_10 : decode cX11_drawn 10 = .ok (.bipush (-2), 2) := by decide +kernel
theorem dX11_drawn_12 : decode cX11_drawn 12 = .ok (.ireturn, 1) := by decide +kernel
theorem dX11_drawn_13 : decode cX11_drawn 13 = .ok (.aload_n 0, 1) := by decide +kernel
theorem dX11_drawn_14 : decode cX11_drawn 14 = .ok (.getfield 28, 3) := by decide +kernel
theorem dX11_drawn_17 : decode cX11_drawn 17 = .ok (.iload_n 2, 1) := by decide +kernel
theorem dX11_drawn_18 : decode cX11_drawn 18 = .ok (.iload_n 3, 1) := by decide +kernel
theorem dX11_drawn_19 : decode cX11_drawn 19 = .ok (.invokevirtual 199, 3) := by decide +kernel
theorem dX11_drawn_22 : decode cX11_drawn 22 = .ok (.istore 4, 2) := by decide +kernel
theorem dX11_drawn_24 : decode cX11_drawn 24 = .ok (.iload 4, 2) := by decide +kernel
theorem dX11_drawn_26 : decode cX11_drawn 26 = .ok (.ifCond .ge 8, 3) := by decide +kernel
theorem dX11_drawn_29 : decode cX11_drawn 29 = .ok (.iload 4, 2) := by decide +kernel
theorem dX11_drawn_31 : decode cX11_drawn 31 = .ok (.goto 10, 3) := by decide +kernel
theorem dX11_drawn_41 : decode cX11_drawn 41 = .ok (.ireturn, 1) := by decide +kernel
theorem dX11_drop_0 : decode cX11_drop 0 = .ok (.aload_n 0, 1) := by decide +kernel
theorem dX11_drop_1 : decode cX11_drop 1 = .ok (.getfield 28, 3) := by decide +kernel
theorem dX11_drop_4 : decode cX11_drop 4 = .ok (.invokevirtual 166, 3) := by decide +kernel
theorem dX11_drop_7 : decode cX11_drop 7 = .ok (.ifCond .ne 6, 3) := by decide +kernel
theorem dX11_drop_10 : decode cX11_drop 10 = .ok (.bipush (-2), 2) := by decide +kernel
theorem dX11_drop_12 : decode cX11_drop 12 = .ok (.ireturn, 1) := by decide +kernel
theorem dX11_end_0 : decode cX11_end 0 = .ok (.iload_n 1, 1) := by decide +kernel
theorem dX11_end_1 : decode cX11_end 1 = .ok (.iconst 0, 1) := by decide +kernel
theorem dX11_end_2 : decode cX11_end 2 = .ok (.aload_n 0, 1) := by decide +kernel
theorem dX11_end_3 : decode cX11_end 3 = .ok (.getfield 10, 3) := by decide +kernel
theorem dX11_end_6 : decode cX11_end 6 = .ok (.getfield 100, 3) := by decide +kernel
theorem dX11_end_9 : decode cX11_end 9 = .ok (.invokestatic 104, 3) := by decide +kernel
theorem dX11_end_12 : decode cX11_end 12 = .ok (.ifCond .ne 5, 3) := by decide +kernel
theorem dX11_end_15 : decode cX11_end 15 = .ok (.iconst (-1), 1) := by decide +kernel
theorem dX11_end_16 : decode cX11_end 16 = .ok (.ireturn, 1) := by decide +kernel
theorem dX11_end_17 : decode cX11_end 17 = .ok (.aload_n 0, 1) := by decide +kernel
theorem dX11_end_18 : decode cX11_end 18 = .ok (.getfield 10, 3) := by decide +kernel
theorem dX11_end_21 : decode cX11_end 21 = .ok (.iload_n 1, 1) := by decide +kernel
theorem dX11_end_22 : decode cX11_end 22 = .ok (.putfield 100, 3) := by decide +kernel
theorem dX11_end_25 : decode cX11_end 25 = .ok (.iload_n 1, 1) := by decide +kernel
theorem dX11_end_26 : decode cX11_end 26 = .ok (.ireturn, 1) := by decide +kernel
theorem dX11_ends_0 : decode cX11_ends 0 = .ok (.aload_n 0, 1) := by decide +kernel
theorem dX11_ends_1 : decode cX11_ends 1 = .ok (.iload_n 1, 1) := by decide +kernel
theorem dX11_ends_2 : decode cX11_ends 2 = .ok (.iconst 1, 1) := by decide +kernel
theorem dX11_ends_3 : decode cX11_ends 3 = .ok (.invokevirtual 237, 3) := by decide +kernel
theorem dX11_ends_6 : decode cX11_ends 6 = .ok (.ifCond .ne 6, 3) := by decide +kernel
theorem dX11_ends_9 : decode cX11_ends 9 = .ok (.bipush (-2), 2) := by decide +kernel
theorem dX11_ends_11 : decode cX11_ends 11 = .ok (.ireturn, 1) := by decide +kernel
theorem dX11_even_0 : decode cX11_even 0 = .ok (.aload_n 0, 1) := by decide +kernel
theorem dX11_even_1 : decode cX11_even 1 = .ok (.getfield 28, 3) := by decide +kernel
theorem dX11_even_4 : decode cX11_even 4 = .ok (.invokevirtual 166, 3) := by decide +kernel
theorem dX11_even_7 : decode cX11_even 7 = .ok (.ifCond .eq 13, 3) := by decide +kernel
theorem dX11_even_20 : decode cX11_even 20 = .ok (.bipush (-2), 2) := by decide +kernel
theorem dX11_even_22 : decode cX11_even 22 = .ok (.ireturn, 1) := by decide +kernel
theorem dX11_fair_0 : decode cX11_fair 0 = .ok (.aload_n 0, 1) := by decide +kernel
theorem dX11_fair_1 : decode cX11_fair 1 = .ok (.getfield 28, 3) := by decide +kernel
theorem dX11_fair_4 : decode cX11_fair 4 = .ok (.invokevirtual 166, 3) := by decide +kernel
theorem dX11_fair_7 : decode cX11_fair 7 = .ok (.ifCond .ne 6, 3) := by decide +kernel
theorem dX11_fair_10 : decode cX11_fair 10 = .ok (.bipush (-2), 2) := by decide +kernel
theorem dX11_fair_12 : decode cX11_fair 12 = .ok (.ireturn, 1) := by decide +kernel
theorem dX11_fault_0 : decode cX11_fault 0 = .ok (.iload_n 1, 1) := by decide +kernel
theorem dX11_fault_1 : decode cX11_fault 1 = .ok (.ifCond .ne 11, 3) := by decide +kernel
theorem dX11_fault_4 : decode cX11_fault 4 = .ok (.aload_n 0, 1) := by decide +kernel
theorem dX11_fault_5 : decode cX11_fault 5 = .ok (.getfield 21, 3) := by decide +kernel
theorem dX11_fault_8 : decode cX11_fault 8 = .ok (.getfield 124, 3) := by decide +kernel
theorem dX11_fault_11 : decode cX11_fault 11 = .ok (.ireturn, 1) := by decide +kernel
theorem dX11_fault_12 : decode cX11_fault 12 = .ok (.iload_n 1, 1) := by decide +kernel
theorem dX11_fault_13 : decode cX11_fault 13 = .ok (.iconst 1, 1) := by decide +kernel
theorem dX11_fault_14 : decode cX11_fault 14 = .ok (.if_icmp .ne 13, 3) := by decide +kernel
theorem dX11_fault_17 : decode cX11_fault 17 = .ok (.aload_n 0, 1) := by decide +kernel
theorem dX11_fault_18 : decode cX11_fault 18 = .ok (.getfield 21, 3) := by decide +kernel
theorem dX11_fault_21 : decode cX11_fault 21 = .ok (.getfield 127, 3) := by decide +kernel
theorem dX11_fault_24 : decode cX11_fault 24 = .ok (.goto 4, 3) := by decide +kernel
theorem dX11_fault_27 : decode cX11_fault 27 = .ok (.iconst (-1), 1) := by decide +kernel
theorem dX11_fault_28 : decode cX11_fault 28 = .ok (.ireturn, 1) := by decide +kernel
theorem dX11_feed_0 : decode cX11_feed 0 = .ok (.aload_n 0, 1) := by decide +kernel
theorem dX11_feed_1 : decode cX11_feed 1 = .ok (.getfield 10, 3) := by decide +kernel
theorem dX11_feed_4 : decode cX11_feed 4 = .ok (.bipush 20, 2) := by decide +kernel
theorem dX11_feed_6 : decode cX11_feed 6 = .ok (.invokevirtual 92, 3) := by decide +kernel
theorem dX11_feed_9 : decode cX11_feed 9 = .ok (.ifCond .ne 5, 3) := by decide +kernel
theorem dX11_feed_14 : decode cX11_feed 14 = .ok (.aload_n 0, 1) := by decide +kernel
theorem dX11_feed_15 : decode cX11_feed 15 = .ok (.getfield 10, 3) := by decide +kernel
theorem dX11_feed_18 : decode cX11_feed 18 = .ok (.iload_n 1, 1) := by decide +kernel
theorem dX11_feed_19 : decode cX11_feed 19 = .ok (.invokevirtual 96, 3) := by decide +kernel
theorem dX11_feed_22 : decode cX11_feed 22 = .ok (.aload_n 0, 1) := by decide +kernel
theorem dX11_feed_23 : decode cX11_feed 23 = .ok (.getfield 10, 3) := by decide +kernel
theorem dX11_feed_26 : decode cX11_feed 26 = .ok (.iload_n 2, 1) := by decide +kernel
theorem dX11_feed_27 : decode cX11_feed 27 = .ok (.invokevirtual 96, 3) := by decide +kernel
theorem dX11_feed_30 : decode cX11_feed 30 = .ok (.aload_n 0, 1) := by decide +kernel
theorem dX11_feed_31 : decode cX11_feed 31 = .ok (.getfield 10, 3) := by decide +kernel
theorem dX11_feed_34 : decode cX11_feed 34 = .ok (.iload_n 3, 1) := by decide +kernel
theorem dX11_feed_35 : decode cX11_feed 35 = .ok (.invokevirtual 96, 3) := by decide +kernel
theorem dX11_feed_38 : decode cX11_feed 38 = .ok (.aload_n 0, 1) := by decide +kernel
theorem dX11_feed_39 : decode cX11_feed 39 = .ok (.getfield 10, 3) := by decide +kernel
theorem dX11_feed_42 : decode cX11_feed 42 = .ok (.iload 4, 2) := by decide +kernel
theorem dX11_feed_44 : decode cX11_feed 44 = .ok (.invokevirtual 96, 3) := by decide +kernel
theorem dX11_feed_47 : decode cX11_feed 47 = .ok (.aload_n 0, 1) := by decide +kernel
theorem dX11_feed_48 : decode cX11_feed 48 = .ok (.getfield 10, 3) := by decide +kernel
theorem dX11_feed_51 : decode cX11_feed 51 = .ok (.iload 5, 2) := by decide +kernel
theorem dX11_feed_53 : decode cX11_feed 53 = .ok (.invokevirtual 96, 3) := by decide +kernel
theorem dX11_feed_56 : decode cX11_feed 56 = .ok (.aload_n 0, 1) := by decide +kernel
theorem dX11_feed_57 : decode cX11_feed 57 = .ok (.getfield 10, 3) := by decide +kernel
theorem dX11_feed_60 : decode cX11_feed 60 = .ok (.getfield 100, 3) := by decide +kernel
theorem dX11_feed_63 : decode cX11_feed 63 = .ok (.ireturn, 1) := by decide +kernel
theorem dX11_firm_0 : decode cX11_firm 0 = .ok (.aload_n 0, 1) := by decide +kernel
theorem dX11_firm_1 : decode cX11_firm 1 = .ok (.getfield 28, 3) := by decide +kernel
theorem dX11_firm_4 : decode cX11_firm 4 = .ok (.invokevirtual 166, 3) := by decide +kernel
theorem dX11_firm_7 : decode cX11_firm 7 = .ok (.ifCond .eq 13, 3) := by decide +kernel
theorem dX11_firm_20 : decode cX11_firm 20 = .ok (.bipush (-2), 2) := by decide +kernel
theorem dX11_firm_22 : decode cX11_firm 22 = .ok (.ireturn, 1) := by decide +kernel
theorem dX11_fits_0 : decode cX11_fits 0 = .ok (.aload_n 0, 1) := by decide +kernel
theorem dX11_fits_1 : decode cX11_fits 1 = .ok (.iload_n 1, 1) := by decide +kernel
theorem dX11_fits_2 : decode cX11_fits 2 = .ok (.invokevirtual 300, 3) := by decide +kernel
theorem dX11_fits_5 : decode cX11_fits 5 = .ok (.istore_n 2, 1) := by decide +kernel
theorem dX11_fits_6 : decode cX11_fits 6 = .ok (.iload_n 2, 1) := by decide +kernel
theorem dX11_fits_7 : decode cX11_fits 7 = .ok (.ifCond .eq 5, 3) := by decide +kernel
theorem dX11_fits_10 : decode cX11_fits 10 = .ok (.iload_n 2, 1) := by decide +kernel
theorem dX11_fits_11 : decode cX11_fits 11 = .ok (.ireturn, 1) := by decide +kernel
theorem dX11_full_0 : decode cX11_full 0 = .ok (.aload_n 0, 1) := by decide +kernel
theorem dX11_full_1 : decode cX11_full 1 = .ok (.iload_n 1, 1) := by decide +kernel
theorem dX11_full_2 : decode cX11_full 2 = .ok (.iconst 0, 1) := by decide +kernel
theorem dX11_full_3 : decode cX11_full 3 = .ok (.invokevirtual 237, 3) := by decide +kernel
theorem dX11_full_6 : decode cX11_full 6 = .ok (.ifCond .eq 17, 3) := by decide +kernel
theorem dX11_full_23 : decode cX11_full 23 = .ok (.bipush (-2), 2) := by decide +kernel
theorem dX11_full_25 : decode cX11_full 25 = .ok (.ireturn, 1) := by decide +kernel
theorem dX11_fulls_0 : decode cX11_fulls 0 = .ok (.aload_n 0, 1) := by decide +kernel
theorem dX11_fulls_1 : decode cX11_fulls 1 = .ok (.iload_n 1, 1) := by decide +kernel
theorem dX11_fulls_2 : decode cX11_fulls 2 = .ok (.iconst 0, 1) := by decide +kernel
theorem dX11_fulls_3 : decode cX11_fulls 3 = .ok (.invokevirtual 237, 3) := by decide +kernel
theorem dX11_fulls_6 : decode cX11_fulls 6 = .ok (.ifCond .eq 14, 3) := by decide +kernel
theorem dX11_fulls_20 : decode cX11_fulls 20 = .ok (.bipush (-2), 2) := by decide +kernel
theorem dX11_fulls_22 : decode cX11_fulls 22 = .ok (.ireturn, 1) := by decide +kernel
theorem dX11_gorge_0 : decode cX11_gorge 0 = .ok (.aload_n 0, 1) := by decide +kernel
theorem dX11_gorge_1 : decode cX11_gorge 1 = .ok (.getfield 21, 3) := by decide +kernel
theorem dX11_gorge_4 : decode cX11_gorge 4 = .ok (.invokevirtual 108, 3) := by decide +kernel
theorem dX11_gorge_7 : decode cX11_gorge 7 = .ok (.ifCond .ne 6, 3) := by decide +kernel
theorem dX11_gorge_13 : decode cX11_gorge 13 = .ok (.aload_n 0, 1) := by decide +kernel
theorem dX11_gorge_14 : decode cX11_gorge 14 = .ok (.getfield 28, 3) := by decide +kernel
theorem dX11_gorge_17 : decode cX11_gorge 17 = .ok (.aload_n 0, 1) := by decide +kernel
theorem dX11_gorge_18 : decode cX11_gorge 18 = .ok (.getfield 21, 3) := by decide +kernel
theorem dX11_gorge_21 : decode cX11_gorge 21 = .ok (.getfield 112, 3) := by decide +kernel
theorem dX11_gorge_24 : decode cX11_gorge 24 = .ok (.invokevirtual 115, 3) := by decide +kernel
theorem dX11_gorge_27 : decode cX11_gorge 27 = .ok (.aload_n 0, 1) := by decide +kernel
theorem dX11_gorge_28 : decode cX11_gorge 28 = .ok (.getfield 35, 3) := by decide +kernel
theorem dX11_gorge_31 : decode cX11_gorge 31 = .ok (.invokevirtual 118, 3) := by decide +kernel
theorem dX11_gorge_34 : decode cX11_gorge 34 = .ok (.aload_n 0, 1) := by decide +kernel
theorem dX11_gorge_35 : decode cX11_gorge 35 = .ok (.getfield 10, 3) := by decide +kernel
theorem dX11_gorge_38 : decode cX11_gorge 38 = .ok (.iconst 0, 1) := by decide +kernel
theorem dX11_gorge_39 : decode cX11_gorge 39 = .ok (.putfield 100, 3) := by decide +kernel
theorem dX11_gorge_42 : decode cX11_gorge 42 = .ok (.aload_n 0, 1) := by decide +kernel
theorem dX11_gorge_43 : decode cX11_gorge 43 = .ok (.getfield 28, 3) := by decide +kernel
theorem dX11_gorge_46 : decode cX11_gorge 46 = .ok (.getfield 121, 3) := by decide +kernel
theorem dX11_gorge_49 : decode cX11_gorge 49 = .ok (.ireturn, 1) := by decide +kernel
theorem dX11_grip_0 : decode cX11_grip 0 = .ok (.aload_n 0, 1) := by decide +kernel
theorem dX11_grip_1 : decode cX11_grip 1 = .ok (.getfield 28, 3) := by decide +kernel
theorem dX11_grip_4 : decode cX11_grip 4 = .ok (.iload_n 1, 1) := by decide +kernel
theorem dX11_grip_5 : decode cX11_grip 5 = .ok (.invokevirtual 130, 3) := by decide +kernel
theorem dX11_grip_8 : decode cX11_grip 8 = .ok (.ifCond .eq 13, 3) := by decide +kernel
theorem dX11_grip_21 : decode cX11_grip 21 = .ok (.bipush (-2), 2) := by decide +kernel
theorem dX11_grip_23 : decode cX11_grip 23 = .ok (.ireturn, 1) := by decide +kernel
theorem dX11_hold_0 : decode cX11_hold 0 = .ok (.aload_n 0, 1) := by decide +kernel
theorem dX11_hold_1 : decode cX11_hold 1 = .ok (.getfield 28, 3) := by decide +kernel
theorem dX11_hold_4 : decode cX11_hold 4 = .ok (.iload_n 1, 1) := by decide +kernel
theorem dX11_hold_5 : decode cX11_hold 5 = .ok (.iload_n 2, 1) := by decide +kernel
theorem dX11_hold_6 : decode cX11_hold 6 = .ok (.invokevirtual 199, 3) := by decide +kernel
theorem dX11_hold_9 : decode cX11_hold 9 = .ok (.ireturn, 1) := by decide +kernel
theorem dX11_image_0 : decode cX11_image 0 = .ok (.iload_n 1, 1) := by decide +kernel
theorem dX11_image_1 : decode cX11_image 1 = .ok (.iconst 0, 1) := by decide +kernel
theorem dX11_image_2 : decode cX11_image 2 = .ok (.iconst 2, 1) := by decide +kernel
theorem dX11_image_3 : decode cX11_image 3 = .ok (.invokestatic 104, 3) := by decide +kernel
theorem dX11_image_6 : decode cX11_image 6 = .ok (.ifCond .ne 6, 3) := by decide +kernel
theorem dX11_image_9 : decode cX11_image 9 = .ok (.bipush (-2), 2) := by decide +kernel
theorem dX11_image_11 : decode cX11_image 11 = .ok (.ireturn, 1) := by decide +kernel
theorem dX11_image_12 : decode cX11_image 12 = .ok (.aload_n 0, 1) := by decide +kernel
theorem dX11_image_13 : decode cX11_image 13 = .ok (.getfield 41, 3) := by decide +kernel
theorem dX11_image_16 : decode cX11_image 16 = .ok (.iload_n 1, 1) := by decide +kernel
theorem dX11_image_17 : decode cX11_image 17 = .ok (.aaload, 1) := by decide +kernel
theorem dX11_image_18 : decode cX11_image 18 = .ok (.iconst 1, 1) := by decide +kernel
theorem dX11_image_19 : decode cX11_image 19 = .ok (.putfield 389, 3) := by decide +kernel
theorem dX11_image_22 : decode cX11_image 22 = .ok (.aload_n 0, 1) := by decide +kernel
theorem dX11_image_23 : decode cX11_image 23 = .ok (.getfield 41, 3) := by decide +kernel
theorem dX11_image_26 : decode cX11_image 26 = .ok (.iload_n 1, 1) := by decide +kernel
theorem dX11_image_27 : decode cX11_image 27 = .ok (.aaload, 1) := by decide +kernel
theorem dX11_image_28 : decode cX11_image 28 = .ok (.getfield 393, 3) := by decide +kernel
theorem dX11_image_31 : decode cX11_image 31 = .ok (.aload_n 0, 1) := by decide +kernel
theorem dX11_image_32 : decode cX11_image 32 = .ok (.getfield 28, 3) := by decide +kernel
theorem dX11_image_35 : decode cX11_image 35 = .ok (.invokevirtual 115, 3) := by decide +kernel
theorem dX11_image_38 : decode cX11_image 38 = .ok (.aload_n 0, 1) := by decide +kernel
theorem dX11_image_39 : decode cX11_image 39 = .ok (.getfield 41, 3) := by decide +kernel
theorem dX11_image_42 : decode cX11_image 42 = .ok (.iload_n 1, 1) := by decide +kernel
theorem dX11_image_43 : decode cX11_image 43 = .ok (.aaload, 1) := by decide +kernel
theorem dX11_image_44 : decode cX11_image 44 = .ok (.getfield 394, 3) := by decide +kernel
theorem dX11_image_47 : decode cX11_image 47 = .ok (.aload_n 0, 1) := by decide +kernel
theorem dX11_image_48 : decode cX11_image 48 = .ok (.getfield 35, 3) := by decide +kernel
theorem dX11_image_51 : decode cX11_image 51 = .ok (.invokevirtual 395, 3) := by decide +kernel

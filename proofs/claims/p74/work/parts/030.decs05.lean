theorem dX11_onces_10 : decode cX11_onces 10 = .ok (.getfield 79, 3) := by decide +kernel
theorem dX11_onces_13 : decode cX11_onces 13 = .ok (.iload_n 1, 1) := by decide +kernel
theorem dX11_onces_14 : decode cX11_onces 14 = .ok (.invokevirtual 258, 3) := by decide +kernel
theorem dX11_onces_17 : decode cX11_onces 17 = .ok (.goto 5, 3) := by decide +kernel
theorem dX11_onces_20 : decode cX11_onces 20 = .ok (.bipush (-2), 2) := by decide +kernel
theorem dX11_onces_22 : decode cX11_onces 22 = .ok (.ireturn, 1) := by decide +kernel
theorem dX11_order_0 : decode cX11_order 0 = .ok (.aload_n 0, 1) := by decide +kernel
theorem dX11_order_1 : decode cX11_order 1 = .ok (.iload_n 1, 1) := by decide +kernel
theorem dX11_order_2 : decode cX11_order 2 = .ok (.iconst 1, 1) := by decide +kernel
theorem dX11_order_3 : decode cX11_order 3 = .ok (.invokevirtual 237, 3) := by decide +kernel
theorem dX11_order_6 : decode cX11_order 6 = .ok (.ifCond .eq 15, 3) := by decide +kernel
theorem dX11_order_9 : decode cX11_order 9 = .ok (.aload_n 0, 1) := by decide +kernel
theorem dX11_order_10 : decode cX11_order 10 = .ok (.getfield 72, 3) := by decide +kernel
theorem dX11_order_13 : decode cX11_order 13 = .ok (.iload_n 1, 1) := by decide +kernel
theorem dX11_order_14 : decode cX11_order 14 = .ok (.iload_n 2, 1) := by decide +kernel
theorem dX11_order_15 : decode cX11_order 15 = .ok (.invokevirtual 244, 3) := by decide +kernel
theorem dX11_order_18 : decode cX11_order 18 = .ok (.goto 5, 3) := by decide +kernel
theorem dX11_order_21 : decode cX11_order 21 = .ok (.bipush (-2), 2) := by decide +kernel
theorem dX11_order_23 : decode cX11_order 23 = .ok (.ireturn, 1) := by decide +kernel
theorem dX11_out_0 : decode cX11_out 0 = .ok (.aload_n 0, 1) := by decide +kernel
theorem dX11_out_1 : decode cX11_out 1 = .ok (.getfield 28, 3) := by decide +kernel
theorem dX11_out_4 : decode cX11_out 4 = .ok (.iload_n 1, 1) := by decide +kernel
theorem dX11_out_5 : decode cX11_out 5 = .ok (.invokevirtual 153, 3) := by decide +kernel
theorem dX11_out_8 : decode cX11_out 8 = .ok (.ifCond .eq 13, 3) := by decide +kernel
theorem dX11_out_11 : decode cX11_out 11 = .ok (.iload_n 2, 1) := by decide +kernel
theorem dX11_out_12 : decode cX11_out 12 = .ok (.iconst 0, 1) := by decide +kernel
theorem dX11_out_13 : decode cX11_out 13 = .ok (.ldc 159, 2) := by decide +kernel
theorem dX11_out_15 : decode cX11_out 15 = .ok (.invokestatic 104, 3) := by decide +kernel
theorem dX11_out_18 : decode cX11_out 18 = .ok (.ifCond .ne 6, 3) := by decide +kernel
theorem dX11_out_21 : decode cX11_out 21 = .ok (.bipush (-2), 2) := by decide +kernel
theorem dX11_out_23 : decode cX11_out 23 = .ok (.ireturn, 1) := by decide +kernel
theorem dX11_out_24 : decode cX11_out 24 = .ok (.iload_n 2, 1) := by decide +kernel
theorem dX11_out_25 : decode cX11_out 25 = .ok (.aload_n 0, 1) := by decide +kernel
theorem dX11_out_26 : decode cX11_out 26 = .ok (.getfield 35, 3) := by decide +kernel
theorem dX11_out_29 : decode cX11_out 29 = .ok (.iload_n 1, 1) := by decide +kernel
theorem dX11_out_30 : decode cX11_out 30 = .ok (.invokevirtual 156, 3) := by decide +kernel
theorem dX11_out_33 : decode cX11_out 33 = .ok (.isub, 1) := by decide +kernel
theorem dX11_out_34 : decode cX11_out 34 = .ok (.aload_n 0, 1) := by decide +kernel
theorem dX11_out_35 : decode cX11_out 35 = .ok (.getfield 28, 3) := by decide +kernel
theorem dX11_out_38 : decode cX11_out 38 = .ok (.iload_n 1, 1) := by decide +kernel
theorem dX11_out_39 : decode cX11_out 39 = .ok (.invokevirtual 160, 3) := by decide +kernel
theorem dX11_out_42 : decode cX11_out 42 = .ok (.invokestatic 163, 3) := by decide +kernel
theorem dX11_out_45 : decode cX11_out 45 = .ok (.ifCond .ne 7, 3) := by decide +kernel
theorem dX11_out_48 : decode cX11_out 48 = .ok (.iconst 1, 1) := by decide +kernel
theorem dX11_out_49 : decode cX11_out 49 = .ok (.goto 4, 3) := by decide +kernel
theorem dX11_out_52 : decode cX11_out 52 = .ok (.iconst 0, 1) := by decide +kernel
theorem dX11_out_53 : decode cX11_out 53 = .ok (.ireturn, 1) := by decide +kernel
theorem dX11_pair_0 : decode cX11_pair 0 = .ok (.aload_n 0, 1) := by decide +kernel
theorem dX11_pair_1 : decode cX11_pair 1 = .ok (.getfield 28, 3) := by decide +kernel
theorem dX11_pair_4 : decode cX11_pair 4 = .ok (.invokevirtual 166, 3) := by decide +kernel
theorem dX11_pair_7 : decode cX11_pair 7 = .ok (.ifCond .ne 6, 3) := by decide +kernel
theorem dX11_pair_10 : decode cX11_pair 10 = .ok (.bipush (-2), 2) := by decide +kernel
theorem dX11_pair_12 : decode cX11_pair 12 = .ok (.ireturn, 1) := by decide +kernel
theorem dX11_pair_13 : decode cX11_pair 13 = .ok (.iconst (-1), 1) := by decide +kernel
theorem dX11_pair_14 : decode cX11_pair 14 = .ok (.istore_n 1, 1) := by decide +kernel
theorem dX11_pair_15 : decode cX11_pair 15 = .ok (.iconst 0, 1) := by decide +kernel
theorem dX11_pair_16 : decode cX11_pair 16 = .ok (.istore_n 2, 1) := by decide +kernel
theorem dX11_pair_17 : decode cX11_pair 17 = .ok (.iconst 0, 1) := by decide +kernel
theorem dX11_pair_18 : decode cX11_pair 18 = .ok (.istore_n 3, 1) := by decide +kernel
theorem dX11_pair_19 : decode cX11_pair 19 = .ok (.iload_n 3, 1) := by decide +kernel
theorem dX11_pair_20 : decode cX11_pair 20 = .ok (.aload_n 0, 1) := by decide +kernel
theorem dX11_pair_21 : decode cX11_pair 21 = .ok (.getfield 28, 3) := by decide +kernel
theorem dX11_pair_24 : decode cX11_pair 24 = .ok (.getfield 202, 3) := by decide +kernel
theorem dX11_pair_27 : decode cX11_pair 27 = .ok (.if_icmp .ge 73, 3) := by decide +kernel
theorem dX11_pair_30 : decode cX11_pair 30 = .ok (.aload_n 0, 1) := by decide +kernel
theorem dX11_pair_31 : decode cX11_pair 31 = .ok (.getfield 28, 3) := by decide +kernel
theorem dX11_pair_34 : decode cX11_pair 34 = .ok (.iload_n 3, 1) := by decide +kernel
theorem dX11_pair_35 : decode cX11_pair 35 = .ok (.invokevirtual 133, 3) := by decide +kernel
theorem dX11_pair_38 : decode cX11_pair 38 = .ok (.ifCond .ne 14, 3) := by decide +kernel
theorem dX11_pair_41 : decode cX11_pair 41 = .ok (.aload_n 0, 1) := by decide +kernel
theorem dX11_pair_42 : decode cX11_pair 42 = .ok (.getfield 28, 3) := by decide +kernel
theorem dX11_pair_45 : decode cX11_pair 45 = .ok (.iload_n 3, 1) := by decide +kernel
theorem dX11_pair_46 : decode cX11_pair 46 = .ok (.invokevirtual 205, 3) := by decide +kernel
theorem dX11_pair_49 : decode cX11_pair 49 = .ok (.goto 4, 3) := by decide +kernel
theorem dX11_pair_52 : decode cX11_pair 52 = .ok (.iconst (-1), 1) := by decide +kernel
theorem dX11_pair_53 : decode cX11_pair 53 = .ok (.istore 4, 2) := by decide +kernel
theorem dX11_pair_55 : decode cX11_pair 55 = .ok (.iload 4, 2) := by decide +kernel
theorem dX11_pair_57 : decode cX11_pair 57 = .ok (.iconst (-1), 1) := by decide +kernel
theorem dX11_pair_58 : decode cX11_pair 58 = .ok (.if_icmp .eq 36, 3) := by decide +kernel
theorem dX11_pair_61 : decode cX11_pair 61 = .ok (.aload_n 0, 1) := by decide +kernel
theorem dX11_pair_62 : decode cX11_pair 62 = .ok (.getfield 28, 3) := by decide +kernel
theorem dX11_pair_65 : decode cX11_pair 65 = .ok (.iload_n 3, 1) := by decide +kernel
theorem dX11_pair_66 : decode cX11_pair 66 = .ok (.iload 4, 2) := by decide +kernel
theorem dX11_pair_68 : decode cX11_pair 68 = .ok (.invokevirtual 199, 3) := by decide +kernel
theorem dX11_pair_71 : decode cX11_pair 71 = .ok (.iload_n 2, 1) := by decide +kernel
theorem dX11_pair_72 : decode cX11_pair 72 = .ok (.if_icmp .le 22, 3) := by decide +kernel
theorem dX11_pair_75 : decode cX11_pair 75 = .ok (.aload_n 0, 1) := by decide +kernel
theorem dX11_pair_76 : decode cX11_pair 76 = .ok (.getfield 28, 3) := by decide +kernel
theorem dX11_pair_79 : decode cX11_pair 79 = .ok (.iload_n 3, 1) := by decide +kernel
theorem dX11_pair_80 : decode cX11_pair 80 = .ok (.iload 4, 2) := by decide +kernel
theorem dX11_pair_82 : decode cX11_pair 82 = .ok (.invokevirtual 199, 3) := by decide +kernel
theorem dX11_pair_85 : decode cX11_pair 85 = .ok (.istore_n 2, 1) := by decide +kernel
theorem dX11_pair_86 : decode cX11_pair 86 = .ok (.bipush 10, 2) := by decide +kernel
theorem dX11_pair_88 : decode cX11_pair 88 = .ok (.iload_n 3, 1) := by decide +kernel
theorem dX11_pair_89 : decode cX11_pair 89 = .ok (.imul, 1) := by decide +kernel
theorem dX11_pair_90 : decode cX11_pair 90 = .ok (.iload 4, 2) := by decide +kernel
theorem dX11_pair_92 : decode cX11_pair 92 = .ok (.iadd, 1) := by decide +kernel
theorem dX11_pair_93 : decode cX11_pair 93 = .ok (.istore_n 1, 1) := by decide +kernel
theorem dX11_pair_94 : decode cX11_pair 94 = .ok (.iinc 3 1, 3) := by decide +kernel
theorem dX11_pair_97 : decode cX11_pair 97 = .ok (.goto (-78), 3) := by decide +kernel
theorem dX11_pair_100 : decode cX11_pair 100 = .ok (.iload_n 1, 1) := by decide +kernel
theorem dX11_pair_101 : decode cX11_pair 101 = .ok (.ireturn, 1) := by decide +kernel
theorem dX11_partner_0 : decode cX11_partner 0 = .ok (.aload_n 0, 1) := by decide +kernel
theorem dX11_partner_1 : decode cX11_partner 1 = .ok (.getfield 28, 3) := by decide +kernel
theorem dX11_partner_4 : decode cX11_partner 4 = .ok (.iload_n 1, 1) := by decide +kernel
theorem dX11_partner_5 : decode cX11_partner 5 = .ok (.invokevirtual 130, 3) := by decide +kernel
theorem dX11_partner_8 : decode cX11_partner 8 = .ok (.ifCond .eq 14, 3) := by decide +kernel
theorem dX11_partner_11 : decode cX11_partner 11 = .ok (.aload_n 0, 1) := by decide +kernel
theorem dX11_partner_12 : decode cX11_partner 12 = .ok (.getfield 28, 3) := by decide +kernel
theorem dX11_partner_15 : decode cX11_partner 15 = .ok (.iload_n 1, 1) := by decide +kernel
theorem dX11_partner_16 : decode cX11_partner 16 = .ok (.invokevirtual 205, 3) := by decide +kernel
theorem dX11_partner_19 : decode cX11_partner 19 = .ok (.goto 5, 3) := by decide +kernel
theorem dX11_partner_22 : decode cX11_partner 22 = .ok (.bipush (-2), 2) := by decide +kernel
theorem dX11_partner_24 : decode cX11_partner 24 = .ok (.ireturn, 1) := by decide +kernel
theorem dX11_paste_0 : decode cX11_paste 0 = .ok (.aload_n 0, 1) := by decide +kernel
theorem dX11_paste_1 : decode cX11_paste 1 = .ok (.getfield 49, 3) := by decide +kernel
theorem dX11_paste_4 : decode cX11_paste 4 = .ok (.iload_n 1, 1) := by decide +kernel
theorem dX11_paste_5 : decode cX11_paste 5 = .ok (.invokevirtual 398, 3) := by decide +kernel
theorem dX11_paste_8 : decode cX11_paste 8 = .ok (.ifCond .eq 14, 3) := by decide +kernel
theorem dX11_paste_11 : decode cX11_paste 11 = .ok (.aload_n 0, 1) := by decide +kernel
theorem dX11_paste_12 : decode cX11_paste 12 = .ok (.getfield 49, 3) := by decide +kernel
theorem dX11_paste_15 : decode cX11_paste 15 = .ok (.iload_n 3, 1) := by decide +kernel
theorem dX11_paste_16 : decode cX11_paste 16 = .ok (.invokevirtual 398, 3) := by decide +kernel
theorem dX11_paste_19 : decode cX11_paste 19 = .ok (.ifCond .ne 6, 3) := by decide +kernel
theorem dX11_paste_22 : decode cX11_paste 22 = .ok (.bipush (-2), 2) := by decide +kernel
theorem dX11_paste_24 : decode cX11_paste 24 = .ok (.ireturn, 1) := by decide +kernel
theorem dX11_paste_25 : decode cX11_paste 25 = .ok (.aload_n 0, 1) := by decide +kernel
theorem dX11_paste_26 : decode cX11_paste 26 = .ok (.getfield 49, 3) := by decide +kernel
theorem dX11_paste_29 : decode cX11_paste 29 = .ok (.iload_n 1, 1) := by decide +kernel
theorem dX11_paste_30 : decode cX11_paste 30 = .ok (.invokevirtual 405, 3) := by decide +kernel
theorem dX11_paste_33 : decode cX11_paste 33 = .ok (.ifCond .ne 14, 3) := by decide +kernel
theorem dX11_paste_36 : decode cX11_paste 36 = .ok (.aload_n 0, 1) := by decide +kernel
theorem dX11_paste_37 : decode cX11_paste 37 = .ok (.getfield 49, 3) := by decide +kernel
theorem dX11_paste_40 : decode cX11_paste 40 = .ok (.iload_n 3, 1) := by decide +kernel
theorem dX11_paste_41 : decode cX11_paste 41 = .ok (.invokevirtual 405, 3) := by decide +kernel
theorem dX11_paste_44 : decode cX11_paste 44 = .ok (.ifCond .eq 6, 3) := by decide +kernel
theorem dX11_paste_47 : decode cX11_paste 47 = .ok (.bipush (-6), 2) := by decide +kernel
theorem dX11_paste_49 : decode cX11_paste 49 = .ok (.ireturn, 1) := by decide +kernel
theorem dX11_paste_50 : decode cX11_paste 50 = .ok (.aload_n 0, 1) := by decide +kernel
theorem dX11_paste_51 : decode cX11_paste 51 = .ok (.getfield 49, 3) := by decide +kernel
theorem dX11_paste_54 : decode cX11_paste 54 = .ok (.iload_n 1, 1) := by decide +kernel
theorem dX11_paste_55 : decode cX11_paste 55 = .ok (.invokevirtual 415, 3) := by decide +kernel
theorem dX11_paste_58 : decode cX11_paste 58 = .ok (.aload_n 0, 1) := by decide +kernel
theorem dX11_paste_59 : decode cX11_paste 59 = .ok (.getfield 49, 3) := by decide +kernel
theorem dX11_paste_62 : decode cX11_paste 62 = .ok (.iload_n 3, 1) := by decide +kernel
theorem dX11_paste_63 : decode cX11_paste 63 = .ok (.invokevirtual 415, 3) := by decide +kernel
theorem dX11_paste_66 : decode cX11_paste 66 = .ok (.if_icmp .eq 6, 3) := by decide +kernel
theorem dX11_paste_69 : decode cX11_paste 69 = .ok (.bipush (-8), 2) := by decide +kernel
theorem dX11_paste_71 : decode cX11_paste 71 = .ok (.ireturn, 1) := by decide +kernel
theorem dX11_paste_72 : decode cX11_paste 72 = .ok (.aload_n 0, 1) := by decide +kernel
theorem dX11_paste_73 : decode cX11_paste 73 = .ok (.getfield 49, 3) := by decide +kernel
theorem dX11_paste_76 : decode cX11_paste 76 = .ok (.iload_n 1, 1) := by decide +kernel
theorem dX11_paste_77 : decode cX11_paste 77 = .ok (.iload_n 2, 1) := by decide +kernel
theorem dX11_paste_78 : decode cX11_paste 78 = .ok (.iload 5, 2) := by decide +kernel
theorem dX11_paste_80 : decode cX11_paste 80 = .ok (.invokevirtual 408, 3) := by decide +kernel
theorem dX11_paste_83 : decode cX11_paste 83 = .ok (.ifCond .eq 18, 3) := by decide +kernel
theorem dX11_paste_86 : decode cX11_paste 86 = .ok (.aload_n 0, 1) := by decide +kernel
theorem dX11_paste_87 : decode cX11_paste 87 = .ok (.getfield 49, 3) := by decide +kernel
theorem dX11_paste_90 : decode cX11_paste 90 = .ok (.iload_n 3, 1) := by decide +kernel
theorem dX11_paste_91 : decode cX11_paste 91 = .ok (.iload 4, 2) := by decide +kernel
theorem dX11_paste_93 : decode cX11_paste 93 = .ok (.iload 5, 2) := by decide +kernel
theorem dX11_paste_95 : decode cX11_paste 95 = .ok (.invokevirtual 408, 3) := by decide +kernel
theorem dX11_paste_98 : decode cX11_paste 98 = .ok (.ifCond .ne 6, 3) := by decide +kernel
theorem dX11_paste_101 : decode cX11_paste 101 = .ok (.bipush (-7), 2) := by decide +kernel
theorem dX11_paste_103 : decode cX11_paste 103 = .ok (.ireturn, 1) := by decide +kernel
theorem dX11_paste_104 : decode cX11_paste 104 = .ok (.aload_n 0, 1) := by decide +kernel
theorem dX11_paste_105 : decode cX11_paste 105 = .ok (.getfield 49, 3) := by decide +kernel
theorem dX11_paste_108 : decode cX11_paste 108 = .ok (.iload_n 1, 1) := by decide +kernel
theorem dX11_paste_109 : decode cX11_paste 109 = .ok (.iload_n 2, 1) := by decide +kernel
theorem dX11_paste_110 : decode cX11_paste 110 = .ok (.iload_n 3, 1) := by decide +kernel
theorem dX11_paste_111 : decode cX11_paste 111 = .ok (.iload 4, 2) := by decide +kernel
theorem dX11_paste_113 : decode cX11_paste 113 = .ok (.iload 5, 2) := by decide +kernel
theorem dX11_paste_115 : decode cX11_paste 115 = .ok (.invokevirtual 418, 3) := by decide +kernel
theorem dX11_paste_118 : decode cX11_paste 118 = .ok (.iconst 0, 1) := by decide +kernel
theorem dX11_paste_119 : decode cX11_paste 119 = .ok (.ireturn, 1) := by decide +kernel
theorem dX11_powerOf_0 : decode cX11_powerOf 0 = .ok (.lconst 1, 1) := by decide +kernel
theorem dX11_powerOf_1 : decode cX11_powerOf 1 = .ok (.lstore_n 3, 1) := by decide +kernel
theorem dX11_powerOf_2 : decode cX11_powerOf 2 = .ok (.iconst 0, 1) := by decide +kernel
theorem dX11_powerOf_3 : decode cX11_powerOf 3 = .ok (.istore 5, 2) := by decide +kernel
theorem dX11_powerOf_5 : decode cX11_powerOf 5 = .ok (.iload 5, 2) := by decide +kernel
theorem dX11_powerOf_7 : decode cX11_powerOf 7 = .ok (.iload_n 2, 1) := by decide +kernel
theorem dX11_powerOf_8 : decode cX11_powerOf 8 = .ok (.if_icmp .ge 13, 3) := by decide +kernel
theorem dX11_powerOf_11 : decode cX11_powerOf 11 = .ok (.lload_n 3, 1) := by decide +kernel
theorem dX11_powerOf_12 : decode cX11_powerOf 12 = .ok (.lload_n 0, 1) := by decide +kernel
theorem dX11_powerOf_13 : decode cX11_powerOf 13 = .ok (.lmul, 1) := by decide +kernel
theorem dX11_powerOf_14 : decode cX11_powerOf 14 = .ok (.lstore_n 3, 1) := by decide +kernel
theorem dX11_powerOf_15 : decode cX11_powerOf 15 = .ok (.iinc 5 1, 3) := by decide +kernel
theorem dX11_powerOf_18 : decode cX11_powerOf 18 = .ok (.goto (-13), 3) := by decide +kernel
theorem dX11_powerOf_21 : decode cX11_powerOf 21 = .ok (.lload_n 3, 1) := by decide +kernel
theorem dX11_powerOf_22 : decode cX11_powerOf 22 = .ok (.lreturn, 1) := by decide +kernel
theorem dX11_push_0 : decode cX11_push 0 = .ok (.aload_n 0, 1) := by decide +kernel
theorem dX11_push_1 : decode cX11_push 1 = .ok (.getfield 28, 3) := by decide +kernel
theorem dX11_push_4 : decode cX11_push 4 = .ok (.iload_n 1, 1) := by decide +kernel
theorem dX11_push_5 : decode cX11_push 5 = .ok (.invokevirtual 153, 3) := by decide +kernel
theorem dX11_push_8 : decode cX11_push 8 = .ok (.ifCond .eq 13, 3) := by decide +kernel
theorem dX11_push_11 : decode cX11_push 11 = .ok (.iload_n 2, 1) := by decide +kernel
theorem dX11_push_12 : decode cX11_push 12 = .ok (.iconst 0, 1) := by decide +kernel
theorem dX11_push_13 : decode cX11_push 13 = .ok (.bipush 19, 2) := by decide +kernel
theorem dX11_push_15 : decode cX11_push 15 = .ok (.invokestatic 104, 3) := by decide +kernel
theorem dX11_push_18 : decode cX11_push 18 = .ok (.ifCond .ne 6, 3) := by decide +kernel
theorem dX11_push_21 : decode cX11_push 21 = .ok (.bipush (-2), 2) := by decide +kernel
theorem dX11_push_23 : decode cX11_push 23 = .ok (.ireturn, 1) := by decide +kernel
theorem dX11_push_24 : decode cX11_push 24 = .ok (.aload_n 0, 1) := by decide +kernel
theorem dX11_push_25 : decode cX11_push 25 = .ok (.getfield 35, 3) := by decide +kernel
theorem dX11_push_28 : decode cX11_push 28 = .ok (.invokevirtual 338, 3) := by decide +kernel
theorem dX11_push_31 : decode cX11_push 31 = .ok (.ifCond .ne 13, 3) := by decide +kernel
theorem dX11_push_34 : decode cX11_push 34 = .ok (.aload_n 0, 1) := by decide +kernel
theorem dX11_push_35 : decode cX11_push 35 = .ok (.getfield 35, 3) := by decide +kernel
theorem dX11_push_38 : decode cX11_push 38 = .ok (.invokevirtual 341, 3) := by decide +kernel
theorem dX11_push_41 : decode cX11_push 41 = .ok (.ifCond .eq 6, 3) := by decide +kernel
theorem dX11_push_44 : decode cX11_push 44 = .ok (.bipush (-5), 2) := by decide +kernel
theorem dX11_push_46 : decode cX11_push 46 = .ok (.ireturn, 1) := by decide +kernel
theorem dX11_push_47 : decode cX11_push 47 = .ok (.aload_n 0, 1) := by decide +kernel
theorem dX11_push_48 : decode cX11_push 48 = .ok (.getfield 35, 3) := by decide +kernel
theorem dX11_push_51 : decode cX11_push 51 = .ok (.iload_n 1, 1) := by decide +kernel
theorem dX11_push_52 : decode cX11_push 52 = .ok (.aload_n 0, 1) := by decide +kernel
theorem dX11_push_53 : decode cX11_push 53 = .ok (.getfield 35, 3) := by decide +kernel
theorem dX11_push_56 : decode cX11_push 56 = .ok (.iload_n 1, 1) := by decide +kernel
theorem dX11_push_57 : decode cX11_push 57 = .ok (.invokevirtual 156, 3) := by decide +kernel
theorem dX11_push_60 : decode cX11_push 60 = .ok (.iload_n 2, 1) := by decide +kernel
theorem dX11_push_61 : decode cX11_push 61 = .ok (.iadd, 1) := by decide +kernel
theorem dX11_push_62 : decode cX11_push 62 = .ok (.aload_n 0, 1) := by decide +kernel
theorem dX11_push_63 : decode cX11_push 63 = .ok (.getfield 28, 3) := by decide +kernel
theorem dX11_push_66 : decode cX11_push 66 = .ok (.iload_n 1, 1) := by decide +kernel
theorem dX11_push_67 : decode cX11_push 67 = .ok (.invokevirtual 160, 3) := by decide +kernel
theorem dX11_push_70 : decode cX11_push 70 = .ok (.invokestatic 163, 3) := by decide +kernel
theorem dX11_push_73 : decode cX11_push 73 = .ok (.invokevirtual 344, 3) := by decide +kernel
theorem dX11_push_76 : decode cX11_push 76 = .ok (.aload_n 0, 1) := by decide +kernel
theorem dX11_push_77 : decode cX11_push 77 = .ok (.getfield 35, 3) := by decide +kernel
theorem dX11_push_80 : decode cX11_push 80 = .ok (.iload_n 1, 1) := by decide +kernel
theorem dX11_push_81 : decode cX11_push 81 = .ok (.invokevirtual 156, 3) := by decide +kernel
theorem dX11_push_84 : decode cX11_push 84 = .ok (.ireturn, 1) := by decide +kernel
theorem dX11_pushes_0 : decode cX11_pushes 0 = .ok (.aload_n 0, 1) := by decide +kernel
theorem dX11_pushes_1 : decode cX11_pushes 1 = .ok (.getfield 28, 3) := by decide +kernel
theorem dX11_pushes_4 : decode cX11_pushes 4 = .ok (.invokevirtual 166, 3) := by decide +kernel
theorem dX11_pushes_7 : decode cX11_pushes 7 = .ok (.ifCond .eq 14, 3) := by decide +kernel
theorem dX11_pushes_10 : decode cX11_pushes 10 = .ok (.iload_n 1, 1) := by decide +kernel
theorem dX11_pushes_11 : decode cX11_pushes 11 = .ok (.iconst 0, 1) := by decide +kernel
theorem dX11_pushes_12 : decode cX11_pushes 12 = .ok (.sipush 10000, 3) := by decide +kernel
theorem dX11_pushes_15 : decode cX11_pushes 15 = .ok (.invokestatic 104, 3) := by decide +kernel
theorem dX11_pushes_18 : decode cX11_pushes 18 = .ok (.ifCond .ne 6, 3) := by decide +kernel
theorem dX11_pushes_21 : decode cX11_pushes 21 = .ok (.bipush (-2), 2) := by decide +kernel
theorem dX11_pushes_23 : decode cX11_pushes 23 = .ok (.ireturn, 1) := by decide +kernel
theorem dX11_pushes_24 : decode cX11_pushes 24 = .ok (.iload_n 1, 1) := by decide +kernel
theorem dX11_pushes_25 : decode cX11_pushes 25 = .ok (.aload_n 0, 1) := by decide +kernel
theorem dX11_pushes_26 : decode cX11_pushes 26 = .ok (.getfield 35, 3) := by decide +kernel
theorem dX11_pushes_29 : decode cX11_pushes 29 = .ok (.iconst 1, 1) := by decide +kernel
theorem dX11_pushes_30 : decode cX11_pushes 30 = .ok (.invokevirtual 156, 3) := by decide +kernel
theorem dX11_pushes_33 : decode cX11_pushes 33 = .ok (.isub, 1) := by decide +kernel
theorem dX11_pushes_34 : decode cX11_pushes 34 = .ok (.aload_n 0, 1) := by decide +kernel
theorem dX11_pushes_35 : decode cX11_pushes 35 = .ok (.getfield 28, 3) := by decide +kernel
theorem dX11_pushes_38 : decode cX11_pushes 38 = .ok (.iconst 1, 1) := by decide +kernel
theorem dX11_pushes_39 : decode cX11_pushes 39 = .ok (.invokevirtual 160, 3) := by decide +kernel
theorem dX11_pushes_42 : decode cX11_pushes 42 = .ok (.invokestatic 163, 3) := by decide +kernel
theorem dX11_pushes_45 : decode cX11_pushes 45 = .ok (.ifCond .ne 7, 3) := by decide +kernel
theorem dX11_pushes_48 : decode cX11_pushes 48 = .ok (.iconst 1, 1) := by decide +kernel
theorem dX11_pushes_49 : decode cX11_pushes 49 = .ok (.goto 4, 3) := by decide +kernel
theorem dX11_pushes_52 : decode cX11_pushes 52 = .ok (.iconst 0, 1) := by decide +kernel
theorem dX11_pushes_53 : decode cX11_pushes 53 = .ok (.istore_n 2, 1) := by decide +kernel
theorem dX11_pushes_54 : decode cX11_pushes 54 = .ok (.iload_n 2, 1) := by decide +kernel
theorem dX11_pushes_55 : decode cX11_pushes 55 = .ok (.ifCond .eq 14, 3) := by decide +kernel
theorem dX11_pushes_58 : decode cX11_pushes 58 = .ok (.aload_n 0, 1) := by decide +kernel
theorem dX11_pushes_59 : decode cX11_pushes 59 = .ok (.getfield 28, 3) := by decide +kernel
theorem dX11_pushes_62 : decode cX11_pushes 62 = .ok (.iload_n 1, 1) := by decide +kernel
theorem dX11_pushes_63 : decode cX11_pushes 63 = .ok (.invokevirtual 196, 3) := by decide +kernel
theorem dX11_pushes_66 : decode cX11_pushes 66 = .ok (.ifCond .eq 5, 3) := by decide +kernel
theorem dX11_pushes_69 : decode cX11_pushes 69 = .ok (.iconst (-1), 1) := by decide +kernel
theorem dX11_pushes_70 : decode cX11_pushes 70 = .ok (.ireturn, 1) := by decide +kernel
theorem dX11_pushes_71 : decode cX11_pushes 71 = .ok (.iload_n 1, 1) := by decide +kernel
theorem dX11_pushes_72 : decode cX11_pushes 72 = .ok (.aload_n 0, 1) := by decide +kernel
theorem dX11_pushes_73 : decode cX11_pushes 73 = .ok (.getfield 35, 3) := by decide +kernel
theorem dX11_pushes_76 : decode cX11_pushes 76 = .ok (.iconst 0, 1) := by decide +kernel
theorem dX11_pushes_77 : decode cX11_pushes 77 = .ok (.invokevirtual 156, 3) := by decide +kernel
theorem dX11_pushes_80 : decode cX11_pushes 80 = .ok (.isub, 1) := by decide +kernel
theorem dX11_pushes_81 : decode cX11_pushes 81 = .ok (.aload_n 0, 1) := by decide +kernel
theorem dX11_pushes_82 : decode cX11_pushes 82 = .ok (.getfield 28, 3) := by decide +kernel
theorem dX11_pushes_85 : decode cX11_pushes 85 = .ok (.iconst 0, 1) := by decide +kernel
theorem dX11_pushes_86 : decode cX11_pushes 86 = .ok (.invokevirtual 160, 3) := by decide +kernel
theorem dX11_pushes_89 : decode cX11_pushes 89 = .ok (.invokestatic 163, 3) := by decide +kernel
theorem dX11_pushes_92 : decode cX11_pushes 92 = .ok (.ireturn, 1) := by decide +kernel
theorem dX11_resin_0 : decode cX11_resin 0 = .ok (.iload_n 3, 1) := by decide +kernel
theorem dX11_resin_1 : decode cX11_resin 1 = .ok (.iconst 0, 1) := by decide +kernel
theorem dX11_resin_2 : decode cX11_resin 2 = .ok (.aload_n 0, 1) := by decide +kernel
theorem dX11_resin_3 : decode cX11_resin 3 = .ok (.getfield 28, 3) := by decide +kernel
theorem dX11_resin_6 : decode cX11_resin 6 = .ok (.getfield 220, 3) := by decide +kernel
theorem dX11_resin_9 : decode cX11_resin 9 = .ok (.invokestatic 104, 3) := by decide +kernel
theorem dX11_resin_12 : decode cX11_resin 12 = .ok (.ifCond .ne 6, 3) := by decide +kernel
theorem dX11_resin_15 : decode cX11_resin 15 = .ok (.bipush (-2), 2) := by decide +kernel
theorem dX11_resin_17 : decode cX11_resin 17 = .ok (.ireturn, 1) := by decide +kernel
theorem dX11_resin_18 : decode cX11_resin 18 = .ok (.aload_n 0, 1) := by decide +kernel
theorem dX11_resin_19 : decode cX11_resin 19 = .ok (.getfield 28, 3) := by decide +kernel
theorem dX11_resin_22 : decode cX11_resin 22 = .ok (.iload_n 1, 1) := by decide +kernel
theorem dX11_resin_23 : decode cX11_resin 23 = .ok (.iload_n 2, 1) := by decide +kernel
theorem dX11_resin_24 : decode cX11_resin 24 = .ok (.invokevirtual 199, 3) := by decide +kernel
theorem dX11_resin_27 : decode cX11_resin 27 = .ok (.istore 4, 2) := by decide +kernel
theorem dX11_resin_29 : decode cX11_resin 29 = .ok (.iload 4, 2) := by decide +kernel
theorem dX11_resin_31 : decode cX11_resin 31 = .ok (.ifCond .ge 8, 3) := by decide +kernel
theorem dX11_resin_34 : decode cX11_resin 34 = .ok (.iload 4, 2) := by decide +kernel
theorem dX11_resin_36 : decode cX11_resin 36 = .ok (.goto 13, 3) := by decide +kernel
theorem dX11_resin_39 : decode cX11_resin 39 = .ok (.aload_n 0, 1) := by decide +kernel
theorem dX11_resin_40 : decode cX11_resin 40 = .ok (.getfield 28, 3) := by decide +kernel
theorem dX11_resin_43 : decode cX11_resin 43 = .ok (.iload_n 1, 1) := by decide +kernel
theorem dX11_resin_44 : decode cX11_resin 44 = .ok (.iload_n 2, 1) := by decide +kernel
theorem dX11_resin_45 : decode cX11_resin 45 = .ok (.iload_n 3, 1) := by decide +kernel
theorem dX11_resin_46 : decode cX11_resin 46 = .ok (.invokevirtual 223, 3) := by decide +kernel
theorem dX11_resin_49 : decode cX11_resin 49 = .ok (.ireturn, 1) := by decide +kernel
theorem dX11_restOf_0 : decode cX11_restOf 0 = .ok (.iload_n 1, 1) := by decide +kernel
theorem dX11_restOf_1 : decode cX11_restOf 1 = .ok (.ifCond .le 11, 3) := by decide +kernel
theorem dX11_restOf_4 : decode cX11_restOf 4 = .ok (.iload_n 0, 1) := by decide +kernel
theorem dX11_restOf_5 : decode cX11_restOf 5 = .ok (.iload_n 1, 1) := by decide +kernel
theorem dX11_restOf_6 : decode cX11_restOf 6 = .ok (.invokestatic 422, 3) := by decide +kernel
theorem dX11_restOf_9 : decode cX11_restOf 9 = .ok (.goto 4, 3) := by decide +kernel
theorem dX11_restOf_12 : decode cX11_restOf 12 = .ok (.iconst 0, 1) := by decide +kernel
theorem dX11_restOf_13 : decode cX11_restOf 13 = .ok (.ireturn, 1) := by decide +kernel
theorem dX11_rests_0 : decode cX11_rests 0 = .ok (.aload_n 0, 1) := by decide +kernel
theorem dX11_rests_1 : decode cX11_rests 1 = .ok (.getfield 28, 3) := by decide +kernel
theorem dX11_rests_4 : decode cX11_rests 4 = .ok (.iload_n 1, 1) := by decide +kernel
theorem dX11_rests_5 : decode cX11_rests 5 = .ok (.invokevirtual 143, 3) := by decide +kernel
theorem dX11_rests_8 : decode cX11_rests 8 = .ok (.ifCond .eq 13, 3) := by decide +kernel
theorem dX11_rests_11 : decode cX11_rests 11 = .ok (.iload_n 2, 1) := by decide +kernel
theorem dX11_rests_12 : decode cX11_rests 12 = .ok (.iconst 0, 1) := by decide +kernel
theorem dX11_rests_13 : decode cX11_rests 13 = .ok (.bipush 99, 2) := by decide +kernel
theorem dX11_rests_15 : decode cX11_rests 15 = .ok (.invokestatic 104, 3) := by decide +kernel
theorem dX11_rests_18 : decode cX11_rests 18 = .ok (.ifCond .ne 6, 3) := by decide +kernel
theorem dX11_rests_21 : decode cX11_rests 21 = .ok (.bipush (-2), 2) := by decide +kernel
theorem dX11_rests_23 : decode cX11_rests 23 = .ok (.ireturn, 1) := by decide +kernel
theorem dX11_rests_24 : decode cX11_rests 24 = .ok (.iconst 1, 1) := by decide +kernel
theorem dX11_rests_25 : decode cX11_rests 25 = .ok (.istore_n 3, 1) := by decide +kernel
theorem dX11_rests_26 : decode cX11_rests 26 = .ok (.aload_n 0, 1) := by decide +kernel
theorem dX11_rests_27 : decode cX11_rests 27 = .ok (.iload_n 1, 1) := by decide +kernel
theorem dX11_rests_28 : decode cX11_rests 28 = .ok (.invokevirtual 297, 3) := by decide +kernel
theorem dX11_rests_31 : decode cX11_rests 31 = .ok (.ifCond .eq 6, 3) := by decide +kernel
theorem dX11_rests_34 : decode cX11_rests 34 = .ok (.iinc 3 1, 3) := by decide +kernel
theorem dX11_rests_37 : decode cX11_rests 37 = .ok (.iload_n 2, 1) := by decide +kernel
theorem dX11_rests_38 : decode cX11_rests 38 = .ok (.ifCond .ne 18, 3) := by decide +kernel
theorem dX11_rests_41 : decode cX11_rests 41 = .ok (.aload_n 0, 1) := by decide +kernel
theorem dX11_rests_42 : decode cX11_rests 42 = .ok (.getfield 28, 3) := by decide +kernel
theorem dX11_rests_45 : decode cX11_rests 45 = .ok (.iload_n 1, 1) := by decide +kernel
theorem dX11_rests_46 : decode cX11_rests 46 = .ok (.iconst 1, 1) := by decide +kernel
theorem dX11_rests_47 : decode cX11_rests 47 = .ok (.invokevirtual 149, 3) := by decide +kernel
theorem dX11_rests_50 : decode cX11_rests 50 = .ok (.ifCond .gt 6, 3) := by decide +kernel
theorem dX11_rests_53 : decode cX11_rests 53 = .ok (.iinc 3 1, 3) := by decide +kernel
theorem dX11_rests_56 : decode cX11_rests 56 = .ok (.iload_n 2, 1) := by decide +kernel
theorem dX11_rests_57 : decode cX11_rests 57 = .ok (.ifCond .ne 18, 3) := by decide +kernel
theorem dX11_rests_60 : decode cX11_rests 60 = .ok (.aload_n 0, 1) := by decide +kernel
theorem dX11_rests_61 : decode cX11_rests 61 = .ok (.getfield 28, 3) := by decide +kernel
theorem dX11_rests_64 : decode cX11_rests 64 = .ok (.iload_n 1, 1) := by decide +kernel
theorem dX11_rests_65 : decode cX11_rests 65 = .ok (.iconst 0, 1) := by decide +kernel
theorem dX11_rests_66 : decode cX11_rests 66 = .ok (.invokevirtual 149, 3) := by decide +kernel
theorem dX11_rests_69 : decode cX11_rests 69 = .ok (.ifCond .gt 6, 3) := by decide +kernel
theorem dX11_rests_72 : decode cX11_rests 72 = .ok (.iinc 3 1, 3) := by decide +kernel
theorem dX11_rests_75 : decode cX11_rests 75 = .ok (.iload_n 3, 1) := by decide +kernel
theorem dX11_rests_76 : decode cX11_rests 76 = .ok (.ireturn, 1) := by decide +kernel
theorem dX11_row_0 : decode cX11_row 0 = .ok (.aload_n 0, 1) := by decide +kernel
theorem dX11_row_1 : decode cX11_row 1 = .ok (.getfield 49, 3) := by decide +kernel
theorem dX11_row_4 : decode cX11_row 4 = .ok (.iload_n 1, 1) := by decide +kernel
theorem dX11_row_5 : decode cX11_row 5 = .ok (.invokevirtual 398, 3) := by decide +kernel
theorem dX11_row_8 : decode cX11_row 8 = .ok (.ifCond .eq 18, 3) := by decide +kernel
theorem dX11_row_11 : decode cX11_row 11 = .ok (.iload_n 2, 1) := by decide +kernel
theorem dX11_row_12 : decode cX11_row 12 = .ok (.iconst 0, 1) := by decide +kernel
theorem dX11_row_13 : decode cX11_row 13 = .ok (.iconst 3, 1) := by decide +kernel
theorem dX11_row_14 : decode cX11_row 14 = .ok (.invokestatic 104, 3) := by decide +kernel
theorem dX11_row_17 : decode cX11_row 17 = .ok (.ifCond .eq 9, 3) := by decide +kernel
theorem dX11_row_20 : decode cX11_row 20 = .ok (.iload_n 3, 1) := by decide +kernel
theorem dX11_row_21 : decode cX11_row 21 = .ok (.bipush 60, 2) := by decide +kernel
theorem dX11_row_23 : decode cX11_row 23 = .ok (.if_icmp .le 6, 3) := by decide +kernel
theorem dX11_row_26 : decode cX11_row 26 = .ok (.bipush (-2), 2) := by decide +kernel
theorem dX11_row_28 : decode cX11_row 28 = .ok (.ireturn, 1) := by decide +kernel
theorem dX11_row_29 : decode cX11_row 29 = .ok (.iload_n 3, 1) := by decide +kernel
theorem dX11_row_30 : decode cX11_row 30 = .ok (.ifCond .ge 6, 3) := by decide +kernel
theorem dX11_row_33 : decode cX11_row 33 = .ok (.bipush (-3), 2) := by decide +kernel
theorem dX11_row_35 : decode cX11_row 35 = .ok (.ireturn, 1) := by decide +kernel
theorem dX11_row_36 : decode cX11_row 36 = .ok (.aload_n 0, 1) := by decide +kernel
theorem dX11_row_37 : decode cX11_row 37 = .ok (.getfield 49, 3) := by decide +kernel
theorem dX11_row_40 : decode cX11_row 40 = .ok (.iload_n 1, 1) := by decide +kernel
theorem dX11_row_41 : decode cX11_row 41 = .ok (.iload_n 2, 1) := by decide +kernel
theorem dX11_row_42 : decode cX11_row 42 = .ok (.iload_n 3, 1) := by decide +kernel
theorem dX11_row_43 : decode cX11_row 43 = .ok (.invokevirtual 401, 3) := by decide +kernel
theorem dX11_row_46 : decode cX11_row 46 = .ok (.iconst 0, 1) := by decide +kernel
theorem dX11_row_47 : decode cX11_row 47 = .ok (.ireturn, 1) := by decide +kernel
theorem dX11_saidRefusal_0 : decode cX11_saidRefusal 0 = .ok (.aload_n 0, 1) := by decide +kernel
theorem dX11_saidRefusal_1 : decode cX11_saidRefusal 1 = .ok (.iload_n 2, 1) := by decide +kernel
theorem dX11_saidRefusal_2 : decode cX11_saidRefusal 2 = .ok (.iconst 1, 1) := by decide +kernel
theorem dX11_saidRefusal_3 : decode cX11_saidRefusal 3 = .ok (.invokevirtual 237, 3) := by decide +kernel
theorem dX11_saidRefusal_6 : decode cX11_saidRefusal 6 = .ok (.ifCond .eq 14, 3) := by decide +kernel
theorem dX11_saidRefusal_9 : decode cX11_saidRefusal 9 = .ok (.aload_n 0, 1) := by decide +kernel
theorem dX11_saidRefusal_10 : decode cX11_saidRefusal 10 = .ok (.getfield 49, 3) := by decide +kernel
theorem dX11_saidRefusal_13 : decode cX11_saidRefusal 13 = .ok (.iload_n 1, 1) := by decide +kernel
theorem dX11_saidRefusal_14 : decode cX11_saidRefusal 14 = .ok (.invokevirtual 398, 3) := by decide +kernel
theorem dX11_saidRefusal_17 : decode cX11_saidRefusal 17 = .ok (.ifCond .ne 6, 3) := by decide +kernel
theorem dX11_saidRefusal_20 : decode cX11_saidRefusal 20 = .ok (.bipush (-2), 2) := by decide +kernel
theorem dX11_saidRefusal_22 : decode cX11_saidRefusal 22 = .ok (.ireturn, 1) := by decide +kernel
theorem dX11_saidRefusal_23 : decode cX11_saidRefusal 23 = .ok (.aload_n 0, 1) := by decide +kernel
theorem dX11_saidRefusal_24 : decode cX11_saidRefusal 24 = .ok (.getfield 49, 3) := by decide +kernel
theorem dX11_saidRefusal_27 : decode cX11_saidRefusal 27 = .ok (.iload_n 1, 1) := by decide +kernel
theorem dX11_saidRefusal_28 : decode cX11_saidRefusal 28 = .ok (.invokevirtual 405, 3) := by decide +kernel
theorem dX11_saidRefusal_31 : decode cX11_saidRefusal 31 = .ok (.ifCond .eq 6, 3) := by decide +kernel
theorem dX11_saidRefusal_34 : decode cX11_saidRefusal 34 = .ok (.bipush (-6), 2) := by decide +kernel
theorem dX11_saidRefusal_36 : decode cX11_saidRefusal 36 = .ok (.ireturn, 1) := by decide +kernel
theorem dX11_saidRefusal_37 : decode cX11_saidRefusal 37 = .ok (.aload_n 0, 1) := by decide +kernel
theorem dX11_saidRefusal_38 : decode cX11_saidRefusal 38 = .ok (.getfield 72, 3) := by decide +kernel
theorem dX11_saidRefusal_41 : decode cX11_saidRefusal 41 = .ok (.aload_n 0, 1) := by decide +kernel
theorem dX11_saidRefusal_42 : decode cX11_saidRefusal 42 = .ok (.getfield 49, 3) := by decide +kernel
theorem dX11_saidRefusal_45 : decode cX11_saidRefusal 45 = .ok (.iload_n 1, 1) := by decide +kernel
theorem dX11_saidRefusal_46 : decode cX11_saidRefusal 46 = .ok (.invokevirtual 425, 3) := by decide +kernel
theorem dX11_saidRefusal_49 : decode cX11_saidRefusal 49 = .ok (.ifCond .eq 7, 3) := by decide +kernel
theorem dX11_saidRefusal_52 : decode cX11_saidRefusal 52 = .ok (.iconst 0, 1) := by decide +kernel
theorem dX11_saidRefusal_53 : decode cX11_saidRefusal 53 = .ok (.goto 5, 3) := by decide +kernel
theorem dX11_saidRefusal_56 : decode cX11_saidRefusal 56 = .ok (.bipush (-2), 2) := by decide +kernel
theorem dX11_saidRefusal_58 : decode cX11_saidRefusal 58 = .ok (.ireturn, 1) := by decide +kernel
theorem dX11_sharedDivisor_0 : decode cX11_sharedDivisor 0 = .ok (.iconst 0, 1) := by decide +kernel
theorem dX11_sharedDivisor_1 : decode cX11_sharedDivisor 1 = .ok (.istore 4, 2) := by decide +kernel
theorem dX11_sharedDivisor_3 : decode cX11_sharedDivisor 3 = .ok (.iload 4, 2) := by decide +kernel
theorem dX11_sharedDivisor_5 : decode cX11_sharedDivisor 5 = .ok (.sipush 200, 3) := by decide +kernel
theorem dX11_sharedDivisor_8 : decode cX11_sharedDivisor 8 = .ok (.if_icmp .ge 25, 3) := by decide +kernel
theorem dX11_sharedDivisor_11 : decode cX11_sharedDivisor 11 = .ok (.lload_n 2, 1) := by decide +kernel
theorem dX11_sharedDivisor_12 : decode cX11_sharedDivisor 12 = .ok (.lconst 0, 1) := by decide +kernel
theorem dX11_sharedDivisor_13 : decode cX11_sharedDivisor 13 = .ok (.lcmp, 1) := by decide +kernel
theorem dX11_sharedDivisor_14 : decode cX11_sharedDivisor 14 = .ok (.ifCond .eq 19, 3) := by decide +kernel
theorem dX11_sharedDivisor_17 : decode cX11_sharedDivisor 17 = .ok (.lload_n 0, 1) := by decide +kernel
theorem dX11_sharedDivisor_18 : decode cX11_sharedDivisor 18 = .ok (.lload_n 2, 1) := by decide +kernel
theorem dX11_sharedDivisor_19 : decode cX11_sharedDivisor 19 = .ok (.lrem, 1) := by decide +kernel
theorem dX11_sharedDivisor_20 : decode cX11_sharedDivisor 20 = .ok (.lstore 5, 2) := by decide +kernel
theorem dX11_sharedDivisor_22 : decode cX11_sharedDivisor 22 = .ok (.lload_n 2, 1) := by decide +kernel
theorem dX11_sharedDivisor_23 : decode cX11_sharedDivisor 23 = .ok (.lstore_n 0, 1) := by decide +kernel
theorem dX11_sharedDivisor_24 : decode cX11_sharedDivisor 24 = .ok (.lload 5, 2) := by decide +kernel
theorem dX11_sharedDivisor_26 : decode cX11_sharedDivisor 26 = .ok (.lstore_n 2, 1) := by decide +kernel
theorem dX11_sharedDivisor_27 : decode cX11_sharedDivisor 27 = .ok (.iinc 4 1, 3) := by decide +kernel
theorem dX11_sharedDivisor_30 : decode cX11_sharedDivisor 30 = .ok (.goto (-27), 3) := by decide +kernel
theorem dX11_sharedDivisor_33 : decode cX11_sharedDivisor 33 = .ok (.lload_n 0, 1) := by decide +kernel
theorem dX11_sharedDivisor_34 : decode cX11_sharedDivisor 34 = .ok (.lreturn, 1) := by decide +kernel
theorem dX11_sign_0 : decode cX11_sign 0 = .ok (.aload_n 0, 1) := by decide +kernel
theorem dX11_sign_1 : decode cX11_sign 1 = .ok (.getfield 28, 3) := by decide +kernel
theorem dX11_sign_4 : decode cX11_sign 4 = .ok (.iload_n 1, 1) := by decide +kernel
theorem dX11_sign_5 : decode cX11_sign 5 = .ok (.invokevirtual 143, 3) := by decide +kernel
theorem dX11_sign_8 : decode cX11_sign 8 = .ok (.ifCond .ne 6, 3) := by decide +kernel
theorem dX11_sign_11 : decode cX11_sign 11 = .ok (.bipush (-2), 2) := by decide +kernel
theorem dX11_sign_13 : decode cX11_sign 13 = .ok (.ireturn, 1) := by decide +kernel
theorem dX11_sign_14 : decode cX11_sign 14 = .ok (.aload_n 0, 1) := by decide +kernel
theorem dX11_sign_15 : decode cX11_sign 15 = .ok (.getfield 35, 3) := by decide +kernel
theorem dX11_sign_18 : decode cX11_sign 18 = .ok (.invokevirtual 338, 3) := by decide +kernel
theorem dX11_sign_21 : decode cX11_sign 21 = .ok (.ifCond .eq 42, 3) := by decide +kernel
theorem dX11_sign_24 : decode cX11_sign 24 = .ok (.aload_n 0, 1) := by decide +kernel
theorem dX11_sign_25 : decode cX11_sign 25 = .ok (.getfield 35, 3) := by decide +kernel
theorem dX11_sign_28 : decode cX11_sign 28 = .ok (.invokevirtual 341, 3) := by decide +kernel
theorem dX11_sign_31 : decode cX11_sign 31 = .ok (.ifCond .ne 32, 3) := by decide +kernel
theorem dX11_sign_34 : decode cX11_sign 34 = .ok (.aload_n 0, 1) := by decide +kernel
theorem dX11_sign_35 : decode cX11_sign 35 = .ok (.getfield 35, 3) := by decide +kernel
theorem dX11_sign_38 : decode cX11_sign 38 = .ok (.iload_n 1, 1) := by decide +kernel
theorem dX11_sign_39 : decode cX11_sign 39 = .ok (.invokevirtual 353, 3) := by decide +kernel

theorem dX12_ofClause_6 : decode cX12_ofClause 6 = .ok (.iconst 3, 1) := by decide +kernel
theorem dX12_ofClause_7 : decode cX12_ofClause 7 = .ok (.iload_n 1, 1) := by decide +kernel
theorem dX12_ofClause_8 : decode cX12_ofClause 8 = .ok (.imul, 1) := by decide +kernel
theorem dX12_ofClause_9 : decode cX12_ofClause 9 = .ok (.iadd, 1) := by decide +kernel
theorem dX12_ofClause_10 : decode cX12_ofClause 10 = .ok (.iload_n 2, 1) := by decide +kernel
theorem dX12_ofClause_11 : decode cX12_ofClause 11 = .ok (.iadd, 1) := by decide +kernel
theorem dX12_ofClause_12 : decode cX12_ofClause 12 = .ok (.iaload, 1) := by decide +kernel
theorem dX12_ofClause_13 : decode cX12_ofClause 13 = .ok (.ireturn, 1) := by decide +kernel
theorem dX12_often_0 : decode cX12_often 0 = .ok (.aload_n 0, 1) := by decide +kernel
theorem dX12_often_1 : decode cX12_often 1 = .ok (.invokevirtual 74, 3) := by decide +kernel
theorem dX12_often_4 : decode cX12_often 4 = .ok (.ifCond .eq 15, 3) := by decide +kernel
theorem dX12_often_7 : decode cX12_often 7 = .ok (.iload_n 1, 1) := by decide +kernel
theorem dX12_often_8 : decode cX12_often 8 = .ok (.i2l, 1) := by decide +kernel
theorem dX12_often_9 : decode cX12_often 9 = .ok (.lconst 0, 1) := by decide +kernel
theorem dX12_often_10 : decode cX12_often 10 = .ok (.ldc2_w 275, 3) := by decide +kernel
theorem dX12_often_13 : decode cX12_often 13 = .ok (.invokestatic 70, 3) := by decide +kernel
theorem dX12_often_16 : decode cX12_often 16 = .ok (.ifCond .ne 6, 3) := by decide +kernel
theorem dX12_often_19 : decode cX12_often 19 = .ok (.bipush (-2), 2) := by decide +kernel
theorem dX12_often_21 : decode cX12_often 21 = .ok (.ireturn, 1) := by decide +kernel
theorem dX12_often_22 : decode cX12_often 22 = .ok (.aload_n 0, 1) := by decide +kernel
theorem dX12_often_23 : decode cX12_often 23 = .ok (.invokevirtual 259, 3) := by decide +kernel
theorem dX12_often_26 : decode cX12_often 26 = .ok (.iconst (-1), 1) := by decide +kernel
theorem dX12_often_27 : decode cX12_often 27 = .ok (.istore_n 2, 1) := by decide +kernel
theorem dX12_often_28 : decode cX12_often 28 = .ok (.iconst 0, 1) := by decide +kernel
theorem dX12_often_29 : decode cX12_often 29 = .ok (.istore_n 3, 1) := by decide +kernel
theorem dX12_often_30 : decode cX12_often 30 = .ok (.aload_n 0, 1) := by decide +kernel
theorem dX12_often_31 : decode cX12_often 31 = .ok (.iconst 0, 1) := by decide +kernel
theorem dX12_often_32 : decode cX12_often 32 = .ok (.putfield 211, 3) := by decide +kernel
theorem dX12_often_35 : decode cX12_often 35 = .ok (.aload_n 0, 1) := by decide +kernel
theorem dX12_often_36 : decode cX12_often 36 = .ok (.getfield 211, 3) := by decide +kernel
theorem dX12_often_39 : decode cX12_often 39 = .ok (.aload_n 0, 1) := by decide +kernel
theorem dX12_often_40 : decode cX12_often 40 = .ok (.getfield 9, 3) := by decide +kernel
theorem dX12_often_43 : decode cX12_often 43 = .ok (.iconst 0, 1) := by decide +kernel
theorem dX12_often_44 : decode cX12_often 44 = .ok (.iaload, 1) := by decide +kernel
theorem dX12_often_45 : decode cX12_often 45 = .ok (.if_icmp .ge 40, 3) := by decide +kernel
theorem dX12_often_48 : decode cX12_often 48 = .ok (.aload_n 0, 1) := by decide +kernel
theorem dX12_often_49 : decode cX12_often 49 = .ok (.iload_n 1, 1) := by decide +kernel
theorem dX12_often_50 : decode cX12_often 50 = .ok (.invokevirtual 268, 3) := by decide +kernel
theorem dX12_often_53 : decode cX12_often 53 = .ok (.istore 4, 2) := by decide +kernel
theorem dX12_often_55 : decode cX12_often 55 = .ok (.iload 4, 2) := by decide +kernel
theorem dX12_often_57 : decode cX12_often 57 = .ok (.iload_n 3, 1) := by decide +kernel
theorem dX12_often_58 : decode cX12_often 58 = .ok (.if_icmp .gt 6, 3) := by decide +kernel
theorem dX12_often_61 : decode cX12_often 61 = .ok (.goto 11, 3) := by decide +kernel
theorem dX12_often_64 : decode cX12_often 64 = .ok (.iload 4, 2) := by decide +kernel
theorem dX12_often_66 : decode cX12_often 66 = .ok (.istore_n 3, 1) := by decide +kernel
theorem dX12_often_67 : decode cX12_often 67 = .ok (.aload_n 0, 1) := by decide +kernel
theorem dX12_often_68 : decode cX12_often 68 = .ok (.getfield 211, 3) := by decide +kernel
theorem dX12_often_71 : decode cX12_often 71 = .ok (.istore_n 2, 1) := by decide +kernel
theorem dX12_often_72 : decode cX12_often 72 = .ok (.aload_n 0, 1) := by decide +kernel
theorem dX12_often_73 : decode cX12_often 73 = .ok (.dup, 1) := by decide +kernel
theorem dX12_often_74 : decode cX12_often 74 = .ok (.getfield 211, 3) := by decide +kernel
theorem dX12_often_77 : decode cX12_often 77 = .ok (.iconst 1, 1) := by decide +kernel
theorem dX12_often_78 : decode cX12_often 78 = .ok (.iadd, 1) := by decide +kernel
theorem dX12_often_79 : decode cX12_often 79 = .ok (.putfield 211, 3) := by decide +kernel
theorem dX12_often_82 : decode cX12_often 82 = .ok (.goto (-47), 3) := by decide +kernel
theorem dX12_often_85 : decode cX12_often 85 = .ok (.iload_n 2, 1) := by decide +kernel
theorem dX12_often_86 : decode cX12_often 86 = .ok (.ireturn, 1) := by decide +kernel
theorem dX12_once_0 : decode cX12_once 0 = .ok (.aload_n 0, 1) := by decide +kernel
theorem dX12_once_1 : decode cX12_once 1 = .ok (.iload_n 1, 1) := by decide +kernel
theorem dX12_once_2 : decode cX12_once 2 = .ok (.iconst 0, 1) := by decide +kernel
theorem dX12_once_3 : decode cX12_once 3 = .ok (.invokevirtual 341, 3) := by decide +kernel
theorem dX12_once_6 : decode cX12_once 6 = .ok (.ifCond .eq 15, 3) := by decide +kernel
theorem dX12_once_9 : decode cX12_once 9 = .ok (.aload_n 0, 1) := by decide +kernel
theorem dX12_once_10 : decode cX12_once 10 = .ok (.aload_n 0, 1) := by decide +kernel
theorem dX12_once_11 : decode cX12_once 11 = .ok (.iload_n 1, 1) := by decide +kernel
theorem dX12_once_12 : decode cX12_once 12 = .ok (.invokevirtual 367, 3) := by decide +kernel
theorem dX12_once_15 : decode cX12_once 15 = .ok (.invokevirtual 364, 3) := by decide +kernel
theorem dX12_once_18 : decode cX12_once 18 = .ok (.goto 5, 3) := by decide +kernel
theorem dX12_once_21 : decode cX12_once 21 = .ok (.bipush (-2), 2) := by decide +kernel
theorem dX12_once_23 : decode cX12_once 23 = .ok (.ireturn, 1) := by decide +kernel
theorem dX12_onceOf_0 : decode cX12_onceOf 0 = .ok (.iconst 0, 1) := by decide +kernel
theorem dX12_onceOf_1 : decode cX12_onceOf 1 = .ok (.istore_n 2, 1) := by decide +kernel
theorem dX12_onceOf_2 : decode cX12_onceOf 2 = .ok (.iconst 1, 1) := by decide +kernel
theorem dX12_onceOf_3 : decode cX12_onceOf 3 = .ok (.istore_n 3, 1) := by decide +kernel
theorem dX12_onceOf_4 : decode cX12_onceOf 4 = .ok (.iload_n 3, 1) := by decide +kernel
theorem dX12_onceOf_5 : decode cX12_onceOf 5 = .ok (.aload_n 0, 1) := by decide +kernel
theorem dX12_onceOf_6 : decode cX12_onceOf 6 = .ok (.invokevirtual 349, 3) := by decide +kernel
theorem dX12_onceOf_9 : decode cX12_onceOf 9 = .ok (.if_icmp .gt 33, 3) := by decide +kernel
theorem dX12_onceOf_12 : decode cX12_onceOf 12 = .ok (.aload_n 0, 1) := by decide +kernel
theorem dX12_onceOf_13 : decode cX12_onceOf 13 = .ok (.iload_n 3, 1) := by decide +kernel
theorem dX12_onceOf_14 : decode cX12_onceOf 14 = .ok (.invokevirtual 352, 3) := by decide +kernel
theorem dX12_onceOf_17 : decode cX12_onceOf 17 = .ok (.iload_n 1, 1) := by decide +kernel
theorem dX12_onceOf_18 : decode cX12_onceOf 18 = .ok (.if_icmp .gt 18, 3) := by decide +kernel
theorem dX12_onceOf_21 : decode cX12_onceOf 21 = .ok (.aload_n 0, 1) := by decide +kernel
theorem dX12_onceOf_22 : decode cX12_onceOf 22 = .ok (.iload_n 3, 1) := by decide +kernel
theorem dX12_onceOf_23 : decode cX12_onceOf 23 = .ok (.invokevirtual 364, 3) := by decide +kernel
theorem dX12_onceOf_26 : decode cX12_onceOf 26 = .ok (.aload_n 0, 1) := by decide +kernel
theorem dX12_onceOf_27 : decode cX12_onceOf 27 = .ok (.iload_n 2, 1) := by decide +kernel
theorem dX12_onceOf_28 : decode cX12_onceOf 28 = .ok (.invokevirtual 364, 3) := by decide +kernel
theorem dX12_onceOf_31 : decode cX12_onceOf 31 = .ok (.if_icmp .le 5, 3) := by decide +kernel
theorem dX12_onceOf_34 : decode cX12_onceOf 34 = .ok (.iload_n 3, 1) := by decide +kernel
theorem dX12_onceOf_35 : decode cX12_onceOf 35 = .ok (.istore_n 2, 1) := by decide +kernel
theorem dX12_onceOf_36 : decode cX12_onceOf 36 = .ok (.iinc 3 1, 3) := by decide +kernel
theorem dX12_onceOf_39 : decode cX12_onceOf 39 = .ok (.goto (-35), 3) := by decide +kernel
theorem dX12_onceOf_42 : decode cX12_onceOf 42 = .ok (.iload_n 2, 1) := by decide +kernel
theorem dX12_onceOf_43 : decode cX12_onceOf 43 = .ok (.ireturn, 1) := by decide +kernel
theorem dX12_onces_0 : decode cX12_onces 0 = .ok (.aload_n 0, 1) := by decide +kernel
theorem dX12_onces_1 : decode cX12_onces 1 = .ok (.iload_n 1, 1) := by decide +kernel
theorem dX12_onces_2 : decode cX12_onces 2 = .ok (.iconst 0, 1) := by decide +kernel
theorem dX12_onces_3 : decode cX12_onces 3 = .ok (.invokevirtual 341, 3) := by decide +kernel
theorem dX12_onces_6 : decode cX12_onces 6 = .ok (.ifCond .eq 11, 3) := by decide +kernel
theorem dX12_onces_9 : decode cX12_onces 9 = .ok (.aload_n 0, 1) := by decide +kernel
theorem dX12_onces_10 : decode cX12_onces 10 = .ok (.iload_n 1, 1) := by decide +kernel
theorem dX12_onces_11 : decode cX12_onces 11 = .ok (.invokevirtual 367, 3) := by decide +kernel
theorem dX12_onces_14 : decode cX12_onces 14 = .ok (.goto 5, 3) := by decide +kernel
theorem dX12_onces_17 : decode cX12_onces 17 = .ok (.bipush (-2), 2) := by decide +kernel
theorem dX12_onces_19 : decode cX12_onces 19 = .ok (.ireturn, 1) := by decide +kernel
theorem dX12_order_0 : decode cX12_order 0 = .ok (.aload_n 0, 1) := by decide +kernel
theorem dX12_order_1 : decode cX12_order 1 = .ok (.iload_n 1, 1) := by decide +kernel
theorem dX12_order_2 : decode cX12_order 2 = .ok (.iconst 1, 1) := by decide +kernel
theorem dX12_order_3 : decode cX12_order 3 = .ok (.invokevirtual 341, 3) := by decide +kernel
theorem dX12_order_6 : decode cX12_order 6 = .ok (.ifCond .ne 6, 3) := by decide +kernel
theorem dX12_order_9 : decode cX12_order 9 = .ok (.bipush (-2), 2) := by decide +kernel
theorem dX12_order_11 : decode cX12_order 11 = .ok (.ireturn, 1) := by decide +kernel
theorem dX12_order_12 : decode cX12_order 12 = .ok (.aload_n 0, 1) := by decide +kernel
theorem dX12_order_13 : decode cX12_order 13 = .ok (.iload_n 1, 1) := by decide +kernel
theorem dX12_order_14 : decode cX12_order 14 = .ok (.invokevirtual 344, 3) := by decide +kernel
theorem dX12_order_17 : decode cX12_order 17 = .ok (.iconst (-1), 1) := by decide +kernel
theorem dX12_order_18 : decode cX12_order 18 = .ok (.if_icmp .eq 21, 3) := by decide +kernel
theorem dX12_order_21 : decode cX12_order 21 = .ok (.aload_n 0, 1) := by decide +kernel
theorem dX12_order_22 : decode cX12_order 22 = .ok (.iload_n 2, 1) := by decide +kernel
theorem dX12_order_23 : decode cX12_order 23 = .ok (.i2l, 1) := by decide +kernel
theorem dX12_order_24 : decode cX12_order 24 = .ok (.invokevirtual 205, 3) := by decide +kernel
theorem dX12_order_27 : decode cX12_order 27 = .ok (.ifCond .eq 12, 3) := by decide +kernel
theorem dX12_order_30 : decode cX12_order 30 = .ok (.aload_n 0, 1) := by decide +kernel
theorem dX12_order_31 : decode cX12_order 31 = .ok (.getfield 46, 3) := by decide +kernel
theorem dX12_order_34 : decode cX12_order 34 = .ok (.iload_n 2, 1) := by decide +kernel
theorem dX12_order_35 : decode cX12_order 35 = .ok (.iaload, 1) := by decide +kernel
theorem dX12_order_36 : decode cX12_order 36 = .ok (.goto 4, 3) := by decide +kernel
theorem dX12_order_39 : decode cX12_order 39 = .ok (.iconst (-1), 1) := by decide +kernel
theorem dX12_order_40 : decode cX12_order 40 = .ok (.ireturn, 1) := by decide +kernel
theorem dX12_out_0 : decode cX12_out 0 = .ok (.aload_n 0, 1) := by decide +kernel
theorem dX12_out_1 : decode cX12_out 1 = .ok (.iload_n 1, 1) := by decide +kernel
theorem dX12_out_2 : decode cX12_out 2 = .ok (.invokevirtual 256, 3) := by decide +kernel
theorem dX12_out_5 : decode cX12_out 5 = .ok (.ifCond .eq 15, 3) := by decide +kernel
theorem dX12_out_8 : decode cX12_out 8 = .ok (.iload_n 2, 1) := by decide +kernel
theorem dX12_out_9 : decode cX12_out 9 = .ok (.i2l, 1) := by decide +kernel
theorem dX12_out_10 : decode cX12_out 10 = .ok (.lconst 0, 1) := by decide +kernel
theorem dX12_out_11 : decode cX12_out 11 = .ok (.ldc2_w 262, 3) := by decide +kernel
theorem dX12_out_14 : decode cX12_out 14 = .ok (.invokestatic 70, 3) := by decide +kernel
theorem dX12_out_17 : decode cX12_out 17 = .ok (.ifCond .ne 6, 3) := by decide +kernel
theorem dX12_out_20 : decode cX12_out 20 = .ok (.bipush (-2), 2) := by decide +kernel
theorem dX12_out_22 : decode cX12_out 22 = .ok (.ireturn, 1) := by decide +kernel
theorem dX12_out_23 : decode cX12_out 23 = .ok (.aload_n 0, 1) := by decide +kernel
theorem dX12_out_24 : decode cX12_out 24 = .ok (.invokevirtual 259, 3) := by decide +kernel
theorem dX12_out_27 : decode cX12_out 27 = .ok (.aload_n 0, 1) := by decide +kernel
theorem dX12_out_28 : decode cX12_out 28 = .ok (.iload_n 1, 1) := by decide +kernel
theorem dX12_out_29 : decode cX12_out 29 = .ok (.iload_n 2, 1) := by decide +kernel
theorem dX12_out_30 : decode cX12_out 30 = .ok (.invokevirtual 242, 3) := by decide +kernel
theorem dX12_out_33 : decode cX12_out 33 = .ok (.ifCond .eq 7, 3) := by decide +kernel
theorem dX12_out_36 : decode cX12_out 36 = .ok (.iconst 1, 1) := by decide +kernel
theorem dX12_out_37 : decode cX12_out 37 = .ok (.goto 4, 3) := by decide +kernel
theorem dX12_out_40 : decode cX12_out 40 = .ok (.iconst 0, 1) := by decide +kernel
theorem dX12_out_41 : decode cX12_out 41 = .ok (.ireturn, 1) := by decide +kernel
theorem dX12_pair_0 : decode cX12_pair 0 = .ok (.aload_n 0, 1) := by decide +kernel
theorem dX12_pair_1 : decode cX12_pair 1 = .ok (.invokevirtual 74, 3) := by decide +kernel
theorem dX12_pair_4 : decode cX12_pair 4 = .ok (.ifCond .ne 6, 3) := by decide +kernel
theorem dX12_pair_7 : decode cX12_pair 7 = .ok (.bipush (-2), 2) := by decide +kernel
theorem dX12_pair_9 : decode cX12_pair 9 = .ok (.ireturn, 1) := by decide +kernel
theorem dX12_pair_10 : decode cX12_pair 10 = .ok (.iconst (-1), 1) := by decide +kernel
theorem dX12_pair_11 : decode cX12_pair 11 = .ok (.istore_n 1, 1) := by decide +kernel
theorem dX12_pair_12 : decode cX12_pair 12 = .ok (.iconst 0, 1) := by decide +kernel
theorem dX12_pair_13 : decode cX12_pair 13 = .ok (.istore_n 2, 1) := by decide +kernel
theorem dX12_pair_14 : decode cX12_pair 14 = .ok (.iconst 0, 1) := by decide +kernel
theorem dX12_pair_15 : decode cX12_pair 15 = .ok (.istore_n 3, 1) := by decide +kernel
theorem dX12_pair_16 : decode cX12_pair 16 = .ok (.iload_n 3, 1) := by decide +kernel
theorem dX12_pair_17 : decode cX12_pair 17 = .ok (.aload_n 0, 1) := by decide +kernel
theorem dX12_pair_18 : decode cX12_pair 18 = .ok (.getfield 9, 3) := by decide +kernel
theorem dX12_pair_21 : decode cX12_pair 21 = .ok (.iconst 4, 1) := by decide +kernel
theorem dX12_pair_22 : decode cX12_pair 22 = .ok (.iaload, 1) := by decide +kernel
theorem dX12_pair_23 : decode cX12_pair 23 = .ok (.if_icmp .ge 79, 3) := by decide +kernel
theorem dX12_pair_26 : decode cX12_pair 26 = .ok (.iconst 0, 1) := by decide +kernel
theorem dX12_pair_27 : decode cX12_pair 27 = .ok (.istore 4, 2) := by decide +kernel
theorem dX12_pair_29 : decode cX12_pair 29 = .ok (.iload 4, 2) := by decide +kernel
theorem dX12_pair_31 : decode cX12_pair 31 = .ok (.aload_n 0, 1) := by decide +kernel
theorem dX12_pair_32 : decode cX12_pair 32 = .ok (.getfield 9, 3) := by decide +kernel
theorem dX12_pair_35 : decode cX12_pair 35 = .ok (.iconst 4, 1) := by decide +kernel
theorem dX12_pair_36 : decode cX12_pair 36 = .ok (.iaload, 1) := by decide +kernel
theorem dX12_pair_37 : decode cX12_pair 37 = .ok (.if_icmp .ge 59, 3) := by decide +kernel
theorem dX12_pair_40 : decode cX12_pair 40 = .ok (.aload_n 0, 1) := by decide +kernel
theorem dX12_pair_41 : decode cX12_pair 41 = .ok (.iload_n 3, 1) := by decide +kernel
theorem dX12_pair_42 : decode cX12_pair 42 = .ok (.iconst 0, 1) := by decide +kernel
theorem dX12_pair_43 : decode cX12_pair 43 = .ok (.invokevirtual 202, 3) := by decide +kernel
theorem dX12_pair_46 : decode cX12_pair 46 = .ok (.ifCond .ne 44, 3) := by decide +kernel
theorem dX12_pair_49 : decode cX12_pair 49 = .ok (.aload_n 0, 1) := by decide +kernel
theorem dX12_pair_50 : decode cX12_pair 50 = .ok (.iload 4, 2) := by decide +kernel
theorem dX12_pair_52 : decode cX12_pair 52 = .ok (.iconst 0, 1) := by decide +kernel
theorem dX12_pair_53 : decode cX12_pair 53 = .ok (.invokevirtual 202, 3) := by decide +kernel
theorem dX12_pair_56 : decode cX12_pair 56 = .ok (.iconst 1, 1) := by decide +kernel
theorem dX12_pair_57 : decode cX12_pair 57 = .ok (.if_icmp .ne 33, 3) := by decide +kernel
theorem dX12_pair_60 : decode cX12_pair 60 = .ok (.aload_n 0, 1) := by decide +kernel
theorem dX12_pair_61 : decode cX12_pair 61 = .ok (.iload_n 3, 1) := by decide +kernel
theorem dX12_pair_62 : decode cX12_pair 62 = .ok (.iload 4, 2) := by decide +kernel
theorem dX12_pair_64 : decode cX12_pair 64 = .ok (.invokevirtual 239, 3) := by decide +kernel
theorem dX12_pair_67 : decode cX12_pair 67 = .ok (.iload_n 2, 1) := by decide +kernel
theorem dX12_pair_68 : decode cX12_pair 68 = .ok (.if_icmp .gt 6, 3) := by decide +kernel
theorem dX12_pair_71 : decode cX12_pair 71 = .ok (.goto 19, 3) := by decide +kernel
theorem dX12_pair_74 : decode cX12_pair 74 = .ok (.aload_n 0, 1) := by decide +kernel
theorem dX12_pair_75 : decode cX12_pair 75 = .ok (.iload_n 3, 1) := by decide +kernel
theorem dX12_pair_76 : decode cX12_pair 76 = .ok (.iload 4, 2) := by decide +kernel
theorem dX12_pair_78 : decode cX12_pair 78 = .ok (.invokevirtual 239, 3) := by decide +kernel
theorem dX12_pair_81 : decode cX12_pair 81 = .ok (.istore_n 2, 1) := by decide +kernel
theorem dX12_pair_82 : decode cX12_pair 82 = .ok (.bipush 10, 2) := by decide +kernel
theorem dX12_pair_84 : decode cX12_pair 84 = .ok (.iload_n 3, 1) := by decide +kernel
theorem dX12_pair_85 : decode cX12_pair 85 = .ok (.imul, 1) := by decide +kernel
theorem dX12_pair_86 : decode cX12_pair 86 = .ok (.iload 4, 2) := by decide +kernel
theorem dX12_pair_88 : decode cX12_pair 88 = .ok (.iadd, 1) := by decide +kernel
theorem dX12_pair_89 : decode cX12_pair 89 = .ok (.istore_n 1, 1) := by decide +kernel
theorem dX12_pair_90 : decode cX12_pair 90 = .ok (.iinc 4 1, 3) := by decide +kernel
theorem dX12_pair_93 : decode cX12_pair 93 = .ok (.goto (-64), 3) := by decide +kernel
theorem dX12_pair_96 : decode cX12_pair 96 = .ok (.iinc 3 1, 3) := by decide +kernel
theorem dX12_pair_99 : decode cX12_pair 99 = .ok (.goto (-83), 3) := by decide +kernel
theorem dX12_pair_102 : decode cX12_pair 102 = .ok (.iload_n 1, 1) := by decide +kernel
theorem dX12_pair_103 : decode cX12_pair 103 = .ok (.ireturn, 1) := by decide +kernel
theorem dX12_part_0 : decode cX12_part 0 = .ok (.iload 4, 2) := by decide +kernel
theorem dX12_part_2 : decode cX12_part 2 = .ok (.ifCond .ne 7, 3) := by decide +kernel
theorem dX12_part_5 : decode cX12_part 5 = .ok (.lload_n 0, 1) := by decide +kernel
theorem dX12_part_6 : decode cX12_part 6 = .ok (.goto 4, 3) := by decide +kernel
theorem dX12_part_9 : decode cX12_part 9 = .ok (.lload_n 2, 1) := by decide +kernel
theorem dX12_part_10 : decode cX12_part 10 = .ok (.lload_n 0, 1) := by decide +kernel
theorem dX12_part_11 : decode cX12_part 11 = .ok (.lload_n 2, 1) := by decide +kernel
theorem dX12_part_12 : decode cX12_part 12 = .ok (.invokestatic 403, 3) := by decide +kernel
theorem dX12_part_15 : decode cX12_part 15 = .ok (.ldiv, 1) := by decide +kernel
theorem dX12_part_16 : decode cX12_part 16 = .ok (.lreturn, 1) := by decide +kernel
theorem dX12_partner_0 : decode cX12_partner 0 = .ok (.aload_n 0, 1) := by decide +kernel
theorem dX12_partner_1 : decode cX12_partner 1 = .ok (.iload_n 1, 1) := by decide +kernel
theorem dX12_partner_2 : decode cX12_partner 2 = .ok (.i2l, 1) := by decide +kernel
theorem dX12_partner_3 : decode cX12_partner 3 = .ok (.invokevirtual 198, 3) := by decide +kernel
theorem dX12_partner_6 : decode cX12_partner 6 = .ok (.ifCond .ne 6, 3) := by decide +kernel
theorem dX12_partner_9 : decode cX12_partner 9 = .ok (.bipush (-2), 2) := by decide +kernel
theorem dX12_partner_11 : decode cX12_partner 11 = .ok (.ireturn, 1) := by decide +kernel
theorem dX12_partner_12 : decode cX12_partner 12 = .ok (.iconst (-1), 1) := by decide +kernel
theorem dX12_partner_13 : decode cX12_partner 13 = .ok (.istore_n 2, 1) := by decide +kernel
theorem dX12_partner_14 : decode cX12_partner 14 = .ok (.iconst 0, 1) := by decide +kernel
theorem dX12_partner_15 : decode cX12_partner 15 = .ok (.istore_n 3, 1) := by decide +kernel
theorem dX12_partner_16 : decode cX12_partner 16 = .ok (.iload_n 3, 1) := by decide +kernel
theorem dX12_partner_17 : decode cX12_partner 17 = .ok (.aload_n 0, 1) := by decide +kernel
theorem dX12_partner_18 : decode cX12_partner 18 = .ok (.getfield 9, 3) := by decide +kernel
theorem dX12_partner_21 : decode cX12_partner 21 = .ok (.iconst 4, 1) := by decide +kernel
theorem dX12_partner_22 : decode cX12_partner 22 = .ok (.iaload, 1) := by decide +kernel
theorem dX12_partner_23 : decode cX12_partner 23 = .ok (.if_icmp .ge 40, 3) := by decide +kernel
theorem dX12_partner_26 : decode cX12_partner 26 = .ok (.aload_n 0, 1) := by decide +kernel
theorem dX12_partner_27 : decode cX12_partner 27 = .ok (.iload_n 1, 1) := by decide +kernel
theorem dX12_partner_28 : decode cX12_partner 28 = .ok (.iload_n 3, 1) := by decide +kernel
theorem dX12_partner_29 : decode cX12_partner 29 = .ok (.invokevirtual 293, 3) := by decide +kernel
theorem dX12_partner_32 : decode cX12_partner 32 = .ok (.ifCond .eq 25, 3) := by decide +kernel
theorem dX12_partner_35 : decode cX12_partner 35 = .ok (.iload_n 2, 1) := by decide +kernel
theorem dX12_partner_36 : decode cX12_partner 36 = .ok (.iconst (-1), 1) := by decide +kernel
theorem dX12_partner_37 : decode cX12_partner 37 = .ok (.if_icmp .eq 18, 3) := by decide +kernel
theorem dX12_partner_40 : decode cX12_partner 40 = .ok (.aload_n 0, 1) := by decide +kernel
theorem dX12_partner_41 : decode cX12_partner 41 = .ok (.iload_n 1, 1) := by decide +kernel
theorem dX12_partner_42 : decode cX12_partner 42 = .ok (.iload_n 3, 1) := by decide +kernel
theorem dX12_partner_43 : decode cX12_partner 43 = .ok (.invokevirtual 239, 3) := by decide +kernel
theorem dX12_partner_46 : decode cX12_partner 46 = .ok (.aload_n 0, 1) := by decide +kernel
theorem dX12_partner_47 : decode cX12_partner 47 = .ok (.iload_n 1, 1) := by decide +kernel
theorem dX12_partner_48 : decode cX12_partner 48 = .ok (.iload_n 2, 1) := by decide +kernel
theorem dX12_partner_49 : decode cX12_partner 49 = .ok (.invokevirtual 239, 3) := by decide +kernel
theorem dX12_partner_52 : decode cX12_partner 52 = .ok (.if_icmp .le 5, 3) := by decide +kernel
theorem dX12_partner_55 : decode cX12_partner 55 = .ok (.iload_n 3, 1) := by decide +kernel
theorem dX12_partner_56 : decode cX12_partner 56 = .ok (.istore_n 2, 1) := by decide +kernel
theorem dX12_partner_57 : decode cX12_partner 57 = .ok (.iinc 3 1, 3) := by decide +kernel
theorem dX12_partner_60 : decode cX12_partner 60 = .ok (.goto (-44), 3) := by decide +kernel
theorem dX12_partner_63 : decode cX12_partner 63 = .ok (.iload_n 2, 1) := by decide +kernel
theorem dX12_partner_64 : decode cX12_partner 64 = .ok (.ireturn, 1) := by decide +kernel
theorem dX12_paste_0 : decode cX12_paste 0 = .ok (.iload_n 1, 1) := by decide +kernel
theorem dX12_paste_1 : decode cX12_paste 1 = .ok (.invokestatic 311, 3) := by decide +kernel
theorem dX12_paste_4 : decode cX12_paste 4 = .ok (.ifCond .eq 10, 3) := by decide +kernel
theorem dX12_paste_7 : decode cX12_paste 7 = .ok (.iload_n 3, 1) := by decide +kernel
theorem dX12_paste_8 : decode cX12_paste 8 = .ok (.invokestatic 311, 3) := by decide +kernel
theorem dX12_paste_11 : decode cX12_paste 11 = .ok (.ifCond .ne 6, 3) := by decide +kernel
theorem dX12_paste_14 : decode cX12_paste 14 = .ok (.bipush (-2), 2) := by decide +kernel
theorem dX12_paste_16 : decode cX12_paste 16 = .ok (.ireturn, 1) := by decide +kernel
theorem dX12_paste_17 : decode cX12_paste 17 = .ok (.aload_n 0, 1) := by decide +kernel
theorem dX12_paste_18 : decode cX12_paste 18 = .ok (.getfield 52, 3) := by decide +kernel
theorem dX12_paste_21 : decode cX12_paste 21 = .ok (.iload_n 1, 1) := by decide +kernel
theorem dX12_paste_22 : decode cX12_paste 22 = .ok (.iaload, 1) := by decide +kernel
theorem dX12_paste_23 : decode cX12_paste 23 = .ok (.iconst (-1), 1) := by decide +kernel
theorem dX12_paste_24 : decode cX12_paste 24 = .ok (.if_icmp .eq 13, 3) := by decide +kernel
theorem dX12_paste_27 : decode cX12_paste 27 = .ok (.aload_n 0, 1) := by decide +kernel
theorem dX12_paste_28 : decode cX12_paste 28 = .ok (.getfield 52, 3) := by decide +kernel
theorem dX12_paste_31 : decode cX12_paste 31 = .ok (.iload_n 3, 1) := by decide +kernel
theorem dX12_paste_32 : decode cX12_paste 32 = .ok (.iaload, 1) := by decide +kernel
theorem dX12_paste_33 : decode cX12_paste 33 = .ok (.iconst (-1), 1) := by decide +kernel
theorem dX12_paste_34 : decode cX12_paste 34 = .ok (.if_icmp .ne 6, 3) := by decide +kernel
theorem dX12_paste_37 : decode cX12_paste 37 = .ok (.bipush (-6), 2) := by decide +kernel
theorem dX12_paste_39 : decode cX12_paste 39 = .ok (.ireturn, 1) := by decide +kernel
theorem dX12_paste_40 : decode cX12_paste 40 = .ok (.aload_n 0, 1) := by decide +kernel
theorem dX12_paste_41 : decode cX12_paste 41 = .ok (.getfield 55, 3) := by decide +kernel
theorem dX12_paste_44 : decode cX12_paste 44 = .ok (.iload_n 1, 1) := by decide +kernel
theorem dX12_paste_45 : decode cX12_paste 45 = .ok (.iaload, 1) := by decide +kernel
theorem dX12_paste_46 : decode cX12_paste 46 = .ok (.aload_n 0, 1) := by decide +kernel
theorem dX12_paste_47 : decode cX12_paste 47 = .ok (.getfield 55, 3) := by decide +kernel
theorem dX12_paste_50 : decode cX12_paste 50 = .ok (.iload_n 3, 1) := by decide +kernel
theorem dX12_paste_51 : decode cX12_paste 51 = .ok (.iaload, 1) := by decide +kernel
theorem dX12_paste_52 : decode cX12_paste 52 = .ok (.if_icmp .eq 6, 3) := by decide +kernel
theorem dX12_paste_55 : decode cX12_paste 55 = .ok (.bipush (-8), 2) := by decide +kernel
theorem dX12_paste_57 : decode cX12_paste 57 = .ok (.ireturn, 1) := by decide +kernel
theorem dX12_paste_58 : decode cX12_paste 58 = .ok (.iload_n 2, 1) := by decide +kernel
theorem dX12_paste_59 : decode cX12_paste 59 = .ok (.ifCond .lt 48, 3) := by decide +kernel
theorem dX12_paste_62 : decode cX12_paste 62 = .ok (.iload 4, 2) := by decide +kernel
theorem dX12_paste_64 : decode cX12_paste 64 = .ok (.ifCond .lt 43, 3) := by decide +kernel
theorem dX12_paste_67 : decode cX12_paste 67 = .ok (.iload 5, 2) := by decide +kernel
theorem dX12_paste_69 : decode cX12_paste 69 = .ok (.ifCond .lt 38, 3) := by decide +kernel
theorem dX12_paste_72 : decode cX12_paste 72 = .ok (.iload_n 2, 1) := by decide +kernel
theorem dX12_paste_73 : decode cX12_paste 73 = .ok (.i2l, 1) := by decide +kernel
theorem dX12_paste_74 : decode cX12_paste 74 = .ok (.iload 5, 2) := by decide +kernel
theorem dX12_paste_76 : decode cX12_paste 76 = .ok (.i2l, 1) := by decide +kernel
theorem dX12_paste_77 : decode cX12_paste 77 = .ok (.ladd, 1) := by decide +kernel
theorem dX12_paste_78 : decode cX12_paste 78 = .ok (.aload_n 0, 1) := by decide +kernel
theorem dX12_paste_79 : decode cX12_paste 79 = .ok (.getfield 52, 3) := by decide +kernel
theorem dX12_paste_82 : decode cX12_paste 82 = .ok (.iload_n 1, 1) := by decide +kernel
theorem dX12_paste_83 : decode cX12_paste 83 = .ok (.iaload, 1) := by decide +kernel
theorem dX12_paste_84 : decode cX12_paste 84 = .ok (.i2l, 1) := by decide +kernel
theorem dX12_paste_85 : decode cX12_paste 85 = .ok (.lcmp, 1) := by decide +kernel
theorem dX12_paste_86 : decode cX12_paste 86 = .ok (.ifCond .gt 21, 3) := by decide +kernel
theorem dX12_paste_89 : decode cX12_paste 89 = .ok (.iload 4, 2) := by decide +kernel
theorem dX12_paste_91 : decode cX12_paste 91 = .ok (.i2l, 1) := by decide +kernel
theorem dX12_paste_92 : decode cX12_paste 92 = .ok (.iload 5, 2) := by decide +kernel
theorem dX12_paste_94 : decode cX12_paste 94 = .ok (.i2l, 1) := by decide +kernel
theorem dX12_paste_95 : decode cX12_paste 95 = .ok (.ladd, 1) := by decide +kernel
theorem dX12_paste_96 : decode cX12_paste 96 = .ok (.aload_n 0, 1) := by decide +kernel
theorem dX12_paste_97 : decode cX12_paste 97 = .ok (.getfield 52, 3) := by decide +kernel
theorem dX12_paste_100 : decode cX12_paste 100 = .ok (.iload_n 3, 1) := by decide +kernel
theorem dX12_paste_101 : decode cX12_paste 101 = .ok (.iaload, 1) := by decide +kernel
theorem dX12_paste_102 : decode cX12_paste 102 = .ok (.i2l, 1) := by decide +kernel
theorem dX12_paste_103 : decode cX12_paste 103 = .ok (.lcmp, 1) := by decide +kernel
theorem dX12_paste_104 : decode cX12_paste 104 = .ok (.ifCond .le 6, 3) := by decide +kernel
theorem dX12_paste_107 : decode cX12_paste 107 = .ok (.bipush (-7), 2) := by decide +kernel
theorem dX12_paste_109 : decode cX12_paste 109 = .ok (.ireturn, 1) := by decide +kernel
theorem dX12_paste_110 : decode cX12_paste 110 = .ok (.iconst 0, 1) := by decide +kernel
theorem dX12_paste_111 : decode cX12_paste 111 = .ok (.istore 6, 2) := by decide +kernel
theorem dX12_paste_113 : decode cX12_paste 113 = .ok (.iload 6, 2) := by decide +kernel
theorem dX12_paste_115 : decode cX12_paste 115 = .ok (.iload 5, 2) := by decide +kernel
theorem dX12_paste_117 : decode cX12_paste 117 = .ok (.if_icmp .ge 30, 3) := by decide +kernel
theorem dX12_paste_120 : decode cX12_paste 120 = .ok (.aload_n 0, 1) := by decide +kernel
theorem dX12_paste_121 : decode cX12_paste 121 = .ok (.getfield 62, 3) := by decide +kernel
theorem dX12_paste_124 : decode cX12_paste 124 = .ok (.iload 6, 2) := by decide +kernel
theorem dX12_paste_126 : decode cX12_paste 126 = .ok (.aload_n 0, 1) := by decide +kernel
theorem dX12_paste_127 : decode cX12_paste 127 = .ok (.getfield 58, 3) := by decide +kernel
theorem dX12_paste_130 : decode cX12_paste 130 = .ok (.bipush 60, 2) := by decide +kernel
theorem dX12_paste_132 : decode cX12_paste 132 = .ok (.iload_n 1, 1) := by decide +kernel
theorem dX12_paste_133 : decode cX12_paste 133 = .ok (.imul, 1) := by decide +kernel
theorem dX12_paste_134 : decode cX12_paste 134 = .ok (.iload_n 2, 1) := by decide +kernel
theorem dX12_paste_135 : decode cX12_paste 135 = .ok (.iadd, 1) := by decide +kernel
theorem dX12_paste_136 : decode cX12_paste 136 = .ok (.iload 6, 2) := by decide +kernel
theorem dX12_paste_138 : decode cX12_paste 138 = .ok (.iadd, 1) := by decide +kernel
theorem dX12_paste_139 : decode cX12_paste 139 = .ok (.laload, 1) := by decide +kernel
theorem dX12_paste_140 : decode cX12_paste 140 = .ok (.lastore, 1) := by decide +kernel
theorem dX12_paste_141 : decode cX12_paste 141 = .ok (.iinc 6 1, 3) := by decide +kernel
theorem dX12_paste_144 : decode cX12_paste 144 = .ok (.goto (-31), 3) := by decide +kernel
theorem dX12_paste_147 : decode cX12_paste 147 = .ok (.iconst 0, 1) := by decide +kernel
theorem dX12_paste_148 : decode cX12_paste 148 = .ok (.istore 6, 2) := by decide +kernel
theorem dX12_paste_150 : decode cX12_paste 150 = .ok (.iload 6, 2) := by decide +kernel
theorem dX12_paste_152 : decode cX12_paste 152 = .ok (.iload 5, 2) := by decide +kernel
theorem dX12_paste_154 : decode cX12_paste 154 = .ok (.if_icmp .ge 31, 3) := by decide +kernel
theorem dX12_paste_157 : decode cX12_paste 157 = .ok (.aload_n 0, 1) := by decide +kernel
theorem dX12_paste_158 : decode cX12_paste 158 = .ok (.getfield 58, 3) := by decide +kernel
theorem dX12_paste_161 : decode cX12_paste 161 = .ok (.bipush 60, 2) := by decide +kernel
theorem dX12_paste_163 : decode cX12_paste 163 = .ok (.iload_n 3, 1) := by decide +kernel
theorem dX12_paste_164 : decode cX12_paste 164 = .ok (.imul, 1) := by decide +kernel
theorem dX12_paste_165 : decode cX12_paste 165 = .ok (.iload 4, 2) := by decide +kernel
theorem dX12_paste_167 : decode cX12_paste 167 = .ok (.iadd, 1) := by decide +kernel
theorem dX12_paste_168 : decode cX12_paste 168 = .ok (.iload 6, 2) := by decide +kernel
theorem dX12_paste_170 : decode cX12_paste 170 = .ok (.iadd, 1) := by decide +kernel
theorem dX12_paste_171 : decode cX12_paste 171 = .ok (.aload_n 0, 1) := by decide +kernel
theorem dX12_paste_172 : decode cX12_paste 172 = .ok (.getfield 62, 3) := by decide +kernel
theorem dX12_paste_175 : decode cX12_paste 175 = .ok (.iload 6, 2) := by decide +kernel
theorem dX12_paste_177 : decode cX12_paste 177 = .ok (.laload, 1) := by decide +kernel
theorem dX12_paste_178 : decode cX12_paste 178 = .ok (.lastore, 1) := by decide +kernel
theorem dX12_paste_179 : decode cX12_paste 179 = .ok (.iinc 6 1, 3) := by decide +kernel
theorem dX12_paste_182 : decode cX12_paste 182 = .ok (.goto (-32), 3) := by decide +kernel
theorem dX12_paste_185 : decode cX12_paste 185 = .ok (.iconst 0, 1) := by decide +kernel
theorem dX12_paste_186 : decode cX12_paste 186 = .ok (.ireturn, 1) := by decide +kernel
theorem dX12_power_0 : decode cX12_power 0 = .ok (.lconst 1, 1) := by decide +kernel
theorem dX12_power_1 : decode cX12_power 1 = .ok (.lstore_n 3, 1) := by decide +kernel
theorem dX12_power_2 : decode cX12_power 2 = .ok (.iconst 0, 1) := by decide +kernel
theorem dX12_power_3 : decode cX12_power 3 = .ok (.istore 5, 2) := by decide +kernel
theorem dX12_power_5 : decode cX12_power 5 = .ok (.iload 5, 2) := by decide +kernel
theorem dX12_power_7 : decode cX12_power 7 = .ok (.iload_n 2, 1) := by decide +kernel
theorem dX12_power_8 : decode cX12_power 8 = .ok (.if_icmp .ge 13, 3) := by decide +kernel
theorem dX12_power_11 : decode cX12_power 11 = .ok (.lload_n 3, 1) := by decide +kernel
theorem dX12_power_12 : decode cX12_power 12 = .ok (.lload_n 0, 1) := by decide +kernel
theorem dX12_power_13 : decode cX12_power 13 = .ok (.lmul, 1) := by decide +kernel
theorem dX12_power_14 : decode cX12_power 14 = .ok (.lstore_n 3, 1) := by decide +kernel
theorem dX12_power_15 : decode cX12_power 15 = .ok (.iinc 5 1, 3) := by decide +kernel
theorem dX12_power_18 : decode cX12_power 18 = .ok (.goto (-13), 3) := by decide +kernel
theorem dX12_power_21 : decode cX12_power 21 = .ok (.lload_n 3, 1) := by decide +kernel
theorem dX12_power_22 : decode cX12_power 22 = .ok (.lreturn, 1) := by decide +kernel
theorem dX12_push_0 : decode cX12_push 0 = .ok (.aload_n 0, 1) := by decide +kernel
theorem dX12_push_1 : decode cX12_push 1 = .ok (.iload_n 1, 1) := by decide +kernel
theorem dX12_push_2 : decode cX12_push 2 = .ok (.invokevirtual 256, 3) := by decide +kernel
theorem dX12_push_5 : decode cX12_push 5 = .ok (.ifCond .eq 15, 3) := by decide +kernel
theorem dX12_push_8 : decode cX12_push 8 = .ok (.iload_n 2, 1) := by decide +kernel
theorem dX12_push_9 : decode cX12_push 9 = .ok (.i2l, 1) := by decide +kernel
theorem dX12_push_10 : decode cX12_push 10 = .ok (.lconst 0, 1) := by decide +kernel
theorem dX12_push_11 : decode cX12_push 11 = .ok (.ldc2_w 428, 3) := by decide +kernel
theorem dX12_push_14 : decode cX12_push 14 = .ok (.invokestatic 70, 3) := by decide +kernel
theorem dX12_push_17 : decode cX12_push 17 = .ok (.ifCond .ne 6, 3) := by decide +kernel
theorem dX12_push_20 : decode cX12_push 20 = .ok (.bipush (-2), 2) := by decide +kernel
theorem dX12_push_22 : decode cX12_push 22 = .ok (.ireturn, 1) := by decide +kernel
theorem dX12_push_23 : decode cX12_push 23 = .ok (.aload_n 0, 1) := by decide +kernel
theorem dX12_push_24 : decode cX12_push 24 = .ok (.invokevirtual 430, 3) := by decide +kernel
theorem dX12_push_27 : decode cX12_push 27 = .ok (.ifCond .ne 17, 3) := by decide +kernel
theorem dX12_push_30 : decode cX12_push 30 = .ok (.aload_n 0, 1) := by decide +kernel
theorem dX12_push_31 : decode cX12_push 31 = .ok (.iconst 0, 1) := by decide +kernel
theorem dX12_push_32 : decode cX12_push 32 = .ok (.bipush 20, 2) := by decide +kernel
theorem dX12_push_34 : decode cX12_push 34 = .ok (.iload_n 1, 1) := by decide +kernel
theorem dX12_push_35 : decode cX12_push 35 = .ok (.imul, 1) := by decide +kernel
theorem dX12_push_36 : decode cX12_push 36 = .ok (.iload_n 2, 1) := by decide +kernel
theorem dX12_push_37 : decode cX12_push 37 = .ok (.iadd, 1) := by decide +kernel
theorem dX12_push_38 : decode cX12_push 38 = .ok (.invokevirtual 433, 3) := by decide +kernel
theorem dX12_push_41 : decode cX12_push 41 = .ok (.ifCond .ne 6, 3) := by decide +kernel
theorem dX12_push_44 : decode cX12_push 44 = .ok (.bipush (-5), 2) := by decide +kernel
theorem dX12_push_46 : decode cX12_push 46 = .ok (.ireturn, 1) := by decide +kernel
theorem dX12_push_47 : decode cX12_push 47 = .ok (.iload_n 1, 1) := by decide +kernel
theorem dX12_push_48 : decode cX12_push 48 = .ok (.ifCond .ne 10, 3) := by decide +kernel
theorem dX12_push_51 : decode cX12_push 51 = .ok (.aload_n 0, 1) := by decide +kernel
theorem dX12_push_52 : decode cX12_push 52 = .ok (.getfield 211, 3) := by decide +kernel
theorem dX12_push_55 : decode cX12_push 55 = .ok (.goto 7, 3) := by decide +kernel
theorem dX12_push_58 : decode cX12_push 58 = .ok (.aload_n 0, 1) := by decide +kernel
theorem dX12_push_59 : decode cX12_push 59 = .ok (.getfield 214, 3) := by decide +kernel
theorem dX12_push_62 : decode cX12_push 62 = .ok (.ireturn, 1) := by decide +kernel
theorem dX12_push0_0 : decode cX12_push0 0 = .ok (.iload_n 1, 1) := by decide +kernel
theorem dX12_push0_1 : decode cX12_push0 1 = .ok (.ifCond .ne 23, 3) := by decide +kernel
theorem dX12_push0_4 : decode cX12_push0 4 = .ok (.aload_n 0, 1) := by decide +kernel
theorem dX12_push0_5 : decode cX12_push0 5 = .ok (.aload_n 0, 1) := by decide +kernel
theorem dX12_push0_6 : decode cX12_push0 6 = .ok (.getfield 211, 3) := by decide +kernel
theorem dX12_push0_9 : decode cX12_push0 9 = .ok (.iload_n 2, 1) := by decide +kernel
theorem dX12_push0_10 : decode cX12_push0 10 = .ok (.iadd, 1) := by decide +kernel
theorem dX12_push0_11 : decode cX12_push0 11 = .ok (.aload_n 0, 1) := by decide +kernel
theorem dX12_push0_12 : decode cX12_push0 12 = .ok (.getfield 9, 3) := by decide +kernel
theorem dX12_push0_15 : decode cX12_push0 15 = .ok (.iconst 0, 1) := by decide +kernel
theorem dX12_push0_16 : decode cX12_push0 16 = .ok (.iaload, 1) := by decide +kernel
theorem dX12_push0_17 : decode cX12_push0 17 = .ok (.irem, 1) := by decide +kernel
theorem dX12_push0_18 : decode cX12_push0 18 = .ok (.putfield 211, 3) := by decide +kernel
theorem dX12_push0_21 : decode cX12_push0 21 = .ok (.goto 20, 3) := by decide +kernel
theorem dX12_push0_24 : decode cX12_push0 24 = .ok (.aload_n 0, 1) := by decide +kernel
theorem dX12_push0_25 : decode cX12_push0 25 = .ok (.aload_n 0, 1) := by decide +kernel
theorem dX12_push0_26 : decode cX12_push0 26 = .ok (.getfield 214, 3) := by decide +kernel
theorem dX12_push0_29 : decode cX12_push0 29 = .ok (.iload_n 2, 1) := by decide +kernel
theorem dX12_push0_30 : decode cX12_push0 30 = .ok (.iadd, 1) := by decide +kernel
theorem dX12_push0_31 : decode cX12_push0 31 = .ok (.aload_n 0, 1) := by decide +kernel
theorem dX12_push0_32 : decode cX12_push0 32 = .ok (.getfield 9, 3) := by decide +kernel
theorem dX12_push0_35 : decode cX12_push0 35 = .ok (.iconst 1, 1) := by decide +kernel
theorem dX12_push0_36 : decode cX12_push0 36 = .ok (.iaload, 1) := by decide +kernel
theorem dX12_push0_37 : decode cX12_push0 37 = .ok (.irem, 1) := by decide +kernel
theorem dX12_push0_38 : decode cX12_push0 38 = .ok (.putfield 214, 3) := by decide +kernel
theorem dX12_push0_41 : decode cX12_push0 41 = .ok (.return_, 1) := by decide +kernel
theorem dX12_pushes_0 : decode cX12_pushes 0 = .ok (.aload_n 0, 1) := by decide +kernel
theorem dX12_pushes_1 : decode cX12_pushes 1 = .ok (.invokevirtual 74, 3) := by decide +kernel

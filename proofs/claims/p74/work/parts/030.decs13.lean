theorem dX12_match_9 : decode cX12_match 9 = .ok (.ireturn, 1) := by decide +kernel
theorem dX12_match_10 : decode cX12_match 10 = .ok (.aload_n 0, 1) := by decide +kernel
theorem dX12_match_11 : decode cX12_match 11 = .ok (.iconst 0, 1) := by decide +kernel
theorem dX12_match_12 : decode cX12_match 12 = .ok (.invokevirtual 302, 3) := by decide +kernel
theorem dX12_match_15 : decode cX12_match 15 = .ok (.aload_n 0, 1) := by decide +kernel
theorem dX12_match_16 : decode cX12_match 16 = .ok (.iconst 0, 1) := by decide +kernel
theorem dX12_match_17 : decode cX12_match 17 = .ok (.iconst 0, 1) := by decide +kernel
theorem dX12_match_18 : decode cX12_match 18 = .ok (.invokevirtual 296, 3) := by decide +kernel
theorem dX12_match_21 : decode cX12_match 21 = .ok (.ireturn, 1) := by decide +kernel
theorem dX12_matched_0 : decode cX12_matched 0 = .ok (.aload_n 0, 1) := by decide +kernel
theorem dX12_matched_1 : decode cX12_matched 1 = .ok (.iload_n 1, 1) := by decide +kernel
theorem dX12_matched_2 : decode cX12_matched 2 = .ok (.i2l, 1) := by decide +kernel
theorem dX12_matched_3 : decode cX12_matched 3 = .ok (.invokevirtual 198, 3) := by decide +kernel
theorem dX12_matched_6 : decode cX12_matched 6 = .ok (.ifCond .ne 6, 3) := by decide +kernel
theorem dX12_matched_9 : decode cX12_matched 9 = .ok (.bipush (-2), 2) := by decide +kernel
theorem dX12_matched_11 : decode cX12_matched 11 = .ok (.ireturn, 1) := by decide +kernel
theorem dX12_matched_12 : decode cX12_matched 12 = .ok (.aload_n 0, 1) := by decide +kernel
theorem dX12_matched_13 : decode cX12_matched 13 = .ok (.invokevirtual 305, 3) := by decide +kernel
theorem dX12_matched_16 : decode cX12_matched 16 = .ok (.aload_n 0, 1) := by decide +kernel
theorem dX12_matched_17 : decode cX12_matched 17 = .ok (.getfield 40, 3) := by decide +kernel
theorem dX12_matched_20 : decode cX12_matched 20 = .ok (.iload_n 1, 1) := by decide +kernel
theorem dX12_matched_21 : decode cX12_matched 21 = .ok (.iaload, 1) := by decide +kernel
theorem dX12_matched_22 : decode cX12_matched 22 = .ok (.ireturn, 1) := by decide +kernel
theorem dX12_mean_0 : decode cX12_mean 0 = .ok (.aload_n 0, 1) := by decide +kernel
theorem dX12_mean_1 : decode cX12_mean 1 = .ok (.iload_n 1, 1) := by decide +kernel
theorem dX12_mean_2 : decode cX12_mean 2 = .ok (.iload_n 2, 1) := by decide +kernel
theorem dX12_mean_3 : decode cX12_mean 3 = .ok (.invokevirtual 290, 3) := by decide +kernel
theorem dX12_mean_6 : decode cX12_mean 6 = .ok (.ifCond .eq 13, 3) := by decide +kernel
theorem dX12_mean_9 : decode cX12_mean 9 = .ok (.iload_n 3, 1) := by decide +kernel
theorem dX12_mean_10 : decode cX12_mean 10 = .ok (.i2l, 1) := by decide +kernel
theorem dX12_mean_11 : decode cX12_mean 11 = .ok (.lconst 0, 1) := by decide +kernel
theorem dX12_mean_12 : decode cX12_mean 12 = .ok (.lconst 1, 1) := by decide +kernel
theorem dX12_mean_13 : decode cX12_mean 13 = .ok (.invokestatic 70, 3) := by decide +kernel
theorem dX12_mean_16 : decode cX12_mean 16 = .ok (.ifCond .ne 7, 3) := by decide +kernel
theorem dX12_mean_19 : decode cX12_mean 19 = .ok (.ldc2_w 409, 3) := by decide +kernel
theorem dX12_mean_22 : decode cX12_mean 22 = .ok (.lreturn, 1) := by decide +kernel
theorem dX12_mean_23 : decode cX12_mean 23 = .ok (.aload_n 0, 1) := by decide +kernel
theorem dX12_mean_24 : decode cX12_mean 24 = .ok (.iload_n 1, 1) := by decide +kernel
theorem dX12_mean_25 : decode cX12_mean 25 = .ok (.iload_n 2, 1) := by decide +kernel
theorem dX12_mean_26 : decode cX12_mean 26 = .ok (.invokevirtual 293, 3) := by decide +kernel
theorem dX12_mean_29 : decode cX12_mean 29 = .ok (.ifCond .ne 7, 3) := by decide +kernel
theorem dX12_mean_32 : decode cX12_mean 32 = .ok (.ldc2_w 411, 3) := by decide +kernel
theorem dX12_mean_35 : decode cX12_mean 35 = .ok (.lreturn, 1) := by decide +kernel
theorem dX12_mean_36 : decode cX12_mean 36 = .ok (.bipush 15, 2) := by decide +kernel
theorem dX12_mean_38 : decode cX12_mean 38 = .ok (.aload_n 0, 1) := by decide +kernel
theorem dX12_mean_39 : decode cX12_mean 39 = .ok (.iload_n 1, 1) := by decide +kernel
theorem dX12_mean_40 : decode cX12_mean 40 = .ok (.iload_n 2, 1) := by decide +kernel
theorem dX12_mean_41 : decode cX12_mean 41 = .ok (.invokevirtual 239, 3) := by decide +kernel
theorem dX12_mean_44 : decode cX12_mean 44 = .ok (.invokestatic 109, 3) := by decide +kernel
theorem dX12_mean_47 : decode cX12_mean 47 = .ok (.istore 4, 2) := by decide +kernel
theorem dX12_mean_49 : decode cX12_mean 49 = .ok (.lconst 0, 1) := by decide +kernel
theorem dX12_mean_50 : decode cX12_mean 50 = .ok (.lstore 5, 2) := by decide +kernel
theorem dX12_mean_52 : decode cX12_mean 52 = .ok (.iconst 1, 1) := by decide +kernel
theorem dX12_mean_53 : decode cX12_mean 53 = .ok (.istore 7, 2) := by decide +kernel
theorem dX12_mean_55 : decode cX12_mean 55 = .ok (.iload 7, 2) := by decide +kernel
theorem dX12_mean_57 : decode cX12_mean 57 = .ok (.iload 4, 2) := by decide +kernel
theorem dX12_mean_59 : decode cX12_mean 59 = .ok (.if_icmp .gt 41, 3) := by decide +kernel
theorem dX12_mean_62 : decode cX12_mean 62 = .ok (.lload 5, 2) := by decide +kernel
theorem dX12_mean_64 : decode cX12_mean 64 = .ok (.bipush 10, 2) := by decide +kernel
theorem dX12_mean_66 : decode cX12_mean 66 = .ok (.aload_n 0, 1) := by decide +kernel
theorem dX12_mean_67 : decode cX12_mean 67 = .ok (.getfield 9, 3) := by decide +kernel
theorem dX12_mean_70 : decode cX12_mean 70 = .ok (.iconst 2, 1) := by decide +kernel
theorem dX12_mean_71 : decode cX12_mean 71 = .ok (.iaload, 1) := by decide +kernel
theorem dX12_mean_72 : decode cX12_mean 72 = .ok (.isub, 1) := by decide +kernel
theorem dX12_mean_73 : decode cX12_mean 73 = .ok (.i2l, 1) := by decide +kernel
theorem dX12_mean_74 : decode cX12_mean 74 = .ok (.iload 7, 2) := by decide +kernel
theorem dX12_mean_76 : decode cX12_mean 76 = .ok (.invokestatic 413, 3) := by decide +kernel
theorem dX12_mean_79 : decode cX12_mean 79 = .ok (.ldc2_w 417, 3) := by decide +kernel
theorem dX12_mean_82 : decode cX12_mean 82 = .ok (.iload 4, 2) := by decide +kernel
theorem dX12_mean_84 : decode cX12_mean 84 = .ok (.iload 7, 2) := by decide +kernel
theorem dX12_mean_86 : decode cX12_mean 86 = .ok (.isub, 1) := by decide +kernel
theorem dX12_mean_87 : decode cX12_mean 87 = .ok (.invokestatic 413, 3) := by decide +kernel
theorem dX12_mean_90 : decode cX12_mean 90 = .ok (.lmul, 1) := by decide +kernel
theorem dX12_mean_91 : decode cX12_mean 91 = .ok (.ladd, 1) := by decide +kernel
theorem dX12_mean_92 : decode cX12_mean 92 = .ok (.lstore 5, 2) := by decide +kernel
theorem dX12_mean_94 : decode cX12_mean 94 = .ok (.iinc 7 1, 3) := by decide +kernel
theorem dX12_mean_97 : decode cX12_mean 97 = .ok (.goto (-42), 3) := by decide +kernel
theorem dX12_mean_100 : decode cX12_mean 100 = .ok (.lload 5, 2) := by decide +kernel
theorem dX12_mean_102 : decode cX12_mean 102 = .ok (.ldc2_w 417, 3) := by decide +kernel
theorem dX12_mean_105 : decode cX12_mean 105 = .ok (.iload 4, 2) := by decide +kernel
theorem dX12_mean_107 : decode cX12_mean 107 = .ok (.invokestatic 413, 3) := by decide +kernel
theorem dX12_mean_110 : decode cX12_mean 110 = .ok (.iload_n 3, 1) := by decide +kernel
theorem dX12_mean_111 : decode cX12_mean 111 = .ok (.invokestatic 419, 3) := by decide +kernel
theorem dX12_mean_114 : decode cX12_mean 114 = .ok (.lreturn, 1) := by decide +kernel
theorem dX12_meet_0 : decode cX12_meet 0 = .ok (.aload_n 0, 1) := by decide +kernel
theorem dX12_meet_1 : decode cX12_meet 1 = .ok (.invokevirtual 74, 3) := by decide +kernel
theorem dX12_meet_4 : decode cX12_meet 4 = .ok (.ifCond .eq 15, 3) := by decide +kernel
theorem dX12_meet_7 : decode cX12_meet 7 = .ok (.iload_n 1, 1) := by decide +kernel
theorem dX12_meet_8 : decode cX12_meet 8 = .ok (.i2l, 1) := by decide +kernel
theorem dX12_meet_9 : decode cX12_meet 9 = .ok (.lconst 0, 1) := by decide +kernel
theorem dX12_meet_10 : decode cX12_meet 10 = .ok (.ldc2_w 277, 3) := by decide +kernel
theorem dX12_meet_13 : decode cX12_meet 13 = .ok (.invokestatic 70, 3) := by decide +kernel
theorem dX12_meet_16 : decode cX12_meet 16 = .ok (.ifCond .ne 6, 3) := by decide +kernel
theorem dX12_meet_19 : decode cX12_meet 19 = .ok (.bipush (-2), 2) := by decide +kernel
theorem dX12_meet_21 : decode cX12_meet 21 = .ok (.ireturn, 1) := by decide +kernel
theorem dX12_meet_22 : decode cX12_meet 22 = .ok (.aload_n 0, 1) := by decide +kernel
theorem dX12_meet_23 : decode cX12_meet 23 = .ok (.invokevirtual 259, 3) := by decide +kernel
theorem dX12_meet_26 : decode cX12_meet 26 = .ok (.aload_n 0, 1) := by decide +kernel
theorem dX12_meet_27 : decode cX12_meet 27 = .ok (.iload_n 1, 1) := by decide +kernel
theorem dX12_meet_28 : decode cX12_meet 28 = .ok (.invokevirtual 279, 3) := by decide +kernel
theorem dX12_meet_31 : decode cX12_meet 31 = .ok (.ireturn, 1) := by decide +kernel
theorem dX12_meetOf_0 : decode cX12_meetOf 0 = .ok (.aload_n 0, 1) := by decide +kernel
theorem dX12_meetOf_1 : decode cX12_meetOf 1 = .ok (.iconst 0, 1) := by decide +kernel
theorem dX12_meetOf_2 : decode cX12_meetOf 2 = .ok (.invokevirtual 236, 3) := by decide +kernel
theorem dX12_meetOf_5 : decode cX12_meetOf 5 = .ok (.istore_n 2, 1) := by decide +kernel
theorem dX12_meetOf_6 : decode cX12_meetOf 6 = .ok (.iconst 0, 1) := by decide +kernel
theorem dX12_meetOf_7 : decode cX12_meetOf 7 = .ok (.istore_n 3, 1) := by decide +kernel
theorem dX12_meetOf_8 : decode cX12_meetOf 8 = .ok (.iload_n 3, 1) := by decide +kernel
theorem dX12_meetOf_9 : decode cX12_meetOf 9 = .ok (.iload_n 1, 1) := by decide +kernel
theorem dX12_meetOf_10 : decode cX12_meetOf 10 = .ok (.if_icmp .ge 22, 3) := by decide +kernel
theorem dX12_meetOf_13 : decode cX12_meetOf 13 = .ok (.iload_n 2, 1) := by decide +kernel
theorem dX12_meetOf_14 : decode cX12_meetOf 14 = .ok (.iconst (-1), 1) := by decide +kernel
theorem dX12_meetOf_15 : decode cX12_meetOf 15 = .ok (.if_icmp .eq 17, 3) := by decide +kernel
theorem dX12_meetOf_18 : decode cX12_meetOf 18 = .ok (.aload_n 0, 1) := by decide +kernel
theorem dX12_meetOf_19 : decode cX12_meetOf 19 = .ok (.iload_n 2, 1) := by decide +kernel
theorem dX12_meetOf_20 : decode cX12_meetOf 20 = .ok (.iconst 1, 1) := by decide +kernel
theorem dX12_meetOf_21 : decode cX12_meetOf 21 = .ok (.iadd, 1) := by decide +kernel
theorem dX12_meetOf_22 : decode cX12_meetOf 22 = .ok (.invokevirtual 236, 3) := by decide +kernel
theorem dX12_meetOf_25 : decode cX12_meetOf 25 = .ok (.istore_n 2, 1) := by decide +kernel
theorem dX12_meetOf_26 : decode cX12_meetOf 26 = .ok (.iinc 3 1, 3) := by decide +kernel
theorem dX12_meetOf_29 : decode cX12_meetOf 29 = .ok (.goto (-21), 3) := by decide +kernel
theorem dX12_meetOf_32 : decode cX12_meetOf 32 = .ok (.iload_n 2, 1) := by decide +kernel
theorem dX12_meetOf_33 : decode cX12_meetOf 33 = .ok (.ireturn, 1) := by decide +kernel
theorem dX12_meetings_0 : decode cX12_meetings 0 = .ok (.aload_n 0, 1) := by decide +kernel
theorem dX12_meetings_1 : decode cX12_meetings 1 = .ok (.invokevirtual 74, 3) := by decide +kernel
theorem dX12_meetings_4 : decode cX12_meetings 4 = .ok (.ifCond .eq 15, 3) := by decide +kernel
theorem dX12_meetings_7 : decode cX12_meetings 7 = .ok (.iload_n 1, 1) := by decide +kernel
theorem dX12_meetings_8 : decode cX12_meetings 8 = .ok (.i2l, 1) := by decide +kernel
theorem dX12_meetings_9 : decode cX12_meetings 9 = .ok (.lconst 0, 1) := by decide +kernel
theorem dX12_meetings_10 : decode cX12_meetings 10 = .ok (.ldc2_w 266, 3) := by decide +kernel
theorem dX12_meetings_13 : decode cX12_meetings 13 = .ok (.invokestatic 70, 3) := by decide +kernel
theorem dX12_meetings_16 : decode cX12_meetings 16 = .ok (.ifCond .ne 6, 3) := by decide +kernel
theorem dX12_meetings_19 : decode cX12_meetings 19 = .ok (.bipush (-2), 2) := by decide +kernel
theorem dX12_meetings_21 : decode cX12_meetings 21 = .ok (.ireturn, 1) := by decide +kernel
theorem dX12_meetings_22 : decode cX12_meetings 22 = .ok (.aload_n 0, 1) := by decide +kernel
theorem dX12_meetings_23 : decode cX12_meetings 23 = .ok (.invokevirtual 259, 3) := by decide +kernel
theorem dX12_meetings_26 : decode cX12_meetings 26 = .ok (.aload_n 0, 1) := by decide +kernel
theorem dX12_meetings_27 : decode cX12_meetings 27 = .ok (.iload_n 1, 1) := by decide +kernel
theorem dX12_meetings_28 : decode cX12_meetings 28 = .ok (.invokevirtual 268, 3) := by decide +kernel
theorem dX12_meetings_31 : decode cX12_meetings 31 = .ok (.ireturn, 1) := by decide +kernel
theorem dX12_must_0 : decode cX12_must 0 = .ok (.aload_n 0, 1) := by decide +kernel
theorem dX12_must_1 : decode cX12_must 1 = .ok (.iload_n 1, 1) := by decide +kernel
theorem dX12_must_2 : decode cX12_must 2 = .ok (.invokevirtual 256, 3) := by decide +kernel
theorem dX12_must_5 : decode cX12_must 5 = .ok (.ifCond .eq 14, 3) := by decide +kernel
theorem dX12_must_8 : decode cX12_must 8 = .ok (.aload_n 0, 1) := by decide +kernel
theorem dX12_must_9 : decode cX12_must 9 = .ok (.iload_n 1, 1) := by decide +kernel
theorem dX12_must_10 : decode cX12_must 10 = .ok (.invokevirtual 373, 3) := by decide +kernel
theorem dX12_must_13 : decode cX12_must 13 = .ok (.invokestatic 355, 3) := by decide +kernel
theorem dX12_must_16 : decode cX12_must 16 = .ok (.goto 5, 3) := by decide +kernel
theorem dX12_must_19 : decode cX12_must 19 = .ok (.bipush (-2), 2) := by decide +kernel
theorem dX12_must_21 : decode cX12_must 21 = .ok (.ireturn, 1) := by decide +kernel
theorem dX12_mustOf_0 : decode cX12_mustOf 0 = .ok (.aload_n 0, 1) := by decide +kernel
theorem dX12_mustOf_1 : decode cX12_mustOf 1 = .ok (.invokevirtual 349, 3) := by decide +kernel
theorem dX12_mustOf_4 : decode cX12_mustOf 4 = .ok (.istore_n 2, 1) := by decide +kernel
theorem dX12_mustOf_5 : decode cX12_mustOf 5 = .ok (.aload_n 0, 1) := by decide +kernel
theorem dX12_mustOf_6 : decode cX12_mustOf 6 = .ok (.invokevirtual 349, 3) := by decide +kernel
theorem dX12_mustOf_9 : decode cX12_mustOf 9 = .ok (.istore_n 3, 1) := by decide +kernel
theorem dX12_mustOf_10 : decode cX12_mustOf 10 = .ok (.iload_n 3, 1) := by decide +kernel
theorem dX12_mustOf_11 : decode cX12_mustOf 11 = .ok (.ifCond .lt 38, 3) := by decide +kernel
theorem dX12_mustOf_14 : decode cX12_mustOf 14 = .ok (.aload_n 0, 1) := by decide +kernel
theorem dX12_mustOf_15 : decode cX12_mustOf 15 = .ok (.aload_n 0, 1) := by decide +kernel
theorem dX12_mustOf_16 : decode cX12_mustOf 16 = .ok (.invokevirtual 349, 3) := by decide +kernel
theorem dX12_mustOf_19 : decode cX12_mustOf 19 = .ok (.iload_n 3, 1) := by decide +kernel
theorem dX12_mustOf_20 : decode cX12_mustOf 20 = .ok (.iconst (-1), 1) := by decide +kernel
theorem dX12_mustOf_21 : decode cX12_mustOf 21 = .ok (.ixor, 1) := by decide +kernel
theorem dX12_mustOf_22 : decode cX12_mustOf 22 = .ok (.iand, 1) := by decide +kernel
theorem dX12_mustOf_23 : decode cX12_mustOf 23 = .ok (.iload_n 1, 1) := by decide +kernel
theorem dX12_mustOf_24 : decode cX12_mustOf 24 = .ok (.invokevirtual 361, 3) := by decide +kernel
theorem dX12_mustOf_27 : decode cX12_mustOf 27 = .ok (.ifCond .lt 16, 3) := by decide +kernel
theorem dX12_mustOf_30 : decode cX12_mustOf 30 = .ok (.iload_n 3, 1) := by decide +kernel
theorem dX12_mustOf_31 : decode cX12_mustOf 31 = .ok (.invokestatic 355, 3) := by decide +kernel
theorem dX12_mustOf_34 : decode cX12_mustOf 34 = .ok (.iload_n 2, 1) := by decide +kernel
theorem dX12_mustOf_35 : decode cX12_mustOf 35 = .ok (.invokestatic 355, 3) := by decide +kernel
theorem dX12_mustOf_38 : decode cX12_mustOf 38 = .ok (.if_icmp .gt 5, 3) := by decide +kernel
theorem dX12_mustOf_41 : decode cX12_mustOf 41 = .ok (.iload_n 3, 1) := by decide +kernel
theorem dX12_mustOf_42 : decode cX12_mustOf 42 = .ok (.istore_n 2, 1) := by decide +kernel
theorem dX12_mustOf_43 : decode cX12_mustOf 43 = .ok (.iinc 3 (-1), 3) := by decide +kernel
theorem dX12_mustOf_46 : decode cX12_mustOf 46 = .ok (.goto (-36), 3) := by decide +kernel
theorem dX12_mustOf_49 : decode cX12_mustOf 49 = .ok (.iload_n 2, 1) := by decide +kernel
theorem dX12_mustOf_50 : decode cX12_mustOf 50 = .ok (.ireturn, 1) := by decide +kernel
theorem dX12_musts_0 : decode cX12_musts 0 = .ok (.aload_n 0, 1) := by decide +kernel
theorem dX12_musts_1 : decode cX12_musts 1 = .ok (.iload_n 1, 1) := by decide +kernel
theorem dX12_musts_2 : decode cX12_musts 2 = .ok (.invokevirtual 256, 3) := by decide +kernel
theorem dX12_musts_5 : decode cX12_musts 5 = .ok (.ifCond .eq 11, 3) := by decide +kernel
theorem dX12_musts_8 : decode cX12_musts 8 = .ok (.aload_n 0, 1) := by decide +kernel
theorem dX12_musts_9 : decode cX12_musts 9 = .ok (.iload_n 1, 1) := by decide +kernel
theorem dX12_musts_10 : decode cX12_musts 10 = .ok (.invokevirtual 373, 3) := by decide +kernel
theorem dX12_musts_13 : decode cX12_musts 13 = .ok (.goto 5, 3) := by decide +kernel
theorem dX12_musts_16 : decode cX12_musts 16 = .ok (.bipush (-2), 2) := by decide +kernel
theorem dX12_musts_18 : decode cX12_musts 18 = .ok (.ireturn, 1) := by decide +kernel
theorem dX12_needs_0 : decode cX12_needs 0 = .ok (.aload_n 0, 1) := by decide +kernel
theorem dX12_needs_1 : decode cX12_needs 1 = .ok (.aload_n 1, 1) := by decide +kernel
theorem dX12_needs_2 : decode cX12_needs 2 = .ok (.invokevirtual 138, 3) := by decide +kernel
theorem dX12_needs_5 : decode cX12_needs 5 = .ok (.ifCond .ne 8, 3) := by decide +kernel
theorem dX12_needs_8 : decode cX12_needs 8 = .ok (.aload_n 0, 1) := by decide +kernel
theorem dX12_needs_9 : decode cX12_needs 9 = .ok (.iconst 1, 1) := by decide +kernel
theorem dX12_needs_10 : decode cX12_needs 10 = .ok (.invokevirtual 141, 3) := by decide +kernel
theorem dX12_needs_13 : decode cX12_needs 13 = .ok (.return_, 1) := by decide +kernel
theorem dX12_needs__0 : decode cX12_needs_ 0 = .ok (.aload_n 0, 1) := by decide +kernel
theorem dX12_needs__1 : decode cX12_needs_ 1 = .ok (.invokevirtual 74, 3) := by decide +kernel
theorem dX12_needs__4 : decode cX12_needs_ 4 = .ok (.ifCond .eq 15, 3) := by decide +kernel
theorem dX12_needs__7 : decode cX12_needs_ 7 = .ok (.iload_n 1, 1) := by decide +kernel
theorem dX12_needs__8 : decode cX12_needs_ 8 = .ok (.i2l, 1) := by decide +kernel
theorem dX12_needs__9 : decode cX12_needs_ 9 = .ok (.lconst 1, 1) := by decide +kernel
theorem dX12_needs__10 : decode cX12_needs_ 10 = .ok (.ldc2_w 347, 3) := by decide +kernel
theorem dX12_needs__13 : decode cX12_needs_ 13 = .ok (.invokestatic 70, 3) := by decide +kernel
theorem dX12_needs__16 : decode cX12_needs_ 16 = .ok (.ifCond .ne 6, 3) := by decide +kernel
theorem dX12_needs__19 : decode cX12_needs_ 19 = .ok (.bipush (-2), 2) := by decide +kernel
theorem dX12_needs__21 : decode cX12_needs_ 21 = .ok (.ireturn, 1) := by decide +kernel
theorem dX12_needs__22 : decode cX12_needs_ 22 = .ok (.aload_n 0, 1) := by decide +kernel
theorem dX12_needs__23 : decode cX12_needs_ 23 = .ok (.getfield 9, 3) := by decide +kernel
theorem dX12_needs__26 : decode cX12_needs_ 26 = .ok (.iconst 5, 1) := by decide +kernel
theorem dX12_needs__27 : decode cX12_needs_ 27 = .ok (.iaload, 1) := by decide +kernel
theorem dX12_needs__28 : decode cX12_needs_ 28 = .ok (.ifCond .ne 5, 3) := by decide +kernel
theorem dX12_needs__31 : decode cX12_needs_ 31 = .ok (.iconst 0, 1) := by decide +kernel
theorem dX12_needs__32 : decode cX12_needs_ 32 = .ok (.ireturn, 1) := by decide +kernel
theorem dX12_needs__33 : decode cX12_needs_ 33 = .ok (.iconst 0, 1) := by decide +kernel
theorem dX12_needs__34 : decode cX12_needs_ 34 = .ok (.istore_n 2, 1) := by decide +kernel
theorem dX12_needs__35 : decode cX12_needs_ 35 = .ok (.sipush 250, 3) := by decide +kernel
theorem dX12_needs__38 : decode cX12_needs_ 38 = .ok (.istore_n 3, 1) := by decide +kernel
theorem dX12_needs__39 : decode cX12_needs_ 39 = .ok (.iload_n 3, 1) := by decide +kernel
theorem dX12_needs__40 : decode cX12_needs_ 40 = .ok (.iload_n 2, 1) := by decide +kernel
theorem dX12_needs__41 : decode cX12_needs_ 41 = .ok (.isub, 1) := by decide +kernel
theorem dX12_needs__42 : decode cX12_needs_ 42 = .ok (.iconst 1, 1) := by decide +kernel
theorem dX12_needs__43 : decode cX12_needs_ 43 = .ok (.if_icmp .le 42, 3) := by decide +kernel
theorem dX12_needs__46 : decode cX12_needs_ 46 = .ok (.iload_n 2, 1) := by decide +kernel
theorem dX12_needs__47 : decode cX12_needs_ 47 = .ok (.iload_n 3, 1) := by decide +kernel
theorem dX12_needs__48 : decode cX12_needs_ 48 = .ok (.iadd, 1) := by decide +kernel
theorem dX12_needs__49 : decode cX12_needs_ 49 = .ok (.iconst 2, 1) := by decide +kernel
theorem dX12_needs__50 : decode cX12_needs_ 50 = .ok (.idiv, 1) := by decide +kernel
theorem dX12_needs__51 : decode cX12_needs_ 51 = .ok (.istore 4, 2) := by decide +kernel
theorem dX12_needs__53 : decode cX12_needs_ 53 = .ok (.aload_n 0, 1) := by decide +kernel
theorem dX12_needs__54 : decode cX12_needs_ 54 = .ok (.iload 4, 2) := by decide +kernel
theorem dX12_needs__56 : decode cX12_needs_ 56 = .ok (.invokevirtual 344, 3) := by decide +kernel
theorem dX12_needs__59 : decode cX12_needs_ 59 = .ok (.istore 5, 2) := by decide +kernel
theorem dX12_needs__61 : decode cX12_needs_ 61 = .ok (.iload 5, 2) := by decide +kernel
theorem dX12_needs__63 : decode cX12_needs_ 63 = .ok (.iconst (-1), 1) := by decide +kernel
theorem dX12_needs__64 : decode cX12_needs_ 64 = .ok (.if_icmp .eq 15, 3) := by decide +kernel
theorem dX12_needs__67 : decode cX12_needs_ 67 = .ok (.iload 5, 2) := by decide +kernel
theorem dX12_needs__69 : decode cX12_needs_ 69 = .ok (.iload_n 1, 1) := by decide +kernel
theorem dX12_needs__70 : decode cX12_needs_ 70 = .ok (.if_icmp .gt 9, 3) := by decide +kernel
theorem dX12_needs__73 : decode cX12_needs_ 73 = .ok (.iload 4, 2) := by decide +kernel
theorem dX12_needs__75 : decode cX12_needs_ 75 = .ok (.istore_n 3, 1) := by decide +kernel
theorem dX12_needs__76 : decode cX12_needs_ 76 = .ok (.goto 6, 3) := by decide +kernel
theorem dX12_needs__79 : decode cX12_needs_ 79 = .ok (.iload 4, 2) := by decide +kernel
theorem dX12_needs__81 : decode cX12_needs_ 81 = .ok (.istore_n 2, 1) := by decide +kernel
theorem dX12_needs__82 : decode cX12_needs_ 82 = .ok (.goto (-43), 3) := by decide +kernel
theorem dX12_needs__85 : decode cX12_needs_ 85 = .ok (.iload_n 3, 1) := by decide +kernel
theorem dX12_needs__86 : decode cX12_needs_ 86 = .ok (.ireturn, 1) := by decide +kernel
theorem dX12_next_0 : decode cX12_next 0 = .ok (.aload_n 0, 1) := by decide +kernel
theorem dX12_next_1 : decode cX12_next 1 = .ok (.invokevirtual 74, 3) := by decide +kernel
theorem dX12_next_4 : decode cX12_next 4 = .ok (.ifCond .eq 15, 3) := by decide +kernel
theorem dX12_next_7 : decode cX12_next 7 = .ok (.iload_n 1, 1) := by decide +kernel
theorem dX12_next_8 : decode cX12_next 8 = .ok (.i2l, 1) := by decide +kernel
theorem dX12_next_9 : decode cX12_next 9 = .ok (.lconst 0, 1) := by decide +kernel
theorem dX12_next_10 : decode cX12_next 10 = .ok (.ldc2_w 264, 3) := by decide +kernel
theorem dX12_next_13 : decode cX12_next 13 = .ok (.invokestatic 70, 3) := by decide +kernel
theorem dX12_next_16 : decode cX12_next 16 = .ok (.ifCond .ne 6, 3) := by decide +kernel
theorem dX12_next_19 : decode cX12_next 19 = .ok (.bipush (-2), 2) := by decide +kernel
theorem dX12_next_21 : decode cX12_next 21 = .ok (.ireturn, 1) := by decide +kernel
theorem dX12_next_22 : decode cX12_next 22 = .ok (.aload_n 0, 1) := by decide +kernel
theorem dX12_next_23 : decode cX12_next 23 = .ok (.invokevirtual 259, 3) := by decide +kernel
theorem dX12_next_26 : decode cX12_next 26 = .ok (.aload_n 0, 1) := by decide +kernel
theorem dX12_next_27 : decode cX12_next 27 = .ok (.iload_n 1, 1) := by decide +kernel
theorem dX12_next_28 : decode cX12_next 28 = .ok (.invokevirtual 236, 3) := by decide +kernel
theorem dX12_next_31 : decode cX12_next 31 = .ok (.ireturn, 1) := by decide +kernel
theorem dX12_nextFrom_0 : decode cX12_nextFrom 0 = .ok (.iload_n 1, 1) := by decide +kernel
theorem dX12_nextFrom_1 : decode cX12_nextFrom 1 = .ok (.istore_n 2, 1) := by decide +kernel
theorem dX12_nextFrom_2 : decode cX12_nextFrom 2 = .ok (.iload_n 2, 1) := by decide +kernel
theorem dX12_nextFrom_3 : decode cX12_nextFrom 3 = .ok (.sipush 10000, 3) := by decide +kernel
theorem dX12_nextFrom_6 : decode cX12_nextFrom 6 = .ok (.if_icmp .gt 19, 3) := by decide +kernel
theorem dX12_nextFrom_9 : decode cX12_nextFrom 9 = .ok (.aload_n 0, 1) := by decide +kernel
theorem dX12_nextFrom_10 : decode cX12_nextFrom 10 = .ok (.iload_n 2, 1) := by decide +kernel
theorem dX12_nextFrom_11 : decode cX12_nextFrom 11 = .ok (.invokevirtual 253, 3) := by decide +kernel
theorem dX12_nextFrom_14 : decode cX12_nextFrom 14 = .ok (.ifCond .eq 5, 3) := by decide +kernel
theorem dX12_nextFrom_17 : decode cX12_nextFrom 17 = .ok (.iload_n 2, 1) := by decide +kernel
theorem dX12_nextFrom_18 : decode cX12_nextFrom 18 = .ok (.ireturn, 1) := by decide +kernel
theorem dX12_nextFrom_19 : decode cX12_nextFrom 19 = .ok (.iinc 2 1, 3) := by decide +kernel
theorem dX12_nextFrom_22 : decode cX12_nextFrom 22 = .ok (.goto (-20), 3) := by decide +kernel
theorem dX12_nextFrom_25 : decode cX12_nextFrom 25 = .ok (.iconst (-1), 1) := by decide +kernel
theorem dX12_nextFrom_26 : decode cX12_nextFrom 26 = .ok (.ireturn, 1) := by decide +kernel
theorem dX12_nextOrder_0 : decode cX12_nextOrder 0 = .ok (.aload_n 0, 1) := by decide +kernel
theorem dX12_nextOrder_1 : decode cX12_nextOrder 1 = .ok (.getfield 320, 3) := by decide +kernel
theorem dX12_nextOrder_4 : decode cX12_nextOrder 4 = .ok (.iconst 2, 1) := by decide +kernel
theorem dX12_nextOrder_5 : decode cX12_nextOrder 5 = .ok (.isub, 1) := by decide +kernel
theorem dX12_nextOrder_6 : decode cX12_nextOrder 6 = .ok (.istore_n 1, 1) := by decide +kernel
theorem dX12_nextOrder_7 : decode cX12_nextOrder 7 = .ok (.iload_n 1, 1) := by decide +kernel
theorem dX12_nextOrder_8 : decode cX12_nextOrder 8 = .ok (.ifCond .lt 26, 3) := by decide +kernel
theorem dX12_nextOrder_11 : decode cX12_nextOrder 11 = .ok (.aload_n 0, 1) := by decide +kernel
theorem dX12_nextOrder_12 : decode cX12_nextOrder 12 = .ok (.getfield 43, 3) := by decide +kernel
theorem dX12_nextOrder_15 : decode cX12_nextOrder 15 = .ok (.iload_n 1, 1) := by decide +kernel
theorem dX12_nextOrder_16 : decode cX12_nextOrder 16 = .ok (.iaload, 1) := by decide +kernel
theorem dX12_nextOrder_17 : decode cX12_nextOrder 17 = .ok (.aload_n 0, 1) := by decide +kernel
theorem dX12_nextOrder_18 : decode cX12_nextOrder 18 = .ok (.getfield 43, 3) := by decide +kernel
theorem dX12_nextOrder_21 : decode cX12_nextOrder 21 = .ok (.iload_n 1, 1) := by decide +kernel
theorem dX12_nextOrder_22 : decode cX12_nextOrder 22 = .ok (.iconst 1, 1) := by decide +kernel
theorem dX12_nextOrder_23 : decode cX12_nextOrder 23 = .ok (.iadd, 1) := by decide +kernel
theorem dX12_nextOrder_24 : decode cX12_nextOrder 24 = .ok (.iaload, 1) := by decide +kernel
theorem dX12_nextOrder_25 : decode cX12_nextOrder 25 = .ok (.if_icmp .le 9, 3) := by decide +kernel
theorem dX12_nextOrder_28 : decode cX12_nextOrder 28 = .ok (.iinc 1 (-1), 3) := by decide +kernel
theorem dX12_nextOrder_31 : decode cX12_nextOrder 31 = .ok (.goto (-24), 3) := by decide +kernel
theorem dX12_nextOrder_34 : decode cX12_nextOrder 34 = .ok (.iload_n 1, 1) := by decide +kernel
theorem dX12_nextOrder_35 : decode cX12_nextOrder 35 = .ok (.ifCond .ge 5, 3) := by decide +kernel
theorem dX12_nextOrder_38 : decode cX12_nextOrder 38 = .ok (.iconst 0, 1) := by decide +kernel
theorem dX12_nextOrder_39 : decode cX12_nextOrder 39 = .ok (.ireturn, 1) := by decide +kernel
theorem dX12_nextOrder_40 : decode cX12_nextOrder 40 = .ok (.aload_n 0, 1) := by decide +kernel
theorem dX12_nextOrder_41 : decode cX12_nextOrder 41 = .ok (.getfield 320, 3) := by decide +kernel
theorem dX12_nextOrder_44 : decode cX12_nextOrder 44 = .ok (.iconst 1, 1) := by decide +kernel
theorem dX12_nextOrder_45 : decode cX12_nextOrder 45 = .ok (.isub, 1) := by decide +kernel
theorem dX12_nextOrder_46 : decode cX12_nextOrder 46 = .ok (.istore_n 2, 1) := by decide +kernel
theorem dX12_nextOrder_47 : decode cX12_nextOrder 47 = .ok (.aload_n 0, 1) := by decide +kernel
theorem dX12_nextOrder_48 : decode cX12_nextOrder 48 = .ok (.getfield 43, 3) := by decide +kernel
theorem dX12_nextOrder_51 : decode cX12_nextOrder 51 = .ok (.iload_n 2, 1) := by decide +kernel
theorem dX12_nextOrder_52 : decode cX12_nextOrder 52 = .ok (.iaload, 1) := by decide +kernel
theorem dX12_nextOrder_53 : decode cX12_nextOrder 53 = .ok (.aload_n 0, 1) := by decide +kernel
theorem dX12_nextOrder_54 : decode cX12_nextOrder 54 = .ok (.getfield 43, 3) := by decide +kernel
theorem dX12_nextOrder_57 : decode cX12_nextOrder 57 = .ok (.iload_n 1, 1) := by decide +kernel
theorem dX12_nextOrder_58 : decode cX12_nextOrder 58 = .ok (.iaload, 1) := by decide +kernel
theorem dX12_nextOrder_59 : decode cX12_nextOrder 59 = .ok (.if_icmp .ge 9, 3) := by decide +kernel
theorem dX12_nextOrder_62 : decode cX12_nextOrder 62 = .ok (.iinc 2 (-1), 3) := by decide +kernel
theorem dX12_nextOrder_65 : decode cX12_nextOrder 65 = .ok (.goto (-18), 3) := by decide +kernel
theorem dX12_nextOrder_68 : decode cX12_nextOrder 68 = .ok (.aload_n 0, 1) := by decide +kernel
theorem dX12_nextOrder_69 : decode cX12_nextOrder 69 = .ok (.iload_n 1, 1) := by decide +kernel
theorem dX12_nextOrder_70 : decode cX12_nextOrder 70 = .ok (.iload_n 2, 1) := by decide +kernel
theorem dX12_nextOrder_71 : decode cX12_nextOrder 71 = .ok (.invokevirtual 335, 3) := by decide +kernel
theorem dX12_nextOrder_74 : decode cX12_nextOrder 74 = .ok (.iload_n 1, 1) := by decide +kernel
theorem dX12_nextOrder_75 : decode cX12_nextOrder 75 = .ok (.iconst 1, 1) := by decide +kernel
theorem dX12_nextOrder_76 : decode cX12_nextOrder 76 = .ok (.iadd, 1) := by decide +kernel
theorem dX12_nextOrder_77 : decode cX12_nextOrder 77 = .ok (.istore_n 3, 1) := by decide +kernel
theorem dX12_nextOrder_78 : decode cX12_nextOrder 78 = .ok (.aload_n 0, 1) := by decide +kernel
theorem dX12_nextOrder_79 : decode cX12_nextOrder 79 = .ok (.getfield 320, 3) := by decide +kernel
theorem dX12_nextOrder_82 : decode cX12_nextOrder 82 = .ok (.iconst 1, 1) := by decide +kernel
theorem dX12_nextOrder_83 : decode cX12_nextOrder 83 = .ok (.isub, 1) := by decide +kernel
theorem dX12_nextOrder_84 : decode cX12_nextOrder 84 = .ok (.istore 4, 2) := by decide +kernel
theorem dX12_nextOrder_86 : decode cX12_nextOrder 86 = .ok (.iload_n 3, 1) := by decide +kernel
theorem dX12_nextOrder_87 : decode cX12_nextOrder 87 = .ok (.iload 4, 2) := by decide +kernel
theorem dX12_nextOrder_89 : decode cX12_nextOrder 89 = .ok (.if_icmp .ge 19, 3) := by decide +kernel
theorem dX12_nextOrder_92 : decode cX12_nextOrder 92 = .ok (.aload_n 0, 1) := by decide +kernel
theorem dX12_nextOrder_93 : decode cX12_nextOrder 93 = .ok (.iload_n 3, 1) := by decide +kernel
theorem dX12_nextOrder_94 : decode cX12_nextOrder 94 = .ok (.iload 4, 2) := by decide +kernel
theorem dX12_nextOrder_96 : decode cX12_nextOrder 96 = .ok (.invokevirtual 335, 3) := by decide +kernel
theorem dX12_nextOrder_99 : decode cX12_nextOrder 99 = .ok (.iinc 3 1, 3) := by decide +kernel
theorem dX12_nextOrder_102 : decode cX12_nextOrder 102 = .ok (.iinc 4 (-1), 3) := by decide +kernel
theorem dX12_nextOrder_105 : decode cX12_nextOrder 105 = .ok (.goto (-19), 3) := by decide +kernel
theorem dX12_nextOrder_108 : decode cX12_nextOrder 108 = .ok (.iconst 1, 1) := by decide +kernel
theorem dX12_nextOrder_109 : decode cX12_nextOrder 109 = .ok (.ireturn, 1) := by decide +kernel
theorem dX12_now_0 : decode cX12_now 0 = .ok (.aload_n 0, 1) := by decide +kernel
theorem dX12_now_1 : decode cX12_now 1 = .ok (.invokevirtual 74, 3) := by decide +kernel
theorem dX12_now_4 : decode cX12_now 4 = .ok (.ifCond .eq 15, 3) := by decide +kernel
theorem dX12_now_7 : decode cX12_now 7 = .ok (.iload_n 1, 1) := by decide +kernel
theorem dX12_now_8 : decode cX12_now 8 = .ok (.i2l, 1) := by decide +kernel
theorem dX12_now_9 : decode cX12_now 9 = .ok (.lconst 0, 1) := by decide +kernel
theorem dX12_now_10 : decode cX12_now 10 = .ok (.ldc2_w 436, 3) := by decide +kernel
theorem dX12_now_13 : decode cX12_now 13 = .ok (.invokestatic 70, 3) := by decide +kernel
theorem dX12_now_16 : decode cX12_now 16 = .ok (.ifCond .ne 7, 3) := by decide +kernel
theorem dX12_now_19 : decode cX12_now 19 = .ok (.sipush (-1000), 3) := by decide +kernel
theorem dX12_now_22 : decode cX12_now 22 = .ok (.ireturn, 1) := by decide +kernel
theorem dX12_now_23 : decode cX12_now 23 = .ok (.aload_n 0, 1) := by decide +kernel
theorem dX12_now_24 : decode cX12_now 24 = .ok (.invokevirtual 259, 3) := by decide +kernel
theorem dX12_now_27 : decode cX12_now 27 = .ok (.iload_n 1, 1) := by decide +kernel
theorem dX12_now_28 : decode cX12_now 28 = .ok (.ifCond .ne 10, 3) := by decide +kernel
theorem dX12_now_31 : decode cX12_now 31 = .ok (.aload_n 0, 1) := by decide +kernel
theorem dX12_now_32 : decode cX12_now 32 = .ok (.getfield 217, 3) := by decide +kernel
theorem dX12_now_35 : decode cX12_now 35 = .ok (.goto 50, 3) := by decide +kernel
theorem dX12_now_38 : decode cX12_now 38 = .ok (.iload_n 1, 1) := by decide +kernel
theorem dX12_now_39 : decode cX12_now 39 = .ok (.iconst 1, 1) := by decide +kernel
theorem dX12_now_40 : decode cX12_now 40 = .ok (.if_icmp .ne 10, 3) := by decide +kernel
theorem dX12_now_43 : decode cX12_now 43 = .ok (.aload_n 0, 1) := by decide +kernel
theorem dX12_now_44 : decode cX12_now 44 = .ok (.getfield 220, 3) := by decide +kernel
theorem dX12_now_47 : decode cX12_now 47 = .ok (.goto 38, 3) := by decide +kernel
theorem dX12_now_50 : decode cX12_now 50 = .ok (.iload_n 1, 1) := by decide +kernel
theorem dX12_now_51 : decode cX12_now 51 = .ok (.iconst 2, 1) := by decide +kernel
theorem dX12_now_52 : decode cX12_now 52 = .ok (.if_icmp .ne 10, 3) := by decide +kernel
theorem dX12_now_55 : decode cX12_now 55 = .ok (.aload_n 0, 1) := by decide +kernel
theorem dX12_now_56 : decode cX12_now 56 = .ok (.getfield 223, 3) := by decide +kernel
theorem dX12_now_59 : decode cX12_now 59 = .ok (.goto 26, 3) := by decide +kernel
theorem dX12_now_62 : decode cX12_now 62 = .ok (.iload_n 1, 1) := by decide +kernel
theorem dX12_now_63 : decode cX12_now 63 = .ok (.iconst 5, 1) := by decide +kernel
theorem dX12_now_64 : decode cX12_now 64 = .ok (.if_icmp .ne 10, 3) := by decide +kernel
theorem dX12_now_67 : decode cX12_now 67 = .ok (.aload_n 0, 1) := by decide +kernel
theorem dX12_now_68 : decode cX12_now 68 = .ok (.getfield 226, 3) := by decide +kernel
theorem dX12_now_71 : decode cX12_now 71 = .ok (.goto 14, 3) := by decide +kernel
theorem dX12_now_74 : decode cX12_now 74 = .ok (.aload_n 0, 1) := by decide +kernel
theorem dX12_now_75 : decode cX12_now 75 = .ok (.aload_n 0, 1) := by decide +kernel
theorem dX12_now_76 : decode cX12_now 76 = .ok (.getfield 223, 3) := by decide +kernel
theorem dX12_now_79 : decode cX12_now 79 = .ok (.iload_n 1, 1) := by decide +kernel
theorem dX12_now_80 : decode cX12_now 80 = .ok (.iconst 3, 1) := by decide +kernel
theorem dX12_now_81 : decode cX12_now 81 = .ok (.isub, 1) := by decide +kernel
theorem dX12_now_82 : decode cX12_now 82 = .ok (.invokevirtual 361, 3) := by decide +kernel
theorem dX12_now_85 : decode cX12_now 85 = .ok (.ireturn, 1) := by decide +kernel
theorem dX12_number_0 : decode cX12_number 0 = .ok (.aload_n 0, 1) := by decide +kernel
theorem dX12_number_1 : decode cX12_number 1 = .ok (.invokevirtual 118, 3) := by decide +kernel
theorem dX12_number_4 : decode cX12_number 4 = .ok (.ifCond .eq 16, 3) := by decide +kernel
theorem dX12_number_7 : decode cX12_number 7 = .ok (.aload_n 0, 1) := by decide +kernel
theorem dX12_number_8 : decode cX12_number 8 = .ok (.getfield 94, 3) := by decide +kernel
theorem dX12_number_11 : decode cX12_number 11 = .ok (.iconst 2, 1) := by decide +kernel
theorem dX12_number_12 : decode cX12_number 12 = .ok (.if_icmp .eq 8, 3) := by decide +kernel
theorem dX12_number_15 : decode cX12_number 15 = .ok (.aload_n 0, 1) := by decide +kernel
theorem dX12_number_16 : decode cX12_number 16 = .ok (.iconst 1, 1) := by decide +kernel
theorem dX12_number_17 : decode cX12_number 17 = .ok (.invokevirtual 141, 3) := by decide +kernel
theorem dX12_number_20 : decode cX12_number 20 = .ok (.aload_n 0, 1) := by decide +kernel
theorem dX12_number_21 : decode cX12_number 21 = .ok (.invokevirtual 118, 3) := by decide +kernel
theorem dX12_number_24 : decode cX12_number 24 = .ok (.ifCond .eq 23, 3) := by decide +kernel
theorem dX12_number_27 : decode cX12_number 27 = .ok (.aload_n 0, 1) := by decide +kernel
theorem dX12_number_28 : decode cX12_number 28 = .ok (.getfield 105, 3) := by decide +kernel
theorem dX12_number_31 : decode cX12_number 31 = .ok (.i2l, 1) := by decide +kernel
theorem dX12_number_32 : decode cX12_number 32 = .ok (.iload_n 1, 1) := by decide +kernel
theorem dX12_number_33 : decode cX12_number 33 = .ok (.i2l, 1) := by decide +kernel
theorem dX12_number_34 : decode cX12_number 34 = .ok (.iload_n 2, 1) := by decide +kernel
theorem dX12_number_35 : decode cX12_number 35 = .ok (.i2l, 1) := by decide +kernel
theorem dX12_number_36 : decode cX12_number 36 = .ok (.invokestatic 70, 3) := by decide +kernel
theorem dX12_number_39 : decode cX12_number 39 = .ok (.ifCond .ne 8, 3) := by decide +kernel
theorem dX12_number_42 : decode cX12_number 42 = .ok (.aload_n 0, 1) := by decide +kernel
theorem dX12_number_43 : decode cX12_number 43 = .ok (.iconst 2, 1) := by decide +kernel
theorem dX12_number_44 : decode cX12_number 44 = .ok (.invokevirtual 141, 3) := by decide +kernel
theorem dX12_number_47 : decode cX12_number 47 = .ok (.aload_n 0, 1) := by decide +kernel
theorem dX12_number_48 : decode cX12_number 48 = .ok (.invokevirtual 118, 3) := by decide +kernel
theorem dX12_number_51 : decode cX12_number 51 = .ok (.ifCond .ne 5, 3) := by decide +kernel
theorem dX12_number_54 : decode cX12_number 54 = .ok (.iconst 0, 1) := by decide +kernel
theorem dX12_number_55 : decode cX12_number 55 = .ok (.ireturn, 1) := by decide +kernel
theorem dX12_number_56 : decode cX12_number 56 = .ok (.aload_n 0, 1) := by decide +kernel
theorem dX12_number_57 : decode cX12_number 57 = .ok (.getfield 105, 3) := by decide +kernel
theorem dX12_number_60 : decode cX12_number 60 = .ok (.istore_n 3, 1) := by decide +kernel
theorem dX12_number_61 : decode cX12_number 61 = .ok (.aload_n 0, 1) := by decide +kernel
theorem dX12_number_62 : decode cX12_number 62 = .ok (.invokevirtual 135, 3) := by decide +kernel
theorem dX12_number_65 : decode cX12_number 65 = .ok (.iload_n 3, 1) := by decide +kernel
theorem dX12_number_66 : decode cX12_number 66 = .ok (.ireturn, 1) := by decide +kernel
theorem dX12_numberAt_0 : decode cX12_numberAt 0 = .ok (.aload_n 0, 1) := by decide +kernel
theorem dX12_numberAt_1 : decode cX12_numberAt 1 = .ok (.getfield 58, 3) := by decide +kernel
theorem dX12_numberAt_4 : decode cX12_numberAt 4 = .ok (.bipush 60, 2) := by decide +kernel
theorem dX12_numberAt_6 : decode cX12_numberAt 6 = .ok (.iload_n 1, 1) := by decide +kernel
theorem dX12_numberAt_7 : decode cX12_numberAt 7 = .ok (.imul, 1) := by decide +kernel
theorem dX12_numberAt_8 : decode cX12_numberAt 8 = .ok (.iload_n 2, 1) := by decide +kernel
theorem dX12_numberAt_9 : decode cX12_numberAt 9 = .ok (.iadd, 1) := by decide +kernel
theorem dX12_numberAt_10 : decode cX12_numberAt 10 = .ok (.laload, 1) := by decide +kernel
theorem dX12_numberAt_11 : decode cX12_numberAt 11 = .ok (.lreturn, 1) := by decide +kernel
theorem dX12_of_0 : decode cX12_of 0 = .ok (.aload_n 0, 1) := by decide +kernel
theorem dX12_of_1 : decode cX12_of 1 = .ok (.getfield 9, 3) := by decide +kernel
theorem dX12_of_4 : decode cX12_of 4 = .ok (.bipush 9, 2) := by decide +kernel
theorem dX12_of_6 : decode cX12_of 6 = .ok (.iconst 3, 1) := by decide +kernel
theorem dX12_of_7 : decode cX12_of 7 = .ok (.iload_n 1, 1) := by decide +kernel
theorem dX12_of_8 : decode cX12_of 8 = .ok (.imul, 1) := by decide +kernel
theorem dX12_of_9 : decode cX12_of 9 = .ok (.iadd, 1) := by decide +kernel
theorem dX12_of_10 : decode cX12_of 10 = .ok (.iload_n 2, 1) := by decide +kernel
theorem dX12_of_11 : decode cX12_of 11 = .ok (.iadd, 1) := by decide +kernel
theorem dX12_of_12 : decode cX12_of 12 = .ok (.iaload, 1) := by decide +kernel
theorem dX12_of_13 : decode cX12_of 13 = .ok (.ireturn, 1) := by decide +kernel
theorem dX12_ofClause_0 : decode cX12_ofClause 0 = .ok (.aload_n 0, 1) := by decide +kernel
theorem dX12_ofClause_1 : decode cX12_ofClause 1 = .ok (.getfield 9, 3) := by decide +kernel
theorem dX12_ofClause_4 : decode cX12_ofClause 4 = .ok (.bipush 33, 2) := by decide +kernel

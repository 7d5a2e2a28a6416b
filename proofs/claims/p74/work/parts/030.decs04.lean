theorem dX11_isWithin_7 : decode cX11_isWithin 7 = .ok (.if_icmp .gt 7, 3) := by decide +kernel
theorem dX11_isWithin_10 : decode cX11_isWithin 10 = .ok (.iconst 1, 1) := by decide +kernel
theorem dX11_isWithin_11 : decode cX11_isWithin 11 = .ok (.goto 4, 3) := by decide +kernel
theorem dX11_isWithin_14 : decode cX11_isWithin 14 = .ok (.iconst 0, 1) := by decide +kernel
theorem dX11_isWithin_15 : decode cX11_isWithin 15 = .ok (.ireturn, 1) := by decide +kernel
theorem dX11_kept_0 : decode cX11_kept 0 = .ok (.aload_n 0, 1) := by decide +kernel
theorem dX11_kept_1 : decode cX11_kept 1 = .ok (.getfield 28, 3) := by decide +kernel
theorem dX11_kept_4 : decode cX11_kept 4 = .ok (.invokevirtual 166, 3) := by decide +kernel
theorem dX11_kept_7 : decode cX11_kept 7 = .ok (.ifCond .eq 13, 3) := by decide +kernel
theorem dX11_kept_10 : decode cX11_kept 10 = .ok (.aload_n 0, 1) := by decide +kernel
theorem dX11_kept_11 : decode cX11_kept 11 = .ok (.invokevirtual 169, 3) := by decide +kernel
theorem dX11_kept_14 : decode cX11_kept 14 = .ok (.invokevirtual 189, 3) := by decide +kernel
theorem dX11_kept_17 : decode cX11_kept 17 = .ok (.goto 5, 3) := by decide +kernel
theorem dX11_kept_20 : decode cX11_kept 20 = .ok (.bipush (-2), 2) := by decide +kernel
theorem dX11_kept_22 : decode cX11_kept 22 = .ok (.ireturn, 1) := by decide +kernel
theorem dX11_least_0 : decode cX11_least 0 = .ok (.aload_n 0, 1) := by decide +kernel
theorem dX11_least_1 : decode cX11_least 1 = .ok (.iload_n 1, 1) := by decide +kernel
theorem dX11_least_2 : decode cX11_least 2 = .ok (.iconst 1, 1) := by decide +kernel
theorem dX11_least_3 : decode cX11_least 3 = .ok (.invokevirtual 237, 3) := by decide +kernel
theorem dX11_least_6 : decode cX11_least 6 = .ok (.ifCond .eq 14, 3) := by decide +kernel
theorem dX11_least_9 : decode cX11_least 9 = .ok (.aload_n 0, 1) := by decide +kernel
theorem dX11_least_10 : decode cX11_least 10 = .ok (.getfield 72, 3) := by decide +kernel
theorem dX11_least_13 : decode cX11_least 13 = .ok (.iload_n 1, 1) := by decide +kernel
theorem dX11_least_14 : decode cX11_least 14 = .ok (.invokevirtual 241, 3) := by decide +kernel
theorem dX11_least_17 : decode cX11_least 17 = .ok (.goto 5, 3) := by decide +kernel
theorem dX11_least_20 : decode cX11_least 20 = .ok (.bipush (-2), 2) := by decide +kernel
theorem dX11_least_22 : decode cX11_least 22 = .ok (.ireturn, 1) := by decide +kernel
theorem dX11_loners_0 : decode cX11_loners 0 = .ok (.aload_n 0, 1) := by decide +kernel
theorem dX11_loners_1 : decode cX11_loners 1 = .ok (.getfield 28, 3) := by decide +kernel
theorem dX11_loners_4 : decode cX11_loners 4 = .ok (.invokevirtual 166, 3) := by decide +kernel
theorem dX11_loners_7 : decode cX11_loners 7 = .ok (.ifCond .ne 6, 3) := by decide +kernel
theorem dX11_loners_10 : decode cX11_loners 10 = .ok (.bipush (-2), 2) := by decide +kernel
theorem dX11_loners_12 : decode cX11_loners 12 = .ok (.ireturn, 1) := by decide +kernel
theorem dX11_loners_13 : decode cX11_loners 13 = .ok (.aload_n 0, 1) := by decide +kernel
theorem dX11_loners_14 : decode cX11_loners 14 = .ok (.getfield 65, 3) := by decide +kernel
theorem dX11_loners_17 : decode cX11_loners 17 = .ok (.invokevirtual 208, 3) := by decide +kernel
theorem dX11_loners_20 : decode cX11_loners 20 = .ok (.iconst 0, 1) := by decide +kernel
theorem dX11_loners_21 : decode cX11_loners 21 = .ok (.istore_n 1, 1) := by decide +kernel
theorem dX11_loners_22 : decode cX11_loners 22 = .ok (.iconst 0, 1) := by decide +kernel
theorem dX11_loners_23 : decode cX11_loners 23 = .ok (.istore_n 2, 1) := by decide +kernel
theorem dX11_loners_24 : decode cX11_loners 24 = .ok (.iload_n 2, 1) := by decide +kernel
theorem dX11_loners_25 : decode cX11_loners 25 = .ok (.aload_n 0, 1) := by decide +kernel
theorem dX11_loners_26 : decode cX11_loners 26 = .ok (.getfield 28, 3) := by decide +kernel
theorem dX11_loners_29 : decode cX11_loners 29 = .ok (.getfield 202, 3) := by decide +kernel
theorem dX11_loners_32 : decode cX11_loners 32 = .ok (.if_icmp .ge 27, 3) := by decide +kernel
theorem dX11_loners_35 : decode cX11_loners 35 = .ok (.aload_n 0, 1) := by decide +kernel
theorem dX11_loners_36 : decode cX11_loners 36 = .ok (.getfield 65, 3) := by decide +kernel
theorem dX11_loners_39 : decode cX11_loners 39 = .ok (.iload_n 2, 1) := by decide +kernel
theorem dX11_loners_40 : decode cX11_loners 40 = .ok (.invokevirtual 214, 3) := by decide +kernel
theorem dX11_loners_43 : decode cX11_loners 43 = .ok (.iconst (-1), 1) := by decide +kernel
theorem dX11_loners_44 : decode cX11_loners 44 = .ok (.if_icmp .ne 9, 3) := by decide +kernel
theorem dX11_loners_47 : decode cX11_loners 47 = .ok (.iload_n 1, 1) := by decide +kernel
theorem dX11_loners_48 : decode cX11_loners 48 = .ok (.iconst 1, 1) := by decide +kernel
theorem dX11_loners_49 : decode cX11_loners 49 = .ok (.iload_n 2, 1) := by decide +kernel
theorem dX11_loners_50 : decode cX11_loners 50 = .ok (.ishl, 1) := by decide +kernel
theorem dX11_loners_51 : decode cX11_loners 51 = .ok (.ior, 1) := by decide +kernel
theorem dX11_loners_52 : decode cX11_loners 52 = .ok (.istore_n 1, 1) := by decide +kernel
theorem dX11_loners_53 : decode cX11_loners 53 = .ok (.iinc 2 1, 3) := by decide +kernel
theorem dX11_loners_56 : decode cX11_loners 56 = .ok (.goto (-32), 3) := by decide +kernel
theorem dX11_loners_59 : decode cX11_loners 59 = .ok (.iload_n 1, 1) := by decide +kernel
theorem dX11_loners_60 : decode cX11_loners 60 = .ok (.ireturn, 1) := by decide +kernel
theorem dX11_longest_0 : decode cX11_longest 0 = .ok (.aload_n 0, 1) := by decide +kernel
theorem dX11_longest_1 : decode cX11_longest 1 = .ok (.getfield 28, 3) := by decide +kernel
theorem dX11_longest_4 : decode cX11_longest 4 = .ok (.invokevirtual 166, 3) := by decide +kernel
theorem dX11_longest_7 : decode cX11_longest 7 = .ok (.ifCond .eq 16, 3) := by decide +kernel
theorem dX11_longest_10 : decode cX11_longest 10 = .ok (.aload_n 0, 1) := by decide +kernel
theorem dX11_longest_11 : decode cX11_longest 11 = .ok (.invokevirtual 169, 3) := by decide +kernel
theorem dX11_longest_14 : decode cX11_longest 14 = .ok (.sipush 2000, 3) := by decide +kernel
theorem dX11_longest_17 : decode cX11_longest 17 = .ok (.invokevirtual 179, 3) := by decide +kernel
theorem dX11_longest_20 : decode cX11_longest 20 = .ok (.goto 5, 3) := by decide +kernel
theorem dX11_longest_23 : decode cX11_longest 23 = .ok (.bipush (-2), 2) := by decide +kernel
theorem dX11_longest_25 : decode cX11_longest 25 = .ok (.ireturn, 1) := by decide +kernel
theorem dX11_lowestTerm_0 : decode cX11_lowestTerm 0 = .ok (.lload_n 0, 1) := by decide +kernel
theorem dX11_lowestTerm_1 : decode cX11_lowestTerm 1 = .ok (.lload_n 2, 1) := by decide +kernel
theorem dX11_lowestTerm_2 : decode cX11_lowestTerm 2 = .ok (.invokestatic 438, 3) := by decide +kernel
theorem dX11_lowestTerm_5 : decode cX11_lowestTerm 5 = .ok (.lstore 5, 2) := by decide +kernel
theorem dX11_lowestTerm_7 : decode cX11_lowestTerm 7 = .ok (.lload 5, 2) := by decide +kernel
theorem dX11_lowestTerm_9 : decode cX11_lowestTerm 9 = .ok (.lconst 1, 1) := by decide +kernel
theorem dX11_lowestTerm_10 : decode cX11_lowestTerm 10 = .ok (.lcmp, 1) := by decide +kernel
theorem dX11_lowestTerm_11 : decode cX11_lowestTerm 11 = .ok (.ifCond .ge 5, 3) := by decide +kernel
theorem dX11_lowestTerm_14 : decode cX11_lowestTerm 14 = .ok (.lconst 0, 1) := by decide +kernel
theorem dX11_lowestTerm_15 : decode cX11_lowestTerm 15 = .ok (.lreturn, 1) := by decide +kernel
theorem dX11_lowestTerm_16 : decode cX11_lowestTerm 16 = .ok (.iload 4, 2) := by decide +kernel
theorem dX11_lowestTerm_18 : decode cX11_lowestTerm 18 = .ok (.ifCond .ne 10, 3) := by decide +kernel
theorem dX11_lowestTerm_21 : decode cX11_lowestTerm 21 = .ok (.lload_n 0, 1) := by decide +kernel
theorem dX11_lowestTerm_22 : decode cX11_lowestTerm 22 = .ok (.lload 5, 2) := by decide +kernel
theorem dX11_lowestTerm_24 : decode cX11_lowestTerm 24 = .ok (.ldiv, 1) := by decide +kernel
theorem dX11_lowestTerm_25 : decode cX11_lowestTerm 25 = .ok (.goto 7, 3) := by decide +kernel
theorem dX11_lowestTerm_28 : decode cX11_lowestTerm 28 = .ok (.lload_n 2, 1) := by decide +kernel
theorem dX11_lowestTerm_29 : decode cX11_lowestTerm 29 = .ok (.lload 5, 2) := by decide +kernel
theorem dX11_lowestTerm_31 : decode cX11_lowestTerm 31 = .ok (.ldiv, 1) := by decide +kernel
theorem dX11_lowestTerm_32 : decode cX11_lowestTerm 32 = .ok (.lreturn, 1) := by decide +kernel
theorem dX11_luck_0 : decode cX11_luck 0 = .ok (.iload_n 1, 1) := by decide +kernel
theorem dX11_luck_1 : decode cX11_luck 1 = .ok (.iconst 0, 1) := by decide +kernel
theorem dX11_luck_2 : decode cX11_luck 2 = .ok (.ldc 159, 2) := by decide +kernel
theorem dX11_luck_4 : decode cX11_luck 4 = .ok (.invokestatic 104, 3) := by decide +kernel
theorem dX11_luck_7 : decode cX11_luck 7 = .ok (.ifCond .eq 25, 3) := by decide +kernel
theorem dX11_luck_10 : decode cX11_luck 10 = .ok (.iload_n 2, 1) := by decide +kernel
theorem dX11_luck_11 : decode cX11_luck 11 = .ok (.iconst 1, 1) := by decide +kernel
theorem dX11_luck_12 : decode cX11_luck 12 = .ok (.bipush 20, 2) := by decide +kernel
theorem dX11_luck_14 : decode cX11_luck 14 = .ok (.invokestatic 104, 3) := by decide +kernel
theorem dX11_luck_17 : decode cX11_luck 17 = .ok (.ifCond .eq 15, 3) := by decide +kernel
theorem dX11_luck_20 : decode cX11_luck 20 = .ok (.aload_n 0, 1) := by decide +kernel
theorem dX11_luck_21 : decode cX11_luck 21 = .ok (.getfield 28, 3) := by decide +kernel
theorem dX11_luck_24 : decode cX11_luck 24 = .ok (.iload 5, 2) := by decide +kernel
theorem dX11_luck_26 : decode cX11_luck 26 = .ok (.invokevirtual 143, 3) := by decide +kernel
theorem dX11_luck_29 : decode cX11_luck 29 = .ok (.ifCond .ne 6, 3) := by decide +kernel
theorem dX11_luck_32 : decode cX11_luck 32 = .ok (.bipush (-2), 2) := by decide +kernel
theorem dX11_luck_34 : decode cX11_luck 34 = .ok (.ireturn, 1) := by decide +kernel
theorem dX11_luck_35 : decode cX11_luck 35 = .ok (.aload_n 0, 1) := by decide +kernel
theorem dX11_luck_36 : decode cX11_luck 36 = .ok (.getfield 28, 3) := by decide +kernel
theorem dX11_luck_39 : decode cX11_luck 39 = .ok (.iload_n 3, 1) := by decide +kernel
theorem dX11_luck_40 : decode cX11_luck 40 = .ok (.iload 4, 2) := by decide +kernel
theorem dX11_luck_42 : decode cX11_luck 42 = .ok (.invokevirtual 199, 3) := by decide +kernel
theorem dX11_luck_45 : decode cX11_luck 45 = .ok (.istore 6, 2) := by decide +kernel
theorem dX11_luck_47 : decode cX11_luck 47 = .ok (.iload 6, 2) := by decide +kernel
theorem dX11_luck_49 : decode cX11_luck 49 = .ok (.ifCond .ge 6, 3) := by decide +kernel
theorem dX11_luck_52 : decode cX11_luck 52 = .ok (.iload 6, 2) := by decide +kernel
theorem dX11_luck_54 : decode cX11_luck 54 = .ok (.ireturn, 1) := by decide +kernel
theorem dX11_luck_55 : decode cX11_luck 55 = .ok (.iconst 0, 1) := by decide +kernel
theorem dX11_luck_56 : decode cX11_luck 56 = .ok (.istore 7, 2) := by decide +kernel
theorem dX11_luck_58 : decode cX11_luck 58 = .ok (.iconst 0, 1) := by decide +kernel
theorem dX11_luck_59 : decode cX11_luck 59 = .ok (.istore 8, 2) := by decide +kernel
theorem dX11_luck_61 : decode cX11_luck 61 = .ok (.iload 8, 2) := by decide +kernel
theorem dX11_luck_63 : decode cX11_luck 63 = .ok (.iload_n 2, 1) := by decide +kernel
theorem dX11_luck_64 : decode cX11_luck 64 = .ok (.if_icmp .ge 34, 3) := by decide +kernel
theorem dX11_luck_67 : decode cX11_luck 67 = .ok (.aload_n 0, 1) := by decide +kernel
theorem dX11_luck_68 : decode cX11_luck 68 = .ok (.iload_n 1, 1) := by decide +kernel
theorem dX11_luck_69 : decode cX11_luck 69 = .ok (.iload 8, 2) := by decide +kernel
theorem dX11_luck_71 : decode cX11_luck 71 = .ok (.iadd, 1) := by decide +kernel
theorem dX11_luck_72 : decode cX11_luck 72 = .ok (.iload 6, 2) := by decide +kernel
theorem dX11_luck_74 : decode cX11_luck 74 = .ok (.invokevirtual 377, 3) := by decide +kernel
theorem dX11_luck_77 : decode cX11_luck 77 = .ok (.aload_n 0, 1) := by decide +kernel
theorem dX11_luck_78 : decode cX11_luck 78 = .ok (.getfield 28, 3) := by decide +kernel
theorem dX11_luck_81 : decode cX11_luck 81 = .ok (.iload 5, 2) := by decide +kernel
theorem dX11_luck_83 : decode cX11_luck 83 = .ok (.invokevirtual 146, 3) := by decide +kernel
theorem dX11_luck_86 : decode cX11_luck 86 = .ok (.if_icmp .lt 6, 3) := by decide +kernel
theorem dX11_luck_89 : decode cX11_luck 89 = .ok (.iinc 7 1, 3) := by decide +kernel
theorem dX11_luck_92 : decode cX11_luck 92 = .ok (.iinc 8 1, 3) := by decide +kernel
theorem dX11_luck_95 : decode cX11_luck 95 = .ok (.goto (-34), 3) := by decide +kernel
theorem dX11_luck_98 : decode cX11_luck 98 = .ok (.iload 7, 2) := by decide +kernel
theorem dX11_luck_100 : decode cX11_luck 100 = .ok (.ireturn, 1) := by decide +kernel
theorem dX11_man_0 : decode cX11_man 0 = .ok (.aload_n 0, 1) := by decide +kernel
theorem dX11_man_1 : decode cX11_man 1 = .ok (.getfield 28, 3) := by decide +kernel
theorem dX11_man_4 : decode cX11_man 4 = .ok (.iload_n 1, 1) := by decide +kernel
theorem dX11_man_5 : decode cX11_man 5 = .ok (.invokevirtual 130, 3) := by decide +kernel
theorem dX11_man_8 : decode cX11_man 8 = .ok (.ifCond .ne 6, 3) := by decide +kernel
theorem dX11_man_11 : decode cX11_man 11 = .ok (.bipush (-2), 2) := by decide +kernel
theorem dX11_man_13 : decode cX11_man 13 = .ok (.ireturn, 1) := by decide +kernel
theorem dX11_man_14 : decode cX11_man 14 = .ok (.iload_n 2, 1) := by decide +kernel
theorem dX11_man_15 : decode cX11_man 15 = .ok (.tableswitch 52 0 2 #[25, 34, 43], 25) := by decide +kernel
theorem dX11_man_40 : decode cX11_man 40 = .ok (.aload_n 0, 1) := by decide +kernel
theorem dX11_man_41 : decode cX11_man 41 = .ok (.getfield 28, 3) := by decide +kernel
theorem dX11_man_44 : decode cX11_man 44 = .ok (.iload_n 1, 1) := by decide +kernel
theorem dX11_man_45 : decode cX11_man 45 = .ok (.invokevirtual 133, 3) := by decide +kernel
theorem dX11_man_48 : decode cX11_man 48 = .ok (.ireturn, 1) := by decide +kernel
theorem dX11_man_49 : decode cX11_man 49 = .ok (.aload_n 0, 1) := by decide +kernel
theorem dX11_man_50 : decode cX11_man 50 = .ok (.getfield 28, 3) := by decide +kernel
theorem dX11_man_53 : decode cX11_man 53 = .ok (.iload_n 1, 1) := by decide +kernel
theorem dX11_man_54 : decode cX11_man 54 = .ok (.invokevirtual 137, 3) := by decide +kernel
theorem dX11_man_57 : decode cX11_man 57 = .ok (.ireturn, 1) := by decide +kernel
theorem dX11_man_58 : decode cX11_man 58 = .ok (.aload_n 0, 1) := by decide +kernel
theorem dX11_man_59 : decode cX11_man 59 = .ok (.getfield 28, 3) := by decide +kernel
theorem dX11_man_62 : decode cX11_man 62 = .ok (.iload_n 1, 1) := by decide +kernel
theorem dX11_man_63 : decode cX11_man 63 = .ok (.invokevirtual 140, 3) := by decide +kernel
theorem dX11_man_66 : decode cX11_man 66 = .ok (.ireturn, 1) := by decide +kernel
theorem dX11_man_67 : decode cX11_man 67 = .ok (.bipush (-2), 2) := by decide +kernel
theorem dX11_man_69 : decode cX11_man 69 = .ok (.ireturn, 1) := by decide +kernel
theorem dX11_match_0 : decode cX11_match 0 = .ok (.aload_n 0, 1) := by decide +kernel
theorem dX11_match_1 : decode cX11_match 1 = .ok (.getfield 28, 3) := by decide +kernel
theorem dX11_match_4 : decode cX11_match 4 = .ok (.invokevirtual 166, 3) := by decide +kernel
theorem dX11_match_7 : decode cX11_match 7 = .ok (.ifCond .ne 6, 3) := by decide +kernel
theorem dX11_match_10 : decode cX11_match 10 = .ok (.bipush (-2), 2) := by decide +kernel
theorem dX11_match_12 : decode cX11_match 12 = .ok (.ireturn, 1) := by decide +kernel
theorem dX11_match_13 : decode cX11_match 13 = .ok (.aload_n 0, 1) := by decide +kernel
theorem dX11_match_14 : decode cX11_match 14 = .ok (.getfield 65, 3) := by decide +kernel
theorem dX11_match_17 : decode cX11_match 17 = .ok (.invokevirtual 208, 3) := by decide +kernel
theorem dX11_match_20 : decode cX11_match 20 = .ok (.aload_n 0, 1) := by decide +kernel
theorem dX11_match_21 : decode cX11_match 21 = .ok (.getfield 65, 3) := by decide +kernel
theorem dX11_match_24 : decode cX11_match 24 = .ok (.getfield 211, 3) := by decide +kernel
theorem dX11_match_27 : decode cX11_match 27 = .ok (.ireturn, 1) := by decide +kernel
theorem dX11_matched_0 : decode cX11_matched 0 = .ok (.aload_n 0, 1) := by decide +kernel
theorem dX11_matched_1 : decode cX11_matched 1 = .ok (.getfield 28, 3) := by decide +kernel
theorem dX11_matched_4 : decode cX11_matched 4 = .ok (.iload_n 1, 1) := by decide +kernel
theorem dX11_matched_5 : decode cX11_matched 5 = .ok (.invokevirtual 130, 3) := by decide +kernel
theorem dX11_matched_8 : decode cX11_matched 8 = .ok (.ifCond .ne 6, 3) := by decide +kernel
theorem dX11_matched_11 : decode cX11_matched 11 = .ok (.bipush (-2), 2) := by decide +kernel
theorem dX11_matched_13 : decode cX11_matched 13 = .ok (.ireturn, 1) := by decide +kernel
theorem dX11_matched_14 : decode cX11_matched 14 = .ok (.aload_n 0, 1) := by decide +kernel
theorem dX11_matched_15 : decode cX11_matched 15 = .ok (.getfield 65, 3) := by decide +kernel
theorem dX11_matched_18 : decode cX11_matched 18 = .ok (.invokevirtual 208, 3) := by decide +kernel
theorem dX11_matched_21 : decode cX11_matched 21 = .ok (.aload_n 0, 1) := by decide +kernel
theorem dX11_matched_22 : decode cX11_matched 22 = .ok (.getfield 65, 3) := by decide +kernel
theorem dX11_matched_25 : decode cX11_matched 25 = .ok (.iload_n 1, 1) := by decide +kernel
theorem dX11_matched_26 : decode cX11_matched 26 = .ok (.invokevirtual 214, 3) := by decide +kernel
theorem dX11_matched_29 : decode cX11_matched 29 = .ok (.ireturn, 1) := by decide +kernel
theorem dX11_mean_0 : decode cX11_mean 0 = .ok (.iload_n 3, 1) := by decide +kernel
theorem dX11_mean_1 : decode cX11_mean 1 = .ok (.iconst 0, 1) := by decide +kernel
theorem dX11_mean_2 : decode cX11_mean 2 = .ok (.iconst 1, 1) := by decide +kernel
theorem dX11_mean_3 : decode cX11_mean 3 = .ok (.invokestatic 104, 3) := by decide +kernel
theorem dX11_mean_6 : decode cX11_mean 6 = .ok (.ifCond .ne 7, 3) := by decide +kernel
theorem dX11_mean_9 : decode cX11_mean 9 = .ok (.ldc2_w 315, 3) := by decide +kernel
theorem dX11_mean_12 : decode cX11_mean 12 = .ok (.lreturn, 1) := by decide +kernel
theorem dX11_mean_13 : decode cX11_mean 13 = .ok (.aload_n 0, 1) := by decide +kernel
theorem dX11_mean_14 : decode cX11_mean 14 = .ok (.getfield 28, 3) := by decide +kernel
theorem dX11_mean_17 : decode cX11_mean 17 = .ok (.iload_n 1, 1) := by decide +kernel
theorem dX11_mean_18 : decode cX11_mean 18 = .ok (.iload_n 2, 1) := by decide +kernel
theorem dX11_mean_19 : decode cX11_mean 19 = .ok (.invokevirtual 199, 3) := by decide +kernel
theorem dX11_mean_22 : decode cX11_mean 22 = .ok (.istore 4, 2) := by decide +kernel
theorem dX11_mean_24 : decode cX11_mean 24 = .ok (.iload 4, 2) := by decide +kernel
theorem dX11_mean_26 : decode cX11_mean 26 = .ok (.ifCond .ge 7, 3) := by decide +kernel
theorem dX11_mean_29 : decode cX11_mean 29 = .ok (.iload 4, 2) := by decide +kernel
theorem dX11_mean_31 : decode cX11_mean 31 = .ok (.i2l, 1) := by decide +kernel
theorem dX11_mean_32 : decode cX11_mean 32 = .ok (.lreturn, 1) := by decide +kernel
theorem dX11_mean_33 : decode cX11_mean 33 = .ok (.bipush 15, 2) := by decide +kernel
theorem dX11_mean_35 : decode cX11_mean 35 = .ok (.iload 4, 2) := by decide +kernel
theorem dX11_mean_37 : decode cX11_mean 37 = .ok (.invokestatic 330, 3) := by decide +kernel
theorem dX11_mean_40 : decode cX11_mean 40 = .ok (.istore 5, 2) := by decide +kernel
theorem dX11_mean_42 : decode cX11_mean 42 = .ok (.lconst 0, 1) := by decide +kernel
theorem dX11_mean_43 : decode cX11_mean 43 = .ok (.lstore 6, 2) := by decide +kernel
theorem dX11_mean_45 : decode cX11_mean 45 = .ok (.iconst 1, 1) := by decide +kernel
theorem dX11_mean_46 : decode cX11_mean 46 = .ok (.istore 8, 2) := by decide +kernel
theorem dX11_mean_48 : decode cX11_mean 48 = .ok (.iload 8, 2) := by decide +kernel
theorem dX11_mean_50 : decode cX11_mean 50 = .ok (.iload 5, 2) := by decide +kernel
theorem dX11_mean_52 : decode cX11_mean 52 = .ok (.if_icmp .gt 42, 3) := by decide +kernel
theorem dX11_mean_55 : decode cX11_mean 55 = .ok (.lload 6, 2) := by decide +kernel
theorem dX11_mean_57 : decode cX11_mean 57 = .ok (.bipush 10, 2) := by decide +kernel
theorem dX11_mean_59 : decode cX11_mean 59 = .ok (.aload_n 0, 1) := by decide +kernel
theorem dX11_mean_60 : decode cX11_mean 60 = .ok (.getfield 28, 3) := by decide +kernel
theorem dX11_mean_63 : decode cX11_mean 63 = .ok (.getfield 317, 3) := by decide +kernel
theorem dX11_mean_66 : decode cX11_mean 66 = .ok (.isub, 1) := by decide +kernel
theorem dX11_mean_67 : decode cX11_mean 67 = .ok (.i2l, 1) := by decide +kernel
theorem dX11_mean_68 : decode cX11_mean 68 = .ok (.iload 8, 2) := by decide +kernel
theorem dX11_mean_70 : decode cX11_mean 70 = .ok (.invokestatic 320, 3) := by decide +kernel
theorem dX11_mean_73 : decode cX11_mean 73 = .ok (.ldc2_w 324, 3) := by decide +kernel
theorem dX11_mean_76 : decode cX11_mean 76 = .ok (.iload 5, 2) := by decide +kernel
theorem dX11_mean_78 : decode cX11_mean 78 = .ok (.iload 8, 2) := by decide +kernel
theorem dX11_mean_80 : decode cX11_mean 80 = .ok (.isub, 1) := by decide +kernel
theorem dX11_mean_81 : decode cX11_mean 81 = .ok (.invokestatic 320, 3) := by decide +kernel
theorem dX11_mean_84 : decode cX11_mean 84 = .ok (.lmul, 1) := by decide +kernel
theorem dX11_mean_85 : decode cX11_mean 85 = .ok (.ladd, 1) := by decide +kernel
theorem dX11_mean_86 : decode cX11_mean 86 = .ok (.lstore 6, 2) := by decide +kernel
theorem dX11_mean_88 : decode cX11_mean 88 = .ok (.iinc 8 1, 3) := by decide +kernel
theorem dX11_mean_91 : decode cX11_mean 91 = .ok (.goto (-43), 3) := by decide +kernel
theorem dX11_mean_94 : decode cX11_mean 94 = .ok (.lload 6, 2) := by decide +kernel
theorem dX11_mean_96 : decode cX11_mean 96 = .ok (.ldc2_w 324, 3) := by decide +kernel
theorem dX11_mean_99 : decode cX11_mean 99 = .ok (.iload 5, 2) := by decide +kernel
theorem dX11_mean_101 : decode cX11_mean 101 = .ok (.invokestatic 320, 3) := by decide +kernel
theorem dX11_mean_104 : decode cX11_mean 104 = .ok (.iload_n 3, 1) := by decide +kernel
theorem dX11_mean_105 : decode cX11_mean 105 = .ok (.invokestatic 326, 3) := by decide +kernel
theorem dX11_mean_108 : decode cX11_mean 108 = .ok (.lreturn, 1) := by decide +kernel
theorem dX11_meet_0 : decode cX11_meet 0 = .ok (.aload_n 0, 1) := by decide +kernel
theorem dX11_meet_1 : decode cX11_meet 1 = .ok (.getfield 28, 3) := by decide +kernel
theorem dX11_meet_4 : decode cX11_meet 4 = .ok (.invokevirtual 166, 3) := by decide +kernel
theorem dX11_meet_7 : decode cX11_meet 7 = .ok (.ifCond .eq 14, 3) := by decide +kernel
theorem dX11_meet_10 : decode cX11_meet 10 = .ok (.iload_n 1, 1) := by decide +kernel
theorem dX11_meet_11 : decode cX11_meet 11 = .ok (.iconst 0, 1) := by decide +kernel
theorem dX11_meet_12 : decode cX11_meet 12 = .ok (.sipush 999, 3) := by decide +kernel
theorem dX11_meet_15 : decode cX11_meet 15 = .ok (.invokestatic 104, 3) := by decide +kernel
theorem dX11_meet_18 : decode cX11_meet 18 = .ok (.ifCond .ne 6, 3) := by decide +kernel
theorem dX11_meet_21 : decode cX11_meet 21 = .ok (.bipush (-2), 2) := by decide +kernel
theorem dX11_meet_23 : decode cX11_meet 23 = .ok (.ireturn, 1) := by decide +kernel
theorem dX11_meet_24 : decode cX11_meet 24 = .ok (.aload_n 0, 1) := by decide +kernel
theorem dX11_meet_25 : decode cX11_meet 25 = .ok (.invokevirtual 169, 3) := by decide +kernel
theorem dX11_meet_28 : decode cX11_meet 28 = .ok (.iload_n 1, 1) := by decide +kernel
theorem dX11_meet_29 : decode cX11_meet 29 = .ok (.invokevirtual 193, 3) := by decide +kernel
theorem dX11_meet_32 : decode cX11_meet 32 = .ok (.ireturn, 1) := by decide +kernel
theorem dX11_meetings_0 : decode cX11_meetings 0 = .ok (.aload_n 0, 1) := by decide +kernel
theorem dX11_meetings_1 : decode cX11_meetings 1 = .ok (.getfield 28, 3) := by decide +kernel
theorem dX11_meetings_4 : decode cX11_meetings 4 = .ok (.invokevirtual 166, 3) := by decide +kernel
theorem dX11_meetings_7 : decode cX11_meetings 7 = .ok (.ifCond .eq 14, 3) := by decide +kernel
theorem dX11_meetings_10 : decode cX11_meetings 10 = .ok (.iload_n 1, 1) := by decide +kernel
theorem dX11_meetings_11 : decode cX11_meetings 11 = .ok (.iconst 0, 1) := by decide +kernel
theorem dX11_meetings_12 : decode cX11_meetings 12 = .ok (.sipush 10000, 3) := by decide +kernel
theorem dX11_meetings_15 : decode cX11_meetings 15 = .ok (.invokestatic 104, 3) := by decide +kernel
theorem dX11_meetings_18 : decode cX11_meetings 18 = .ok (.ifCond .ne 6, 3) := by decide +kernel
theorem dX11_meetings_21 : decode cX11_meetings 21 = .ok (.bipush (-2), 2) := by decide +kernel
theorem dX11_meetings_23 : decode cX11_meetings 23 = .ok (.ireturn, 1) := by decide +kernel
theorem dX11_meetings_24 : decode cX11_meetings 24 = .ok (.aload_n 0, 1) := by decide +kernel
theorem dX11_meetings_25 : decode cX11_meetings 25 = .ok (.invokevirtual 169, 3) := by decide +kernel
theorem dX11_meetings_28 : decode cX11_meetings 28 = .ok (.iload_n 1, 1) := by decide +kernel
theorem dX11_meetings_29 : decode cX11_meetings 29 = .ok (.invokevirtual 176, 3) := by decide +kernel
theorem dX11_meetings_32 : decode cX11_meetings 32 = .ok (.ireturn, 1) := by decide +kernel
theorem dX11_must_0 : decode cX11_must 0 = .ok (.aload_n 0, 1) := by decide +kernel
theorem dX11_must_1 : decode cX11_must 1 = .ok (.getfield 28, 3) := by decide +kernel
theorem dX11_must_4 : decode cX11_must 4 = .ok (.iload_n 1, 1) := by decide +kernel
theorem dX11_must_5 : decode cX11_must 5 = .ok (.invokevirtual 153, 3) := by decide +kernel
theorem dX11_must_8 : decode cX11_must 8 = .ok (.ifCond .eq 17, 3) := by decide +kernel
theorem dX11_must_11 : decode cX11_must 11 = .ok (.aload_n 0, 1) := by decide +kernel
theorem dX11_must_12 : decode cX11_must 12 = .ok (.getfield 79, 3) := by decide +kernel
theorem dX11_must_15 : decode cX11_must 15 = .ok (.iload_n 1, 1) := by decide +kernel
theorem dX11_must_16 : decode cX11_must 16 = .ok (.invokevirtual 282, 3) := by decide +kernel
theorem dX11_must_19 : decode cX11_must 19 = .ok (.invokestatic 253, 3) := by decide +kernel
theorem dX11_must_22 : decode cX11_must 22 = .ok (.goto 5, 3) := by decide +kernel
theorem dX11_must_25 : decode cX11_must 25 = .ok (.bipush (-2), 2) := by decide +kernel
theorem dX11_must_27 : decode cX11_must 27 = .ok (.ireturn, 1) := by decide +kernel
theorem dX11_musts_0 : decode cX11_musts 0 = .ok (.aload_n 0, 1) := by decide +kernel
theorem dX11_musts_1 : decode cX11_musts 1 = .ok (.getfield 28, 3) := by decide +kernel
theorem dX11_musts_4 : decode cX11_musts 4 = .ok (.iload_n 1, 1) := by decide +kernel
theorem dX11_musts_5 : decode cX11_musts 5 = .ok (.invokevirtual 153, 3) := by decide +kernel
theorem dX11_musts_8 : decode cX11_musts 8 = .ok (.ifCond .eq 14, 3) := by decide +kernel
theorem dX11_musts_11 : decode cX11_musts 11 = .ok (.aload_n 0, 1) := by decide +kernel
theorem dX11_musts_12 : decode cX11_musts 12 = .ok (.getfield 79, 3) := by decide +kernel
theorem dX11_musts_15 : decode cX11_musts 15 = .ok (.iload_n 1, 1) := by decide +kernel
theorem dX11_musts_16 : decode cX11_musts 16 = .ok (.invokevirtual 282, 3) := by decide +kernel
theorem dX11_musts_19 : decode cX11_musts 19 = .ok (.goto 5, 3) := by decide +kernel
theorem dX11_musts_22 : decode cX11_musts 22 = .ok (.bipush (-2), 2) := by decide +kernel
theorem dX11_musts_24 : decode cX11_musts 24 = .ok (.ireturn, 1) := by decide +kernel
theorem dX11_needs_0 : decode cX11_needs 0 = .ok (.aload_n 0, 1) := by decide +kernel
theorem dX11_needs_1 : decode cX11_needs 1 = .ok (.getfield 28, 3) := by decide +kernel
theorem dX11_needs_4 : decode cX11_needs 4 = .ok (.invokevirtual 166, 3) := by decide +kernel
theorem dX11_needs_7 : decode cX11_needs 7 = .ok (.ifCond .eq 13, 3) := by decide +kernel
theorem dX11_needs_10 : decode cX11_needs 10 = .ok (.iload_n 1, 1) := by decide +kernel
theorem dX11_needs_11 : decode cX11_needs 11 = .ok (.iconst 1, 1) := by decide +kernel
theorem dX11_needs_12 : decode cX11_needs 12 = .ok (.bipush 7, 2) := by decide +kernel
theorem dX11_needs_14 : decode cX11_needs 14 = .ok (.invokestatic 104, 3) := by decide +kernel
theorem dX11_needs_17 : decode cX11_needs 17 = .ok (.ifCond .ne 6, 3) := by decide +kernel
theorem dX11_needs_20 : decode cX11_needs 20 = .ok (.bipush (-2), 2) := by decide +kernel
theorem dX11_needs_22 : decode cX11_needs 22 = .ok (.ireturn, 1) := by decide +kernel
theorem dX11_needs_23 : decode cX11_needs 23 = .ok (.aload_n 0, 1) := by decide +kernel
theorem dX11_needs_24 : decode cX11_needs 24 = .ok (.getfield 72, 3) := by decide +kernel
theorem dX11_needs_27 : decode cX11_needs 27 = .ok (.iload_n 1, 1) := by decide +kernel
theorem dX11_needs_28 : decode cX11_needs 28 = .ok (.invokevirtual 247, 3) := by decide +kernel
theorem dX11_needs_31 : decode cX11_needs 31 = .ok (.ireturn, 1) := by decide +kernel
theorem dX11_next_0 : decode cX11_next 0 = .ok (.aload_n 0, 1) := by decide +kernel
theorem dX11_next_1 : decode cX11_next 1 = .ok (.getfield 28, 3) := by decide +kernel
theorem dX11_next_4 : decode cX11_next 4 = .ok (.invokevirtual 166, 3) := by decide +kernel
theorem dX11_next_7 : decode cX11_next 7 = .ok (.ifCond .eq 14, 3) := by decide +kernel
theorem dX11_next_10 : decode cX11_next 10 = .ok (.iload_n 1, 1) := by decide +kernel
theorem dX11_next_11 : decode cX11_next 11 = .ok (.iconst 0, 1) := by decide +kernel
theorem dX11_next_12 : decode cX11_next 12 = .ok (.sipush 5000, 3) := by decide +kernel
theorem dX11_next_15 : decode cX11_next 15 = .ok (.invokestatic 104, 3) := by decide +kernel
theorem dX11_next_18 : decode cX11_next 18 = .ok (.ifCond .ne 6, 3) := by decide +kernel
theorem dX11_next_21 : decode cX11_next 21 = .ok (.bipush (-2), 2) := by decide +kernel
theorem dX11_next_23 : decode cX11_next 23 = .ok (.ireturn, 1) := by decide +kernel
theorem dX11_next_24 : decode cX11_next 24 = .ok (.aload_n 0, 1) := by decide +kernel
theorem dX11_next_25 : decode cX11_next 25 = .ok (.invokevirtual 169, 3) := by decide +kernel
theorem dX11_next_28 : decode cX11_next 28 = .ok (.iload_n 1, 1) := by decide +kernel
theorem dX11_next_29 : decode cX11_next 29 = .ok (.invokevirtual 173, 3) := by decide +kernel
theorem dX11_next_32 : decode cX11_next 32 = .ok (.ireturn, 1) := by decide +kernel
theorem dX11_now_0 : decode cX11_now 0 = .ok (.aload_n 0, 1) := by decide +kernel
theorem dX11_now_1 : decode cX11_now 1 = .ok (.getfield 28, 3) := by decide +kernel
theorem dX11_now_4 : decode cX11_now 4 = .ok (.invokevirtual 166, 3) := by decide +kernel
theorem dX11_now_7 : decode cX11_now 7 = .ok (.ifCond .ne 7, 3) := by decide +kernel
theorem dX11_now_10 : decode cX11_now 10 = .ok (.sipush (-1000), 3) := by decide +kernel
theorem dX11_now_13 : decode cX11_now 13 = .ok (.ireturn, 1) := by decide +kernel
theorem dX11_now_14 : decode cX11_now 14 = .ok (.iload_n 1, 1) := by decide +kernel
theorem dX11_now_15 : decode cX11_now 15 = .ok (.tableswitch 101 0 5 #[37, 45, 53, 61, 77, 93], 37) := by decide +kernel
theorem dX11_now_52 : decode cX11_now 52 = .ok (.aload_n 0, 1) := by decide +kernel
theorem dX11_now_53 : decode cX11_now 53 = .ok (.getfield 35, 3) := by decide +kernel
theorem dX11_now_56 : decode cX11_now 56 = .ok (.getfield 347, 3) := by decide +kernel
theorem dX11_now_59 : decode cX11_now 59 = .ok (.ireturn, 1) := by decide +kernel
theorem dX11_now_60 : decode cX11_now 60 = .ok (.aload_n 0, 1) := by decide +kernel
theorem dX11_now_61 : decode cX11_now 61 = .ok (.getfield 35, 3) := by decide +kernel
theorem dX11_now_64 : decode cX11_now 64 = .ok (.getfield 356, 3) := by decide +kernel
theorem dX11_now_67 : decode cX11_now 67 = .ok (.ireturn, 1) := by decide +kernel
theorem dX11_now_68 : decode cX11_now 68 = .ok (.aload_n 0, 1) := by decide +kernel
theorem dX11_now_69 : decode cX11_now 69 = .ok (.getfield 35, 3) := by decide +kernel
theorem dX11_now_72 : decode cX11_now 72 = .ok (.getfield 365, 3) := by decide +kernel
theorem dX11_now_75 : decode cX11_now 75 = .ok (.ireturn, 1) := by decide +kernel
theorem dX11_now_76 : decode cX11_now 76 = .ok (.aload_n 0, 1) := by decide +kernel
theorem dX11_now_77 : decode cX11_now 77 = .ok (.getfield 28, 3) := by decide +kernel
theorem dX11_now_80 : decode cX11_now 80 = .ok (.aload_n 0, 1) := by decide +kernel
theorem dX11_now_81 : decode cX11_now 81 = .ok (.getfield 35, 3) := by decide +kernel
theorem dX11_now_84 : decode cX11_now 84 = .ok (.getfield 365, 3) := by decide +kernel
theorem dX11_now_87 : decode cX11_now 87 = .ok (.iconst 0, 1) := by decide +kernel
theorem dX11_now_88 : decode cX11_now 88 = .ok (.invokevirtual 267, 3) := by decide +kernel
theorem dX11_now_91 : decode cX11_now 91 = .ok (.ireturn, 1) := by decide +kernel
theorem dX11_now_92 : decode cX11_now 92 = .ok (.aload_n 0, 1) := by decide +kernel
theorem dX11_now_93 : decode cX11_now 93 = .ok (.getfield 28, 3) := by decide +kernel
theorem dX11_now_96 : decode cX11_now 96 = .ok (.aload_n 0, 1) := by decide +kernel
theorem dX11_now_97 : decode cX11_now 97 = .ok (.getfield 35, 3) := by decide +kernel
theorem dX11_now_100 : decode cX11_now 100 = .ok (.getfield 365, 3) := by decide +kernel
theorem dX11_now_103 : decode cX11_now 103 = .ok (.iconst 1, 1) := by decide +kernel
theorem dX11_now_104 : decode cX11_now 104 = .ok (.invokevirtual 267, 3) := by decide +kernel
theorem dX11_now_107 : decode cX11_now 107 = .ok (.ireturn, 1) := by decide +kernel
theorem dX11_now_108 : decode cX11_now 108 = .ok (.aload_n 0, 1) := by decide +kernel
theorem dX11_now_109 : decode cX11_now 109 = .ok (.getfield 35, 3) := by decide +kernel
theorem dX11_now_112 : decode cX11_now 112 = .ok (.getfield 368, 3) := by decide +kernel
theorem dX11_now_115 : decode cX11_now 115 = .ok (.ireturn, 1) := by decide +kernel
theorem dX11_now_116 : decode cX11_now 116 = .ok (.sipush (-1000), 3) := by decide +kernel
theorem dX11_now_119 : decode cX11_now 119 = .ok (.ireturn, 1) := by decide +kernel
theorem dX11_often_0 : decode cX11_often 0 = .ok (.aload_n 0, 1) := by decide +kernel
theorem dX11_often_1 : decode cX11_often 1 = .ok (.getfield 28, 3) := by decide +kernel
theorem dX11_often_4 : decode cX11_often 4 = .ok (.invokevirtual 166, 3) := by decide +kernel
theorem dX11_often_7 : decode cX11_often 7 = .ok (.ifCond .eq 14, 3) := by decide +kernel
theorem dX11_often_10 : decode cX11_often 10 = .ok (.iload_n 1, 1) := by decide +kernel
theorem dX11_often_11 : decode cX11_often 11 = .ok (.iconst 0, 1) := by decide +kernel
theorem dX11_often_12 : decode cX11_often 12 = .ok (.sipush 2000, 3) := by decide +kernel
theorem dX11_often_15 : decode cX11_often 15 = .ok (.invokestatic 104, 3) := by decide +kernel
theorem dX11_often_18 : decode cX11_often 18 = .ok (.ifCond .ne 6, 3) := by decide +kernel
theorem dX11_often_21 : decode cX11_often 21 = .ok (.bipush (-2), 2) := by decide +kernel
theorem dX11_often_23 : decode cX11_often 23 = .ok (.ireturn, 1) := by decide +kernel
theorem dX11_often_24 : decode cX11_often 24 = .ok (.iconst (-1), 1) := by decide +kernel
theorem dX11_often_25 : decode cX11_often 25 = .ok (.istore_n 2, 1) := by decide +kernel
theorem dX11_often_26 : decode cX11_often 26 = .ok (.iconst 0, 1) := by decide +kernel
theorem dX11_often_27 : decode cX11_often 27 = .ok (.istore_n 3, 1) := by decide +kernel
theorem dX11_often_28 : decode cX11_often 28 = .ok (.iconst 0, 1) := by decide +kernel
theorem dX11_often_29 : decode cX11_often 29 = .ok (.istore 4, 2) := by decide +kernel
theorem dX11_often_31 : decode cX11_often 31 = .ok (.iload 4, 2) := by decide +kernel
theorem dX11_often_33 : decode cX11_often 33 = .ok (.aload_n 0, 1) := by decide +kernel
theorem dX11_often_34 : decode cX11_often 34 = .ok (.getfield 28, 3) := by decide +kernel
theorem dX11_often_37 : decode cX11_often 37 = .ok (.iconst 0, 1) := by decide +kernel
theorem dX11_often_38 : decode cX11_often 38 = .ok (.invokevirtual 160, 3) := by decide +kernel
theorem dX11_often_41 : decode cX11_often 41 = .ok (.if_icmp .ge 48, 3) := by decide +kernel
theorem dX11_often_44 : decode cX11_often 44 = .ok (.aload_n 0, 1) := by decide +kernel
theorem dX11_often_45 : decode cX11_often 45 = .ok (.getfield 58, 3) := by decide +kernel
theorem dX11_often_48 : decode cX11_often 48 = .ok (.iload 4, 2) := by decide +kernel
theorem dX11_often_50 : decode cX11_often 50 = .ok (.aload_n 0, 1) := by decide +kernel
theorem dX11_often_51 : decode cX11_often 51 = .ok (.getfield 35, 3) := by decide +kernel
theorem dX11_often_54 : decode cX11_often 54 = .ok (.iconst 1, 1) := by decide +kernel
theorem dX11_often_55 : decode cX11_often 55 = .ok (.invokevirtual 156, 3) := by decide +kernel
theorem dX11_often_58 : decode cX11_often 58 = .ok (.invokevirtual 182, 3) := by decide +kernel
theorem dX11_often_61 : decode cX11_often 61 = .ok (.aload_n 0, 1) := by decide +kernel
theorem dX11_often_62 : decode cX11_often 62 = .ok (.getfield 58, 3) := by decide +kernel
theorem dX11_often_65 : decode cX11_often 65 = .ok (.iload_n 1, 1) := by decide +kernel
theorem dX11_often_66 : decode cX11_often 66 = .ok (.invokevirtual 176, 3) := by decide +kernel
theorem dX11_often_69 : decode cX11_often 69 = .ok (.istore 5, 2) := by decide +kernel
theorem dX11_often_71 : decode cX11_often 71 = .ok (.iload 5, 2) := by decide +kernel
theorem dX11_often_73 : decode cX11_often 73 = .ok (.iload_n 3, 1) := by decide +kernel
theorem dX11_often_74 : decode cX11_often 74 = .ok (.if_icmp .le 9, 3) := by decide +kernel
theorem dX11_often_77 : decode cX11_often 77 = .ok (.iload 4, 2) := by decide +kernel
theorem dX11_often_79 : decode cX11_often 79 = .ok (.istore_n 2, 1) := by decide +kernel
theorem dX11_often_80 : decode cX11_often 80 = .ok (.iload 5, 2) := by decide +kernel
theorem dX11_often_82 : decode cX11_often 82 = .ok (.istore_n 3, 1) := by decide +kernel
theorem dX11_often_83 : decode cX11_often 83 = .ok (.iinc 4 1, 3) := by decide +kernel
theorem dX11_often_86 : decode cX11_often 86 = .ok (.goto (-55), 3) := by decide +kernel
theorem dX11_often_89 : decode cX11_often 89 = .ok (.iload_n 2, 1) := by decide +kernel
theorem dX11_often_90 : decode cX11_often 90 = .ok (.ireturn, 1) := by decide +kernel
theorem dX11_once_0 : decode cX11_once 0 = .ok (.aload_n 0, 1) := by decide +kernel
theorem dX11_once_1 : decode cX11_once 1 = .ok (.iload_n 1, 1) := by decide +kernel
theorem dX11_once_2 : decode cX11_once 2 = .ok (.iconst 0, 1) := by decide +kernel
theorem dX11_once_3 : decode cX11_once 3 = .ok (.invokevirtual 237, 3) := by decide +kernel
theorem dX11_once_6 : decode cX11_once 6 = .ok (.ifCond .eq 21, 3) := by decide +kernel
theorem dX11_once_9 : decode cX11_once 9 = .ok (.aload_n 0, 1) := by decide +kernel
theorem dX11_once_10 : decode cX11_once 10 = .ok (.getfield 79, 3) := by decide +kernel
theorem dX11_once_13 : decode cX11_once 13 = .ok (.aload_n 0, 1) := by decide +kernel
theorem dX11_once_14 : decode cX11_once 14 = .ok (.getfield 79, 3) := by decide +kernel
theorem dX11_once_17 : decode cX11_once 17 = .ok (.iload_n 1, 1) := by decide +kernel
theorem dX11_once_18 : decode cX11_once 18 = .ok (.invokevirtual 258, 3) := by decide +kernel
theorem dX11_once_21 : decode cX11_once 21 = .ok (.invokevirtual 261, 3) := by decide +kernel
theorem dX11_once_24 : decode cX11_once 24 = .ok (.goto 5, 3) := by decide +kernel
theorem dX11_once_27 : decode cX11_once 27 = .ok (.bipush (-2), 2) := by decide +kernel
theorem dX11_once_29 : decode cX11_once 29 = .ok (.ireturn, 1) := by decide +kernel
theorem dX11_onces_0 : decode cX11_onces 0 = .ok (.aload_n 0, 1) := by decide +kernel
theorem dX11_onces_1 : decode cX11_onces 1 = .ok (.iload_n 1, 1) := by decide +kernel
theorem dX11_onces_2 : decode cX11_onces 2 = .ok (.iconst 0, 1) := by decide +kernel
theorem dX11_onces_3 : decode cX11_onces 3 = .ok (.invokevirtual 237, 3) := by decide +kernel
theorem dX11_onces_6 : decode cX11_onces 6 = .ok (.ifCond .eq 14, 3) := by decide +kernel
theorem dX11_onces_9 : decode cX11_onces 9 = .ok (.aload_n 0, 1) := by decide +kernel

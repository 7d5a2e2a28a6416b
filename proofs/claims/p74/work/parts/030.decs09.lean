theorem dX12_deal_61 : decode cX12_deal 61 = .ok (.iinc 2 1, 3) := by decide +kernel
theorem dX12_deal_64 : decode cX12_deal 64 = .ok (.goto (-50), 3) := by decide +kernel
theorem dX12_deal_67 : decode cX12_deal 67 = .ok (.iload_n 1, 1) := by decide +kernel
theorem dX12_deal_68 : decode cX12_deal 68 = .ok (.ireturn, 1) := by decide +kernel
theorem dX12_divisor_0 : decode cX12_divisor 0 = .ok (.lload_n 0, 1) := by decide +kernel
theorem dX12_divisor_1 : decode cX12_divisor 1 = .ok (.lstore 4, 2) := by decide +kernel
theorem dX12_divisor_3 : decode cX12_divisor 3 = .ok (.lload_n 2, 1) := by decide +kernel
theorem dX12_divisor_4 : decode cX12_divisor 4 = .ok (.lstore 6, 2) := by decide +kernel
theorem dX12_divisor_6 : decode cX12_divisor 6 = .ok (.lload 6, 2) := by decide +kernel
theorem dX12_divisor_8 : decode cX12_divisor 8 = .ok (.lconst 0, 1) := by decide +kernel
theorem dX12_divisor_9 : decode cX12_divisor 9 = .ok (.lcmp, 1) := by decide +kernel
theorem dX12_divisor_10 : decode cX12_divisor 10 = .ok (.ifCond .eq 21, 3) := by decide +kernel
theorem dX12_divisor_13 : decode cX12_divisor 13 = .ok (.lload 4, 2) := by decide +kernel
theorem dX12_divisor_15 : decode cX12_divisor 15 = .ok (.lload 6, 2) := by decide +kernel
theorem dX12_divisor_17 : decode cX12_divisor 17 = .ok (.lrem, 1) := by decide +kernel
theorem dX12_divisor_18 : decode cX12_divisor 18 = .ok (.lstore 8, 2) := by decide +kernel
theorem dX12_divisor_20 : decode cX12_divisor 20 = .ok (.lload 6, 2) := by decide +kernel
theorem dX12_divisor_22 : decode cX12_divisor 22 = .ok (.lstore 4, 2) := by decide +kernel
theorem dX12_divisor_24 : decode cX12_divisor 24 = .ok (.lload 8, 2) := by decide +kernel
theorem dX12_divisor_26 : decode cX12_divisor 26 = .ok (.lstore 6, 2) := by decide +kernel
theorem dX12_divisor_28 : decode cX12_divisor 28 = .ok (.goto (-22), 3) := by decide +kernel
theorem dX12_divisor_31 : decode cX12_divisor 31 = .ok (.lload 4, 2) := by decide +kernel
theorem dX12_divisor_33 : decode cX12_divisor 33 = .ok (.lreturn, 1) := by decide +kernel
theorem dX12_doHold_0 : decode cX12_doHold 0 = .ok (.aload_n 0, 1) := by decide +kernel
theorem dX12_doHold_1 : decode cX12_doHold 1 = .ok (.invokevirtual 259, 3) := by decide +kernel
theorem dX12_doHold_4 : decode cX12_doHold 4 = .ok (.aload_n 0, 1) := by decide +kernel
theorem dX12_doHold_5 : decode cX12_doHold 5 = .ok (.getfield 220, 3) := by decide +kernel
theorem dX12_doHold_8 : decode cX12_doHold 8 = .ok (.iconst (-1), 1) := by decide +kernel
theorem dX12_doHold_9 : decode cX12_doHold 9 = .ok (.if_icmp .eq 7, 3) := by decide +kernel
theorem dX12_doHold_12 : decode cX12_doHold 12 = .ok (.iconst 1, 1) := by decide +kernel
theorem dX12_doHold_13 : decode cX12_doHold 13 = .ok (.goto 4, 3) := by decide +kernel
theorem dX12_doHold_16 : decode cX12_doHold 16 = .ok (.iconst 0, 1) := by decide +kernel
theorem dX12_doHold_17 : decode cX12_doHold 17 = .ok (.ireturn, 1) := by decide +kernel
theorem dX12_drawn_0 : decode cX12_drawn 0 = .ok (.iload_n 1, 1) := by decide +kernel
theorem dX12_drawn_1 : decode cX12_drawn 1 = .ok (.invokestatic 446, 3) := by decide +kernel
theorem dX12_drawn_4 : decode cX12_drawn 4 = .ok (.ifCond .eq 12, 3) := by decide +kernel
theorem dX12_drawn_7 : decode cX12_drawn 7 = .ok (.aload_n 0, 1) := by decide +kernel
theorem dX12_drawn_8 : decode cX12_drawn 8 = .ok (.iload_n 2, 1) := by decide +kernel
theorem dX12_drawn_9 : decode cX12_drawn 9 = .ok (.iload_n 3, 1) := by decide +kernel
theorem dX12_drawn_10 : decode cX12_drawn 10 = .ok (.invokevirtual 290, 3) := by decide +kernel
theorem dX12_drawn_13 : decode cX12_drawn 13 = .ok (.ifCond .ne 6, 3) := by decide +kernel
theorem dX12_drawn_16 : decode cX12_drawn 16 = .ok (.bipush (-2), 2) := by decide +kernel
theorem dX12_drawn_18 : decode cX12_drawn 18 = .ok (.ireturn, 1) := by decide +kernel
theorem dX12_drawn_19 : decode cX12_drawn 19 = .ok (.aload_n 0, 1) := by decide +kernel
theorem dX12_drawn_20 : decode cX12_drawn 20 = .ok (.iload_n 2, 1) := by decide +kernel
theorem dX12_drawn_21 : decode cX12_drawn 21 = .ok (.iload_n 3, 1) := by decide +kernel
theorem dX12_drawn_22 : decode cX12_drawn 22 = .ok (.invokevirtual 293, 3) := by decide +kernel
theorem dX12_drawn_25 : decode cX12_drawn 25 = .ok (.ifCond .eq 14, 3) := by decide +kernel
theorem dX12_drawn_28 : decode cX12_drawn 28 = .ok (.aload_n 0, 1) := by decide +kernel
theorem dX12_drawn_29 : decode cX12_drawn 29 = .ok (.iload_n 1, 1) := by decide +kernel
theorem dX12_drawn_30 : decode cX12_drawn 30 = .ok (.i2l, 1) := by decide +kernel
theorem dX12_drawn_31 : decode cX12_drawn 31 = .ok (.iload_n 2, 1) := by decide +kernel
theorem dX12_drawn_32 : decode cX12_drawn 32 = .ok (.iload_n 3, 1) := by decide +kernel
theorem dX12_drawn_33 : decode cX12_drawn 33 = .ok (.invokevirtual 449, 3) := by decide +kernel
theorem dX12_drawn_36 : decode cX12_drawn 36 = .ok (.goto 4, 3) := by decide +kernel
theorem dX12_drawn_39 : decode cX12_drawn 39 = .ok (.iconst (-1), 1) := by decide +kernel
theorem dX12_drawn_40 : decode cX12_drawn 40 = .ok (.ireturn, 1) := by decide +kernel
theorem dX12_drop_0 : decode cX12_drop 0 = .ok (.aload_n 0, 1) := by decide +kernel
theorem dX12_drop_1 : decode cX12_drop 1 = .ok (.invokevirtual 74, 3) := by decide +kernel
theorem dX12_drop_4 : decode cX12_drop 4 = .ok (.ifCond .ne 6, 3) := by decide +kernel
theorem dX12_drop_7 : decode cX12_drop 7 = .ok (.bipush (-2), 2) := by decide +kernel
theorem dX12_drop_9 : decode cX12_drop 9 = .ok (.ireturn, 1) := by decide +kernel
theorem dX12_drop_10 : decode cX12_drop 10 = .ok (.aload_n 0, 1) := by decide +kernel
theorem dX12_drop_11 : decode cX12_drop 11 = .ok (.invokevirtual 430, 3) := by decide +kernel
theorem dX12_drop_14 : decode cX12_drop 14 = .ok (.ifCond .eq 22, 3) := by decide +kernel
theorem dX12_drop_17 : decode cX12_drop 17 = .ok (.aload_n 0, 1) := by decide +kernel
theorem dX12_drop_18 : decode cX12_drop 18 = .ok (.iconst 3, 1) := by decide +kernel
theorem dX12_drop_19 : decode cX12_drop 19 = .ok (.iconst 0, 1) := by decide +kernel
theorem dX12_drop_20 : decode cX12_drop 20 = .ok (.invokevirtual 433, 3) := by decide +kernel
theorem dX12_drop_23 : decode cX12_drop 23 = .ok (.ifCond .eq 13, 3) := by decide +kernel
theorem dX12_drop_26 : decode cX12_drop 26 = .ok (.aload_n 0, 1) := by decide +kernel
theorem dX12_drop_27 : decode cX12_drop 27 = .ok (.getfield 223, 3) := by decide +kernel
theorem dX12_drop_30 : decode cX12_drop 30 = .ok (.invokestatic 355, 3) := by decide +kernel
theorem dX12_drop_33 : decode cX12_drop 33 = .ok (.goto 5, 3) := by decide +kernel
theorem dX12_drop_36 : decode cX12_drop 36 = .ok (.bipush (-5), 2) := by decide +kernel
theorem dX12_drop_38 : decode cX12_drop 38 = .ok (.ireturn, 1) := by decide +kernel
theorem dX12_end_0 : decode cX12_end 0 = .ok (.iload_n 1, 1) := by decide +kernel
theorem dX12_end_1 : decode cX12_end 1 = .ok (.i2l, 1) := by decide +kernel
theorem dX12_end_2 : decode cX12_end 2 = .ok (.lconst 0, 1) := by decide +kernel
theorem dX12_end_3 : decode cX12_end 3 = .ok (.aload_n 0, 1) := by decide +kernel
theorem dX12_end_4 : decode cX12_end 4 = .ok (.getfield 78, 3) := by decide +kernel
theorem dX12_end_7 : decode cX12_end 7 = .ok (.i2l, 1) := by decide +kernel
theorem dX12_end_8 : decode cX12_end 8 = .ok (.invokestatic 70, 3) := by decide +kernel
theorem dX12_end_11 : decode cX12_end 11 = .ok (.ifCond .ne 5, 3) := by decide +kernel
theorem dX12_end_14 : decode cX12_end 14 = .ok (.iconst (-1), 1) := by decide +kernel
theorem dX12_end_15 : decode cX12_end 15 = .ok (.ireturn, 1) := by decide +kernel
theorem dX12_end_16 : decode cX12_end 16 = .ok (.aload_n 0, 1) := by decide +kernel
theorem dX12_end_17 : decode cX12_end 17 = .ok (.iload_n 1, 1) := by decide +kernel
theorem dX12_end_18 : decode cX12_end 18 = .ok (.putfield 78, 3) := by decide +kernel
theorem dX12_end_21 : decode cX12_end 21 = .ok (.iload_n 1, 1) := by decide +kernel
theorem dX12_end_22 : decode cX12_end 22 = .ok (.ireturn, 1) := by decide +kernel
theorem dX12_ends_0 : decode cX12_ends 0 = .ok (.aload_n 0, 1) := by decide +kernel
theorem dX12_ends_1 : decode cX12_ends 1 = .ok (.iload_n 1, 1) := by decide +kernel
theorem dX12_ends_2 : decode cX12_ends 2 = .ok (.iconst 1, 1) := by decide +kernel
theorem dX12_ends_3 : decode cX12_ends 3 = .ok (.invokevirtual 341, 3) := by decide +kernel
theorem dX12_ends_6 : decode cX12_ends 6 = .ok (.ifCond .ne 6, 3) := by decide +kernel
theorem dX12_ends_9 : decode cX12_ends 9 = .ok (.bipush (-2), 2) := by decide +kernel
theorem dX12_ends_11 : decode cX12_ends 11 = .ok (.ireturn, 1) := by decide +kernel
theorem dX12_ends_12 : decode cX12_ends 12 = .ok (.aload_n 0, 1) := by decide +kernel
theorem dX12_ends_13 : decode cX12_ends 13 = .ok (.iload_n 1, 1) := by decide +kernel
theorem dX12_ends_14 : decode cX12_ends 14 = .ok (.invokevirtual 344, 3) := by decide +kernel
theorem dX12_ends_17 : decode cX12_ends 17 = .ok (.istore_n 2, 1) := by decide +kernel
theorem dX12_ends_18 : decode cX12_ends 18 = .ok (.iload_n 2, 1) := by decide +kernel
theorem dX12_ends_19 : decode cX12_ends 19 = .ok (.iconst 1, 1) := by decide +kernel
theorem dX12_ends_20 : decode cX12_ends 20 = .ok (.if_icmp .ge 5, 3) := by decide +kernel
theorem dX12_ends_23 : decode cX12_ends 23 = .ok (.iconst (-1), 1) := by decide +kernel
theorem dX12_ends_24 : decode cX12_ends 24 = .ok (.ireturn, 1) := by decide +kernel
theorem dX12_ends_25 : decode cX12_ends 25 = .ok (.aload_n 0, 1) := by decide +kernel
theorem dX12_ends_26 : decode cX12_ends 26 = .ok (.invokevirtual 259, 3) := by decide +kernel
theorem dX12_ends_29 : decode cX12_ends 29 = .ok (.aload_n 0, 1) := by decide +kernel
theorem dX12_ends_30 : decode cX12_ends 30 = .ok (.iload_n 2, 1) := by decide +kernel
theorem dX12_ends_31 : decode cX12_ends 31 = .ok (.iconst 1, 1) := by decide +kernel
theorem dX12_ends_32 : decode cX12_ends 32 = .ok (.isub, 1) := by decide +kernel
theorem dX12_ends_33 : decode cX12_ends 33 = .ok (.invokevirtual 279, 3) := by decide +kernel
theorem dX12_ends_36 : decode cX12_ends 36 = .ok (.ireturn, 1) := by decide +kernel
theorem dX12_errs_0 : decode cX12_errs 0 = .ok (.aload_n 0, 1) := by decide +kernel
theorem dX12_errs_1 : decode cX12_errs 1 = .ok (.invokevirtual 118, 3) := by decide +kernel
theorem dX12_errs_4 : decode cX12_errs 4 = .ok (.ifCond .ne 4, 3) := by decide +kernel
theorem dX12_errs_7 : decode cX12_errs 7 = .ok (.return_, 1) := by decide +kernel
theorem dX12_errs_8 : decode cX12_errs 8 = .ok (.aload_n 0, 1) := by decide +kernel
theorem dX12_errs_9 : decode cX12_errs 9 = .ok (.iload_n 1, 1) := by decide +kernel
theorem dX12_errs_10 : decode cX12_errs 10 = .ok (.putfield 115, 3) := by decide +kernel
theorem dX12_errs_13 : decode cX12_errs 13 = .ok (.aload_n 0, 1) := by decide +kernel
theorem dX12_errs_14 : decode cX12_errs 14 = .ok (.aload_n 0, 1) := by decide +kernel
theorem dX12_errs_15 : decode cX12_errs 15 = .ok (.getfield 91, 3) := by decide +kernel
theorem dX12_errs_18 : decode cX12_errs 18 = .ok (.putfield 27, 3) := by decide +kernel
theorem dX12_errs_21 : decode cX12_errs 21 = .ok (.return_, 1) := by decide +kernel
theorem dX12_even_0 : decode cX12_even 0 = .ok (.aload_n 0, 1) := by decide +kernel
theorem dX12_even_1 : decode cX12_even 1 = .ok (.invokevirtual 74, 3) := by decide +kernel
theorem dX12_even_4 : decode cX12_even 4 = .ok (.ifCond .ne 6, 3) := by decide +kernel
theorem dX12_even_7 : decode cX12_even 7 = .ok (.bipush (-2), 2) := by decide +kernel
theorem dX12_even_9 : decode cX12_even 9 = .ok (.ireturn, 1) := by decide +kernel
theorem dX12_even_10 : decode cX12_even 10 = .ok (.iconst 0, 1) := by decide +kernel
theorem dX12_even_11 : decode cX12_even 11 = .ok (.istore_n 1, 1) := by decide +kernel
theorem dX12_even_12 : decode cX12_even 12 = .ok (.iconst 1, 1) := by decide +kernel
theorem dX12_even_13 : decode cX12_even 13 = .ok (.istore_n 2, 1) := by decide +kernel
theorem dX12_even_14 : decode cX12_even 14 = .ok (.iload_n 2, 1) := by decide +kernel
theorem dX12_even_15 : decode cX12_even 15 = .ok (.aload_n 0, 1) := by decide +kernel
theorem dX12_even_16 : decode cX12_even 16 = .ok (.invokevirtual 349, 3) := by decide +kernel
theorem dX12_even_19 : decode cX12_even 19 = .ok (.if_icmp .gt 29, 3) := by decide +kernel
theorem dX12_even_22 : decode cX12_even 22 = .ok (.iload_n 1, 1) := by decide +kernel
theorem dX12_even_23 : decode cX12_even 23 = .ok (.aload_n 0, 1) := by decide +kernel
theorem dX12_even_24 : decode cX12_even 24 = .ok (.iload_n 2, 1) := by decide +kernel
theorem dX12_even_25 : decode cX12_even 25 = .ok (.iconst 0, 1) := by decide +kernel
theorem dX12_even_26 : decode cX12_even 26 = .ok (.invokevirtual 361, 3) := by decide +kernel
theorem dX12_even_29 : decode cX12_even 29 = .ok (.aload_n 0, 1) := by decide +kernel
theorem dX12_even_30 : decode cX12_even 30 = .ok (.iload_n 2, 1) := by decide +kernel
theorem dX12_even_31 : decode cX12_even 31 = .ok (.iconst 1, 1) := by decide +kernel
theorem dX12_even_32 : decode cX12_even 32 = .ok (.invokevirtual 361, 3) := by decide +kernel
theorem dX12_even_35 : decode cX12_even 35 = .ok (.invokestatic 109, 3) := by decide +kernel
theorem dX12_even_38 : decode cX12_even 38 = .ok (.invokestatic 271, 3) := by decide +kernel
theorem dX12_even_41 : decode cX12_even 41 = .ok (.istore_n 1, 1) := by decide +kernel
theorem dX12_even_42 : decode cX12_even 42 = .ok (.iinc 2 1, 3) := by decide +kernel
theorem dX12_even_45 : decode cX12_even 45 = .ok (.goto (-31), 3) := by decide +kernel
theorem dX12_even_48 : decode cX12_even 48 = .ok (.iload_n 1, 1) := by decide +kernel
theorem dX12_even_49 : decode cX12_even 49 = .ok (.ireturn, 1) := by decide +kernel
theorem dX12_fair_0 : decode cX12_fair 0 = .ok (.aload_n 0, 1) := by decide +kernel
theorem dX12_fair_1 : decode cX12_fair 1 = .ok (.invokevirtual 74, 3) := by decide +kernel
theorem dX12_fair_4 : decode cX12_fair 4 = .ok (.ifCond .ne 6, 3) := by decide +kernel
theorem dX12_fair_7 : decode cX12_fair 7 = .ok (.bipush (-2), 2) := by decide +kernel
theorem dX12_fair_9 : decode cX12_fair 9 = .ok (.ireturn, 1) := by decide +kernel
theorem dX12_fair_10 : decode cX12_fair 10 = .ok (.aload_n 0, 1) := by decide +kernel
theorem dX12_fair_11 : decode cX12_fair 11 = .ok (.iconst 0, 1) := by decide +kernel
theorem dX12_fair_12 : decode cX12_fair 12 = .ok (.invokevirtual 302, 3) := by decide +kernel
theorem dX12_fair_15 : decode cX12_fair 15 = .ok (.aload_n 0, 1) := by decide +kernel
theorem dX12_fair_16 : decode cX12_fair 16 = .ok (.getfield 37, 3) := by decide +kernel
theorem dX12_fair_19 : decode cX12_fair 19 = .ok (.iconst 0, 1) := by decide +kernel
theorem dX12_fair_20 : decode cX12_fair 20 = .ok (.iaload, 1) := by decide +kernel
theorem dX12_fair_21 : decode cX12_fair 21 = .ok (.istore_n 1, 1) := by decide +kernel
theorem dX12_fair_22 : decode cX12_fair 22 = .ok (.iload_n 1, 1) := by decide +kernel
theorem dX12_fair_23 : decode cX12_fair 23 = .ok (.ifCond .ne 5, 3) := by decide +kernel
theorem dX12_fair_26 : decode cX12_fair 26 = .ok (.iconst 0, 1) := by decide +kernel
theorem dX12_fair_27 : decode cX12_fair 27 = .ok (.ireturn, 1) := by decide +kernel
theorem dX12_fair_28 : decode cX12_fair 28 = .ok (.iconst 0, 1) := by decide +kernel
theorem dX12_fair_29 : decode cX12_fair 29 = .ok (.istore_n 2, 1) := by decide +kernel
theorem dX12_fair_30 : decode cX12_fair 30 = .ok (.aload_n 0, 1) := by decide +kernel
theorem dX12_fair_31 : decode cX12_fair 31 = .ok (.getfield 37, 3) := by decide +kernel
theorem dX12_fair_34 : decode cX12_fair 34 = .ok (.iconst 0, 1) := by decide +kernel
theorem dX12_fair_35 : decode cX12_fair 35 = .ok (.iaload, 1) := by decide +kernel
theorem dX12_fair_36 : decode cX12_fair 36 = .ok (.iload_n 1, 1) := by decide +kernel
theorem dX12_fair_37 : decode cX12_fair 37 = .ok (.if_icmp .ne 14, 3) := by decide +kernel
theorem dX12_fair_40 : decode cX12_fair 40 = .ok (.iinc 2 1, 3) := by decide +kernel
theorem dX12_fair_43 : decode cX12_fair 43 = .ok (.aload_n 0, 1) := by decide +kernel
theorem dX12_fair_44 : decode cX12_fair 44 = .ok (.iload_n 2, 1) := by decide +kernel
theorem dX12_fair_45 : decode cX12_fair 45 = .ok (.invokevirtual 302, 3) := by decide +kernel
theorem dX12_fair_48 : decode cX12_fair 48 = .ok (.goto (-18), 3) := by decide +kernel
theorem dX12_fair_51 : decode cX12_fair 51 = .ok (.iload_n 2, 1) := by decide +kernel
theorem dX12_fair_52 : decode cX12_fair 52 = .ok (.iconst 1, 1) := by decide +kernel
theorem dX12_fair_53 : decode cX12_fair 53 = .ok (.isub, 1) := by decide +kernel
theorem dX12_fair_54 : decode cX12_fair 54 = .ok (.ireturn, 1) := by decide +kernel
theorem dX12_fault_0 : decode cX12_fault 0 = .ok (.iload_n 1, 1) := by decide +kernel
theorem dX12_fault_1 : decode cX12_fault 1 = .ok (.ifCond .ne 10, 3) := by decide +kernel
theorem dX12_fault_4 : decode cX12_fault 4 = .ok (.aload_n 0, 1) := by decide +kernel
theorem dX12_fault_5 : decode cX12_fault 5 = .ok (.getfield 115, 3) := by decide +kernel
theorem dX12_fault_8 : decode cX12_fault 8 = .ok (.goto 16, 3) := by decide +kernel
theorem dX12_fault_11 : decode cX12_fault 11 = .ok (.iload_n 1, 1) := by decide +kernel
theorem dX12_fault_12 : decode cX12_fault 12 = .ok (.iconst 1, 1) := by decide +kernel
theorem dX12_fault_13 : decode cX12_fault 13 = .ok (.if_icmp .ne 10, 3) := by decide +kernel
theorem dX12_fault_16 : decode cX12_fault 16 = .ok (.aload_n 0, 1) := by decide +kernel
theorem dX12_fault_17 : decode cX12_fault 17 = .ok (.getfield 27, 3) := by decide +kernel
theorem dX12_fault_20 : decode cX12_fault 20 = .ok (.goto 4, 3) := by decide +kernel
theorem dX12_fault_23 : decode cX12_fault 23 = .ok (.iconst (-1), 1) := by decide +kernel
theorem dX12_fault_24 : decode cX12_fault 24 = .ok (.ireturn, 1) := by decide +kernel
theorem dX12_feed_0 : decode cX12_feed 0 = .ok (.aload_n 0, 1) := by decide +kernel
theorem dX12_feed_1 : decode cX12_feed 1 = .ok (.getfield 78, 3) := by decide +kernel
theorem dX12_feed_4 : decode cX12_feed 4 = .ok (.bipush 20, 2) := by decide +kernel
theorem dX12_feed_6 : decode cX12_feed 6 = .ok (.iadd, 1) := by decide +kernel
theorem dX12_feed_7 : decode cX12_feed 7 = .ok (.sipush 800, 3) := by decide +kernel
theorem dX12_feed_10 : decode cX12_feed 10 = .ok (.if_icmp .le 5, 3) := by decide +kernel
theorem dX12_feed_13 : decode cX12_feed 13 = .ok (.iconst (-1), 1) := by decide +kernel
theorem dX12_feed_14 : decode cX12_feed 14 = .ok (.ireturn, 1) := by decide +kernel
theorem dX12_feed_15 : decode cX12_feed 15 = .ok (.aload_n 0, 1) := by decide +kernel
theorem dX12_feed_16 : decode cX12_feed 16 = .ok (.getfield 24, 3) := by decide +kernel
theorem dX12_feed_19 : decode cX12_feed 19 = .ok (.iconst 0, 1) := by decide +kernel
theorem dX12_feed_20 : decode cX12_feed 20 = .ok (.iload_n 1, 1) := by decide +kernel
theorem dX12_feed_21 : decode cX12_feed 21 = .ok (.iastore, 1) := by decide +kernel
theorem dX12_feed_22 : decode cX12_feed 22 = .ok (.aload_n 0, 1) := by decide +kernel
theorem dX12_feed_23 : decode cX12_feed 23 = .ok (.getfield 24, 3) := by decide +kernel
theorem dX12_feed_26 : decode cX12_feed 26 = .ok (.iconst 1, 1) := by decide +kernel
theorem dX12_feed_27 : decode cX12_feed 27 = .ok (.iload_n 2, 1) := by decide +kernel
theorem dX12_feed_28 : decode cX12_feed 28 = .ok (.iastore, 1) := by decide +kernel
theorem dX12_feed_29 : decode cX12_feed 29 = .ok (.aload_n 0, 1) := by decide +kernel
theorem dX12_feed_30 : decode cX12_feed 30 = .ok (.getfield 24, 3) := by decide +kernel
theorem dX12_feed_33 : decode cX12_feed 33 = .ok (.iconst 2, 1) := by decide +kernel
theorem dX12_feed_34 : decode cX12_feed 34 = .ok (.iload_n 3, 1) := by decide +kernel
theorem dX12_feed_35 : decode cX12_feed 35 = .ok (.iastore, 1) := by decide +kernel
theorem dX12_feed_36 : decode cX12_feed 36 = .ok (.aload_n 0, 1) := by decide +kernel
theorem dX12_feed_37 : decode cX12_feed 37 = .ok (.getfield 24, 3) := by decide +kernel
theorem dX12_feed_40 : decode cX12_feed 40 = .ok (.iconst 3, 1) := by decide +kernel
theorem dX12_feed_41 : decode cX12_feed 41 = .ok (.iload 4, 2) := by decide +kernel
theorem dX12_feed_43 : decode cX12_feed 43 = .ok (.iastore, 1) := by decide +kernel
theorem dX12_feed_44 : decode cX12_feed 44 = .ok (.aload_n 0, 1) := by decide +kernel
theorem dX12_feed_45 : decode cX12_feed 45 = .ok (.getfield 24, 3) := by decide +kernel
theorem dX12_feed_48 : decode cX12_feed 48 = .ok (.iconst 4, 1) := by decide +kernel
theorem dX12_feed_49 : decode cX12_feed 49 = .ok (.iload 5, 2) := by decide +kernel
theorem dX12_feed_51 : decode cX12_feed 51 = .ok (.iastore, 1) := by decide +kernel
theorem dX12_feed_52 : decode cX12_feed 52 = .ok (.iconst 0, 1) := by decide +kernel
theorem dX12_feed_53 : decode cX12_feed 53 = .ok (.istore 6, 2) := by decide +kernel
theorem dX12_feed_55 : decode cX12_feed 55 = .ok (.iload 6, 2) := by decide +kernel
theorem dX12_feed_57 : decode cX12_feed 57 = .ok (.bipush 20, 2) := by decide +kernel
theorem dX12_feed_59 : decode cX12_feed 59 = .ok (.if_icmp .ge 42, 3) := by decide +kernel
theorem dX12_feed_62 : decode cX12_feed 62 = .ok (.aload_n 0, 1) := by decide +kernel
theorem dX12_feed_63 : decode cX12_feed 63 = .ok (.getfield 20, 3) := by decide +kernel
theorem dX12_feed_66 : decode cX12_feed 66 = .ok (.aload_n 0, 1) := by decide +kernel
theorem dX12_feed_67 : decode cX12_feed 67 = .ok (.getfield 78, 3) := by decide +kernel
theorem dX12_feed_70 : decode cX12_feed 70 = .ok (.iload 6, 2) := by decide +kernel
theorem dX12_feed_72 : decode cX12_feed 72 = .ok (.iadd, 1) := by decide +kernel
theorem dX12_feed_73 : decode cX12_feed 73 = .ok (.aload_n 0, 1) := by decide +kernel
theorem dX12_feed_74 : decode cX12_feed 74 = .ok (.getfield 24, 3) := by decide +kernel
theorem dX12_feed_77 : decode cX12_feed 77 = .ok (.iload 6, 2) := by decide +kernel
theorem dX12_feed_79 : decode cX12_feed 79 = .ok (.iconst 4, 1) := by decide +kernel
theorem dX12_feed_80 : decode cX12_feed 80 = .ok (.idiv, 1) := by decide +kernel
theorem dX12_feed_81 : decode cX12_feed 81 = .ok (.iaload, 1) := by decide +kernel
theorem dX12_feed_82 : decode cX12_feed 82 = .ok (.bipush 24, 2) := by decide +kernel
theorem dX12_feed_84 : decode cX12_feed 84 = .ok (.bipush 8, 2) := by decide +kernel
theorem dX12_feed_86 : decode cX12_feed 86 = .ok (.iload 6, 2) := by decide +kernel
theorem dX12_feed_88 : decode cX12_feed 88 = .ok (.iconst 4, 1) := by decide +kernel
theorem dX12_feed_89 : decode cX12_feed 89 = .ok (.irem, 1) := by decide +kernel
theorem dX12_feed_90 : decode cX12_feed 90 = .ok (.imul, 1) := by decide +kernel
theorem dX12_feed_91 : decode cX12_feed 91 = .ok (.isub, 1) := by decide +kernel
theorem dX12_feed_92 : decode cX12_feed 92 = .ok (.ishr, 1) := by decide +kernel
theorem dX12_feed_93 : decode cX12_feed 93 = .ok (.i2b, 1) := by decide +kernel
theorem dX12_feed_94 : decode cX12_feed 94 = .ok (.bastore, 1) := by decide +kernel
theorem dX12_feed_95 : decode cX12_feed 95 = .ok (.iinc 6 1, 3) := by decide +kernel
theorem dX12_feed_98 : decode cX12_feed 98 = .ok (.goto (-43), 3) := by decide +kernel
theorem dX12_feed_101 : decode cX12_feed 101 = .ok (.aload_n 0, 1) := by decide +kernel
theorem dX12_feed_102 : decode cX12_feed 102 = .ok (.dup, 1) := by decide +kernel
theorem dX12_feed_103 : decode cX12_feed 103 = .ok (.getfield 78, 3) := by decide +kernel
theorem dX12_feed_106 : decode cX12_feed 106 = .ok (.bipush 20, 2) := by decide +kernel
theorem dX12_feed_108 : decode cX12_feed 108 = .ok (.iadd, 1) := by decide +kernel
theorem dX12_feed_109 : decode cX12_feed 109 = .ok (.putfield 78, 3) := by decide +kernel
theorem dX12_feed_112 : decode cX12_feed 112 = .ok (.aload_n 0, 1) := by decide +kernel
theorem dX12_feed_113 : decode cX12_feed 113 = .ok (.getfield 78, 3) := by decide +kernel
theorem dX12_feed_116 : decode cX12_feed 116 = .ok (.ireturn, 1) := by decide +kernel
theorem dX12_firm_0 : decode cX12_firm 0 = .ok (.aload_n 0, 1) := by decide +kernel
theorem dX12_firm_1 : decode cX12_firm 1 = .ok (.invokevirtual 74, 3) := by decide +kernel
theorem dX12_firm_4 : decode cX12_firm 4 = .ok (.ifCond .ne 6, 3) := by decide +kernel
theorem dX12_firm_7 : decode cX12_firm 7 = .ok (.bipush (-2), 2) := by decide +kernel
theorem dX12_firm_9 : decode cX12_firm 9 = .ok (.ireturn, 1) := by decide +kernel
theorem dX12_firm_10 : decode cX12_firm 10 = .ok (.iconst 0, 1) := by decide +kernel
theorem dX12_firm_11 : decode cX12_firm 11 = .ok (.istore_n 1, 1) := by decide +kernel
theorem dX12_firm_12 : decode cX12_firm 12 = .ok (.iconst 0, 1) := by decide +kernel
theorem dX12_firm_13 : decode cX12_firm 13 = .ok (.istore_n 2, 1) := by decide +kernel
theorem dX12_firm_14 : decode cX12_firm 14 = .ok (.iload_n 2, 1) := by decide +kernel
theorem dX12_firm_15 : decode cX12_firm 15 = .ok (.aload_n 0, 1) := by decide +kernel
theorem dX12_firm_16 : decode cX12_firm 16 = .ok (.invokevirtual 349, 3) := by decide +kernel
theorem dX12_firm_19 : decode cX12_firm 19 = .ok (.if_icmp .gt 25, 3) := by decide +kernel
theorem dX12_firm_22 : decode cX12_firm 22 = .ok (.iload_n 1, 1) := by decide +kernel
theorem dX12_firm_23 : decode cX12_firm 23 = .ok (.aload_n 0, 1) := by decide +kernel
theorem dX12_firm_24 : decode cX12_firm 24 = .ok (.iload_n 2, 1) := by decide +kernel
theorem dX12_firm_25 : decode cX12_firm 25 = .ok (.invokevirtual 382, 3) := by decide +kernel
theorem dX12_firm_28 : decode cX12_firm 28 = .ok (.ifCond .eq 7, 3) := by decide +kernel
theorem dX12_firm_31 : decode cX12_firm 31 = .ok (.iconst 1, 1) := by decide +kernel
theorem dX12_firm_32 : decode cX12_firm 32 = .ok (.goto 4, 3) := by decide +kernel
theorem dX12_firm_35 : decode cX12_firm 35 = .ok (.iconst 0, 1) := by decide +kernel
theorem dX12_firm_36 : decode cX12_firm 36 = .ok (.iadd, 1) := by decide +kernel
theorem dX12_firm_37 : decode cX12_firm 37 = .ok (.istore_n 1, 1) := by decide +kernel
theorem dX12_firm_38 : decode cX12_firm 38 = .ok (.iinc 2 1, 3) := by decide +kernel
theorem dX12_firm_41 : decode cX12_firm 41 = .ok (.goto (-27), 3) := by decide +kernel
theorem dX12_firm_44 : decode cX12_firm 44 = .ok (.iload_n 1, 1) := by decide +kernel
theorem dX12_firm_45 : decode cX12_firm 45 = .ok (.ireturn, 1) := by decide +kernel
theorem dX12_fits_0 : decode cX12_fits 0 = .ok (.aload_n 0, 1) := by decide +kernel
theorem dX12_fits_1 : decode cX12_fits 1 = .ok (.iload_n 1, 1) := by decide +kernel
theorem dX12_fits_2 : decode cX12_fits 2 = .ok (.iconst 1, 1) := by decide +kernel
theorem dX12_fits_3 : decode cX12_fits 3 = .ok (.invokevirtual 396, 3) := by decide +kernel
theorem dX12_fits_6 : decode cX12_fits 6 = .ok (.istore_n 2, 1) := by decide +kernel
theorem dX12_fits_7 : decode cX12_fits 7 = .ok (.iload_n 2, 1) := by decide +kernel
theorem dX12_fits_8 : decode cX12_fits 8 = .ok (.ifCond .ge 7, 3) := by decide +kernel
theorem dX12_fits_11 : decode cX12_fits 11 = .ok (.iload_n 2, 1) := by decide +kernel
theorem dX12_fits_12 : decode cX12_fits 12 = .ok (.goto 7, 3) := by decide +kernel
theorem dX12_fits_15 : decode cX12_fits 15 = .ok (.aload_n 0, 1) := by decide +kernel
theorem dX12_fits_16 : decode cX12_fits 16 = .ok (.getfield 389, 3) := by decide +kernel
theorem dX12_fits_19 : decode cX12_fits 19 = .ok (.ireturn, 1) := by decide +kernel
theorem dX12_full_0 : decode cX12_full 0 = .ok (.aload_n 0, 1) := by decide +kernel
theorem dX12_full_1 : decode cX12_full 1 = .ok (.iload_n 1, 1) := by decide +kernel
theorem dX12_full_2 : decode cX12_full 2 = .ok (.iconst 0, 1) := by decide +kernel
theorem dX12_full_3 : decode cX12_full 3 = .ok (.invokevirtual 341, 3) := by decide +kernel
theorem dX12_full_6 : decode cX12_full 6 = .ok (.ifCond .eq 14, 3) := by decide +kernel
theorem dX12_full_9 : decode cX12_full 9 = .ok (.aload_n 0, 1) := by decide +kernel
theorem dX12_full_10 : decode cX12_full 10 = .ok (.iload_n 1, 1) := by decide +kernel
theorem dX12_full_11 : decode cX12_full 11 = .ok (.invokevirtual 358, 3) := by decide +kernel
theorem dX12_full_14 : decode cX12_full 14 = .ok (.invokestatic 355, 3) := by decide +kernel
theorem dX12_full_17 : decode cX12_full 17 = .ok (.goto 5, 3) := by decide +kernel
theorem dX12_full_20 : decode cX12_full 20 = .ok (.bipush (-2), 2) := by decide +kernel
theorem dX12_full_22 : decode cX12_full 22 = .ok (.ireturn, 1) := by decide +kernel
theorem dX12_fullOf_0 : decode cX12_fullOf 0 = .ok (.iconst 0, 1) := by decide +kernel
theorem dX12_fullOf_1 : decode cX12_fullOf 1 = .ok (.istore_n 2, 1) := by decide +kernel
theorem dX12_fullOf_2 : decode cX12_fullOf 2 = .ok (.iconst 1, 1) := by decide +kernel
theorem dX12_fullOf_3 : decode cX12_fullOf 3 = .ok (.istore_n 3, 1) := by decide +kernel
theorem dX12_fullOf_4 : decode cX12_fullOf 4 = .ok (.iload_n 3, 1) := by decide +kernel
theorem dX12_fullOf_5 : decode cX12_fullOf 5 = .ok (.aload_n 0, 1) := by decide +kernel
theorem dX12_fullOf_6 : decode cX12_fullOf 6 = .ok (.invokevirtual 349, 3) := by decide +kernel
theorem dX12_fullOf_9 : decode cX12_fullOf 9 = .ok (.if_icmp .gt 31, 3) := by decide +kernel
theorem dX12_fullOf_12 : decode cX12_fullOf 12 = .ok (.aload_n 0, 1) := by decide +kernel
theorem dX12_fullOf_13 : decode cX12_fullOf 13 = .ok (.iload_n 3, 1) := by decide +kernel
theorem dX12_fullOf_14 : decode cX12_fullOf 14 = .ok (.invokevirtual 352, 3) := by decide +kernel
theorem dX12_fullOf_17 : decode cX12_fullOf 17 = .ok (.iload_n 1, 1) := by decide +kernel
theorem dX12_fullOf_18 : decode cX12_fullOf 18 = .ok (.if_icmp .gt 16, 3) := by decide +kernel
theorem dX12_fullOf_21 : decode cX12_fullOf 21 = .ok (.iload_n 3, 1) := by decide +kernel
theorem dX12_fullOf_22 : decode cX12_fullOf 22 = .ok (.invokestatic 355, 3) := by decide +kernel
theorem dX12_fullOf_25 : decode cX12_fullOf 25 = .ok (.iload_n 2, 1) := by decide +kernel
theorem dX12_fullOf_26 : decode cX12_fullOf 26 = .ok (.invokestatic 355, 3) := by decide +kernel
theorem dX12_fullOf_29 : decode cX12_fullOf 29 = .ok (.if_icmp .le 5, 3) := by decide +kernel
theorem dX12_fullOf_32 : decode cX12_fullOf 32 = .ok (.iload_n 3, 1) := by decide +kernel
theorem dX12_fullOf_33 : decode cX12_fullOf 33 = .ok (.istore_n 2, 1) := by decide +kernel
theorem dX12_fullOf_34 : decode cX12_fullOf 34 = .ok (.iinc 3 1, 3) := by decide +kernel
theorem dX12_fullOf_37 : decode cX12_fullOf 37 = .ok (.goto (-33), 3) := by decide +kernel
theorem dX12_fullOf_40 : decode cX12_fullOf 40 = .ok (.iload_n 2, 1) := by decide +kernel
theorem dX12_fullOf_41 : decode cX12_fullOf 41 = .ok (.ireturn, 1) := by decide +kernel
theorem dX12_fulls_0 : decode cX12_fulls 0 = .ok (.aload_n 0, 1) := by decide +kernel
theorem dX12_fulls_1 : decode cX12_fulls 1 = .ok (.iload_n 1, 1) := by decide +kernel
theorem dX12_fulls_2 : decode cX12_fulls 2 = .ok (.iconst 0, 1) := by decide +kernel
theorem dX12_fulls_3 : decode cX12_fulls 3 = .ok (.invokevirtual 341, 3) := by decide +kernel
theorem dX12_fulls_6 : decode cX12_fulls 6 = .ok (.ifCond .eq 11, 3) := by decide +kernel
theorem dX12_fulls_9 : decode cX12_fulls 9 = .ok (.aload_n 0, 1) := by decide +kernel
theorem dX12_fulls_10 : decode cX12_fulls 10 = .ok (.iload_n 1, 1) := by decide +kernel
theorem dX12_fulls_11 : decode cX12_fulls 11 = .ok (.invokevirtual 358, 3) := by decide +kernel
theorem dX12_fulls_14 : decode cX12_fulls 14 = .ok (.goto 5, 3) := by decide +kernel
theorem dX12_fulls_17 : decode cX12_fulls 17 = .ok (.bipush (-2), 2) := by decide +kernel
theorem dX12_fulls_19 : decode cX12_fulls 19 = .ok (.ireturn, 1) := by decide +kernel
theorem dX12_gives_0 : decode cX12_gives 0 = .ok (.aload_n 0, 1) := by decide +kernel
theorem dX12_gives_1 : decode cX12_gives 1 = .ok (.ldc 152, 2) := by decide +kernel
theorem dX12_gives_3 : decode cX12_gives 3 = .ok (.invokevirtual 138, 3) := by decide +kernel
theorem dX12_gives_6 : decode cX12_gives 6 = .ok (.ifCond .eq 12, 3) := by decide +kernel
theorem dX12_gives_9 : decode cX12_gives 9 = .ok (.aload_n 0, 1) := by decide +kernel
theorem dX12_gives_10 : decode cX12_gives 10 = .ok (.iconst 0, 1) := by decide +kernel
theorem dX12_gives_11 : decode cX12_gives 11 = .ok (.bipush 99, 2) := by decide +kernel
theorem dX12_gives_13 : decode cX12_gives 13 = .ok (.invokevirtual 149, 3) := by decide +kernel
theorem dX12_gives_16 : decode cX12_gives 16 = .ok (.ineg, 1) := by decide +kernel
theorem dX12_gives_17 : decode cX12_gives 17 = .ok (.ireturn, 1) := by decide +kernel
theorem dX12_gives_18 : decode cX12_gives 18 = .ok (.aload_n 0, 1) := by decide +kernel
theorem dX12_gives_19 : decode cX12_gives 19 = .ok (.ldc 153, 2) := by decide +kernel
theorem dX12_gives_21 : decode cX12_gives 21 = .ok (.invokevirtual 145, 3) := by decide +kernel
theorem dX12_gives_24 : decode cX12_gives 24 = .ok (.aload_n 0, 1) := by decide +kernel
theorem dX12_gives_25 : decode cX12_gives 25 = .ok (.iconst 0, 1) := by decide +kernel
theorem dX12_gives_26 : decode cX12_gives 26 = .ok (.bipush 99, 2) := by decide +kernel
theorem dX12_gives_28 : decode cX12_gives 28 = .ok (.invokevirtual 149, 3) := by decide +kernel
theorem dX12_gives_31 : decode cX12_gives 31 = .ok (.ireturn, 1) := by decide +kernel
theorem dX12_goDrawn_0 : decode cX12_goDrawn 0 = .ok (.lload_n 1, 1) := by decide +kernel
theorem dX12_goDrawn_1 : decode cX12_goDrawn 1 = .ok (.lstore 5, 2) := by decide +kernel
theorem dX12_goDrawn_3 : decode cX12_goDrawn 3 = .ok (.iconst 0, 1) := by decide +kernel
theorem dX12_goDrawn_4 : decode cX12_goDrawn 4 = .ok (.istore 7, 2) := by decide +kernel
theorem dX12_goDrawn_6 : decode cX12_goDrawn 6 = .ok (.iload 7, 2) := by decide +kernel
theorem dX12_goDrawn_8 : decode cX12_goDrawn 8 = .ok (.aload_n 0, 1) := by decide +kernel
theorem dX12_goDrawn_9 : decode cX12_goDrawn 9 = .ok (.iload_n 3, 1) := by decide +kernel
theorem dX12_goDrawn_10 : decode cX12_goDrawn 10 = .ok (.iload 4, 2) := by decide +kernel
theorem dX12_goDrawn_12 : decode cX12_goDrawn 12 = .ok (.invokevirtual 239, 3) := by decide +kernel
theorem dX12_goDrawn_15 : decode cX12_goDrawn 15 = .ok (.if_icmp .ge 49, 3) := by decide +kernel
theorem dX12_goDrawn_18 : decode cX12_goDrawn 18 = .ok (.ldc2_w 438, 3) := by decide +kernel
theorem dX12_goDrawn_21 : decode cX12_goDrawn 21 = .ok (.lload 5, 2) := by decide +kernel
theorem dX12_goDrawn_23 : decode cX12_goDrawn 23 = .ok (.lmul, 1) := by decide +kernel
theorem dX12_goDrawn_24 : decode cX12_goDrawn 24 = .ok (.ldc2_w 440, 3) := by decide +kernel
theorem dX12_goDrawn_27 : decode cX12_goDrawn 27 = .ok (.ladd, 1) := by decide +kernel
theorem dX12_goDrawn_28 : decode cX12_goDrawn 28 = .ok (.ldc2_w 442, 3) := by decide +kernel
theorem dX12_goDrawn_31 : decode cX12_goDrawn 31 = .ok (.lrem, 1) := by decide +kernel
theorem dX12_goDrawn_32 : decode cX12_goDrawn 32 = .ok (.lstore 5, 2) := by decide +kernel
theorem dX12_goDrawn_34 : decode cX12_goDrawn 34 = .ok (.lload 5, 2) := by decide +kernel
theorem dX12_goDrawn_36 : decode cX12_goDrawn 36 = .ok (.ldc2_w 444, 3) := by decide +kernel
theorem dX12_goDrawn_39 : decode cX12_goDrawn 39 = .ok (.ldiv, 1) := by decide +kernel
theorem dX12_goDrawn_40 : decode cX12_goDrawn 40 = .ok (.ldc2_w 417, 3) := by decide +kernel
theorem dX12_goDrawn_43 : decode cX12_goDrawn 43 = .ok (.lrem, 1) := by decide +kernel
theorem dX12_goDrawn_44 : decode cX12_goDrawn 44 = .ok (.aload_n 0, 1) := by decide +kernel
theorem dX12_goDrawn_45 : decode cX12_goDrawn 45 = .ok (.getfield 9, 3) := by decide +kernel
theorem dX12_goDrawn_48 : decode cX12_goDrawn 48 = .ok (.iconst 2, 1) := by decide +kernel
theorem dX12_goDrawn_49 : decode cX12_goDrawn 49 = .ok (.iaload, 1) := by decide +kernel
theorem dX12_goDrawn_50 : decode cX12_goDrawn 50 = .ok (.i2l, 1) := by decide +kernel
theorem dX12_goDrawn_51 : decode cX12_goDrawn 51 = .ok (.lcmp, 1) := by decide +kernel
theorem dX12_goDrawn_52 : decode cX12_goDrawn 52 = .ok (.ifCond .ge 6, 3) := by decide +kernel
theorem dX12_goDrawn_55 : decode cX12_goDrawn 55 = .ok (.iload 7, 2) := by decide +kernel
theorem dX12_goDrawn_57 : decode cX12_goDrawn 57 = .ok (.ireturn, 1) := by decide +kernel
theorem dX12_goDrawn_58 : decode cX12_goDrawn 58 = .ok (.iinc 7 1, 3) := by decide +kernel
theorem dX12_goDrawn_61 : decode cX12_goDrawn 61 = .ok (.goto (-55), 3) := by decide +kernel
theorem dX12_goDrawn_64 : decode cX12_goDrawn 64 = .ok (.iload 7, 2) := by decide +kernel
theorem dX12_goDrawn_66 : decode cX12_goDrawn 66 = .ok (.ireturn, 1) := by decide +kernel
theorem dX12_good_0 : decode cX12_good 0 = .ok (.aload_n 0, 1) := by decide +kernel
theorem dX12_good_1 : decode cX12_good 1 = .ok (.getfield 115, 3) := by decide +kernel
theorem dX12_good_4 : decode cX12_good 4 = .ok (.ifCond .ne 7, 3) := by decide +kernel
theorem dX12_good_7 : decode cX12_good 7 = .ok (.iconst 1, 1) := by decide +kernel
theorem dX12_good_8 : decode cX12_good 8 = .ok (.goto 4, 3) := by decide +kernel
theorem dX12_good_11 : decode cX12_good 11 = .ok (.iconst 0, 1) := by decide +kernel
theorem dX12_good_12 : decode cX12_good 12 = .ok (.ireturn, 1) := by decide +kernel
theorem dX12_gorge_0 : decode cX12_gorge 0 = .ok (.aload_n 0, 1) := by decide +kernel
theorem dX12_gorge_1 : decode cX12_gorge 1 = .ok (.aload_n 0, 1) := by decide +kernel
theorem dX12_gorge_2 : decode cX12_gorge 2 = .ok (.getfield 78, 3) := by decide +kernel
theorem dX12_gorge_5 : decode cX12_gorge 5 = .ok (.putfield 81, 3) := by decide +kernel
theorem dX12_gorge_8 : decode cX12_gorge 8 = .ok (.aload_n 0, 1) := by decide +kernel
theorem dX12_gorge_9 : decode cX12_gorge 9 = .ok (.iconst 0, 1) := by decide +kernel
theorem dX12_gorge_10 : decode cX12_gorge 10 = .ok (.putfield 78, 3) := by decide +kernel
theorem dX12_gorge_13 : decode cX12_gorge 13 = .ok (.aload_n 0, 1) := by decide +kernel
theorem dX12_gorge_14 : decode cX12_gorge 14 = .ok (.iconst 0, 1) := by decide +kernel
theorem dX12_gorge_15 : decode cX12_gorge 15 = .ok (.putfield 84, 3) := by decide +kernel
theorem dX12_gorge_18 : decode cX12_gorge 18 = .ok (.aload_n 0, 1) := by decide +kernel
theorem dX12_gorge_19 : decode cX12_gorge 19 = .ok (.iconst 0, 1) := by decide +kernel
theorem dX12_gorge_20 : decode cX12_gorge 20 = .ok (.putfield 115, 3) := by decide +kernel
theorem dX12_gorge_23 : decode cX12_gorge 23 = .ok (.aload_n 0, 1) := by decide +kernel
theorem dX12_gorge_24 : decode cX12_gorge 24 = .ok (.iconst (-1), 1) := by decide +kernel
theorem dX12_gorge_25 : decode cX12_gorge 25 = .ok (.putfield 27, 3) := by decide +kernel
theorem dX12_gorge_28 : decode cX12_gorge 28 = .ok (.iconst 0, 1) := by decide +kernel
theorem dX12_gorge_29 : decode cX12_gorge 29 = .ok (.istore_n 1, 1) := by decide +kernel
theorem dX12_gorge_30 : decode cX12_gorge 30 = .ok (.iload_n 1, 1) := by decide +kernel
theorem dX12_gorge_31 : decode cX12_gorge 31 = .ok (.bipush 122, 2) := by decide +kernel
theorem dX12_gorge_33 : decode cX12_gorge 33 = .ok (.if_icmp .ge 16, 3) := by decide +kernel
theorem dX12_gorge_36 : decode cX12_gorge 36 = .ok (.aload_n 0, 1) := by decide +kernel
theorem dX12_gorge_37 : decode cX12_gorge 37 = .ok (.getfield 31, 3) := by decide +kernel
theorem dX12_gorge_40 : decode cX12_gorge 40 = .ok (.iload_n 1, 1) := by decide +kernel
theorem dX12_gorge_41 : decode cX12_gorge 41 = .ok (.iconst 0, 1) := by decide +kernel
theorem dX12_gorge_42 : decode cX12_gorge 42 = .ok (.iastore, 1) := by decide +kernel
theorem dX12_gorge_43 : decode cX12_gorge 43 = .ok (.iinc 1 1, 3) := by decide +kernel
theorem dX12_gorge_46 : decode cX12_gorge 46 = .ok (.goto (-16), 3) := by decide +kernel
theorem dX12_gorge_49 : decode cX12_gorge 49 = .ok (.aload_n 0, 1) := by decide +kernel

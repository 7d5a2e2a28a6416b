theorem dX11_cut_23 : decode cX11_cut 23 = .ok (.iload_n 1, 1) := by decide +kernel
theorem dX11_cut_24 : decode cX11_cut 24 = .ok (.iload_n 2, 1) := by decide +kernel
theorem dX11_cut_25 : decode cX11_cut 25 = .ok (.invokevirtual 230, 3) := by decide +kernel
theorem dX11_cut_28 : decode cX11_cut 28 = .ok (.ireturn, 1) := by decide +kernel
theorem dX11_deal_0 : decode cX11_deal 0 = .ok (.aload_n 0, 1) := by decide +kernel
theorem dX11_deal_1 : decode cX11_deal 1 = .ok (.getfield 28, 3) := by decide +kernel
theorem dX11_deal_4 : decode cX11_deal 4 = .ok (.invokevirtual 166, 3) := by decide +kernel
theorem dX11_deal_7 : decode cX11_deal 7 = .ok (.ifCond .eq 13, 3) := by decide +kernel
theorem dX11_deal_10 : decode cX11_deal 10 = .ok (.aload_n 0, 1) := by decide +kernel
theorem dX11_deal_11 : decode cX11_deal 11 = .ok (.getfield 79, 3) := by decide +kernel
theorem dX11_deal_14 : decode cX11_deal 14 = .ok (.invokevirtual 273, 3) := by decide +kernel
theorem dX11_deal_17 : decode cX11_deal 17 = .ok (.goto 5, 3) := by decide +kernel
theorem dX11_deal_20 : decode cX11_deal 20 = .ok (.bipush (-2), 2) := by decide +kernel
theorem dX11_deal_22 : decode cX11_deal 22 = .ok (.ireturn, 1) := by decide +kernel
theorem dX11_drawn_0 : decode cX11_drawn 0 = .ok (.iload_n 1, 1) := by decide +kernel
theorem dX11_drawn_1 : decode cX11_drawn 1 = .ok (.iconst 0, 1) := by decide +kernel
theorem dX11_drawn_2 : decode cX11_drawn 2 = .ok (.ldc 159, 2) := by decide +kernel
theorem dX11_drawn_4 : decode cX11_drawn 4 = .ok (.invokestatic 104, 3) := by decide +kernel
theorem dX11_drawn_7 : decode cX11_drawn 7 = .ok (.ifCond .ne 6, 3) := by decide +kernel
theorem dX11_drawn_10 : decode cX11_drawn 10 = .ok (.bipush (-2), 2) := by decide +kernel
theorem dX11_drawn_12 : decode cX11_drawn 12 = .ok (.ireturn, 1) := by decide +kernel
theorem dX11_drawn_13 : decode cX11_drawn 13 = .ok (.aload_n 0, 1) := by decide +kernel
theorem dX11_drawn_14 : decode cX11_drawn 14 = .ok (.getfield 28, 3) := by decide +kernel
theorem dX11_drawn_17 : decode cX11_drawn 17 = .ok (.iload_n 2, 1) := by decide +kernel
theorem dX11_drawn_18 : decode cX11_drawn 18 = .ok (.iload_n 3, 1) := by decide +kernel
theorem dX11_drawn_19 : decode cX11_drawn 19 = .ok (.invokevirtual 199, 3) := by decide +kernel
theorem dX11_drawn_22 : decode cX11_drawn 22 = .ok (.istore 4, 2) := by decide +kernel
theorem dX11_drawn_24 : decode cX11_drawn 24 = .ok (.iload 4, 2) := by decide +kernel
theorem dX11_drawn_26 : decode cX11_drawn 26 = .ok (.ifCond .ge 8, 3) := by decide +kernel
theorem dX11_drawn_29 : decode cX11_drawn 29 = .ok (.iload 4, 2) := by decide +kernel
theorem dX11_drawn_31 : decode cX11_drawn 31 = .ok (.goto 10, 3) := by decide +kernel
theorem dX11_drawn_34 : decode cX11_drawn 34 = .ok (.aload_n 0, 1) := by decide +kernel
theorem dX11_drawn_35 : decode cX11_drawn 35 = .ok (.iload_n 1, 1) := by decide +kernel
theorem dX11_drawn_36 : decode cX11_drawn 36 = .ok (.iload 4, 2) := by decide +kernel
theorem dX11_drawn_38 : decode cX11_drawn 38 = .ok (.invokevirtual 377, 3) := by decide +kernel
theorem dX11_drawn_41 : decode cX11_drawn 41 = .ok (.ireturn, 1) := by decide +kernel
theorem dX11_drop_0 : decode cX11_drop 0 = .ok (.aload_n 0, 1) := by decide +kernel
theorem dX11_drop_1 : decode cX11_drop 1 = .ok (.getfield 28, 3) := by decide +kernel
theorem dX11_drop_4 : decode cX11_drop 4 = .ok (.invokevirtual 166, 3) := by decide +kernel
theorem dX11_drop_7 : decode cX11_drop 7 = .ok (.ifCond .ne 6, 3) := by decide +kernel
theorem dX11_drop_10 : decode cX11_drop 10 = .ok (.bipush (-2), 2) := by decide +kernel
theorem dX11_drop_12 : decode cX11_drop 12 = .ok (.ireturn, 1) := by decide +kernel
theorem dX11_drop_13 : decode cX11_drop 13 = .ok (.aload_n 0, 1) := by decide +kernel
theorem dX11_drop_14 : decode cX11_drop 14 = .ok (.getfield 35, 3) := by decide +kernel
theorem dX11_drop_17 : decode cX11_drop 17 = .ok (.invokevirtual 338, 3) := by decide +kernel
theorem dX11_drop_20 : decode cX11_drop 20 = .ok (.ifCond .eq 13, 3) := by decide +kernel
theorem dX11_drop_23 : decode cX11_drop 23 = .ok (.aload_n 0, 1) := by decide +kernel
theorem dX11_drop_24 : decode cX11_drop 24 = .ok (.getfield 35, 3) := by decide +kernel
theorem dX11_drop_27 : decode cX11_drop 27 = .ok (.invokevirtual 341, 3) := by decide +kernel
theorem dX11_drop_30 : decode cX11_drop 30 = .ok (.ifCond .eq 6, 3) := by decide +kernel
theorem dX11_drop_33 : decode cX11_drop 33 = .ok (.bipush (-5), 2) := by decide +kernel
theorem dX11_drop_35 : decode cX11_drop 35 = .ok (.ireturn, 1) := by decide +kernel
theorem dX11_drop_36 : decode cX11_drop 36 = .ok (.aload_n 0, 1) := by decide +kernel
theorem dX11_drop_37 : decode cX11_drop 37 = .ok (.getfield 35, 3) := by decide +kernel
theorem dX11_drop_40 : decode cX11_drop 40 = .ok (.invokevirtual 362, 3) := by decide +kernel
theorem dX11_drop_43 : decode cX11_drop 43 = .ok (.aload_n 0, 1) := by decide +kernel
theorem dX11_drop_44 : decode cX11_drop 44 = .ok (.getfield 35, 3) := by decide +kernel
theorem dX11_drop_47 : decode cX11_drop 47 = .ok (.getfield 365, 3) := by decide +kernel
theorem dX11_drop_50 : decode cX11_drop 50 = .ok (.invokestatic 253, 3) := by decide +kernel
theorem dX11_drop_53 : decode cX11_drop 53 = .ok (.ireturn, 1) := by decide +kernel
theorem dX11_end_0 : decode cX11_end 0 = .ok (.iload_n 1, 1) := by decide +kernel
theorem dX11_end_1 : decode cX11_end 1 = .ok (.iconst 0, 1) := by decide +kernel
theorem dX11_end_2 : decode cX11_end 2 = .ok (.aload_n 0, 1) := by decide +kernel
theorem dX11_end_3 : decode cX11_end 3 = .ok (.getfield 10, 3) := by decide +kernel
theorem dX11_end_6 : decode cX11_end 6 = .ok (.getfield 100, 3) := by decide +kernel
theorem dX11_end_9 : decode cX11_end 9 = .ok (.invokestatic 104, 3) := by decide +kernel
theorem dX11_end_12 : decode cX11_end 12 = .ok (.ifCond .ne 5, 3) := by decide +kernel
theorem dX11_end_15 : decode cX11_end 15 = .ok (.iconst (-1), 1) := by decide +kernel
theorem dX11_end_16 : decode cX11_end 16 = .ok (.ireturn, 1) := by decide +kernel
theorem dX11_end_17 : decode cX11_end 17 = .ok (.aload_n 0, 1) := by decide +kernel
theorem dX11_end_18 : decode cX11_end 18 = .ok (.getfield 10, 3) := by decide +kernel
theorem dX11_end_21 : decode cX11_end 21 = .ok (.iload_n 1, 1) := by decide +kernel
theorem dX11_end_22 : decode cX11_end 22 = .ok (.putfield 100, 3) := by decide +kernel
theorem dX11_end_25 : decode cX11_end 25 = .ok (.iload_n 1, 1) := by decide +kernel
theorem dX11_end_26 : decode cX11_end 26 = .ok (.ireturn, 1) := by decide +kernel
theorem dX11_ends_0 : decode cX11_ends 0 = .ok (.aload_n 0, 1) := by decide +kernel
theorem dX11_ends_1 : decode cX11_ends 1 = .ok (.iload_n 1, 1) := by decide +kernel
theorem dX11_ends_2 : decode cX11_ends 2 = .ok (.iconst 1, 1) := by decide +kernel
theorem dX11_ends_3 : decode cX11_ends 3 = .ok (.invokevirtual 237, 3) := by decide +kernel
theorem dX11_ends_6 : decode cX11_ends 6 = .ok (.ifCond .ne 6, 3) := by decide +kernel
theorem dX11_ends_9 : decode cX11_ends 9 = .ok (.bipush (-2), 2) := by decide +kernel
theorem dX11_ends_11 : decode cX11_ends 11 = .ok (.ireturn, 1) := by decide +kernel
theorem dX11_ends_12 : decode cX11_ends 12 = .ok (.aload_n 0, 1) := by decide +kernel
theorem dX11_ends_13 : decode cX11_ends 13 = .ok (.getfield 72, 3) := by decide +kernel
theorem dX11_ends_16 : decode cX11_ends 16 = .ok (.iload_n 1, 1) := by decide +kernel
theorem dX11_ends_17 : decode cX11_ends 17 = .ok (.invokevirtual 241, 3) := by decide +kernel
theorem dX11_ends_20 : decode cX11_ends 20 = .ok (.istore_n 2, 1) := by decide +kernel
theorem dX11_ends_21 : decode cX11_ends 21 = .ok (.iload_n 2, 1) := by decide +kernel
theorem dX11_ends_22 : decode cX11_ends 22 = .ok (.iconst 1, 1) := by decide +kernel
theorem dX11_ends_23 : decode cX11_ends 23 = .ok (.if_icmp .ge 7, 3) := by decide +kernel
theorem dX11_ends_26 : decode cX11_ends 26 = .ok (.iconst (-1), 1) := by decide +kernel
theorem dX11_ends_27 : decode cX11_ends 27 = .ok (.goto 13, 3) := by decide +kernel
theorem dX11_ends_30 : decode cX11_ends 30 = .ok (.aload_n 0, 1) := by decide +kernel
theorem dX11_ends_31 : decode cX11_ends 31 = .ok (.invokevirtual 169, 3) := by decide +kernel
theorem dX11_ends_34 : decode cX11_ends 34 = .ok (.iload_n 2, 1) := by decide +kernel
theorem dX11_ends_35 : decode cX11_ends 35 = .ok (.iconst 1, 1) := by decide +kernel
theorem dX11_ends_36 : decode cX11_ends 36 = .ok (.isub, 1) := by decide +kernel
theorem dX11_ends_37 : decode cX11_ends 37 = .ok (.invokevirtual 193, 3) := by decide +kernel
theorem dX11_ends_40 : decode cX11_ends 40 = .ok (.ireturn, 1) := by decide +kernel
theorem dX11_even_0 : decode cX11_even 0 = .ok (.aload_n 0, 1) := by decide +kernel
theorem dX11_even_1 : decode cX11_even 1 = .ok (.getfield 28, 3) := by decide +kernel
theorem dX11_even_4 : decode cX11_even 4 = .ok (.invokevirtual 166, 3) := by decide +kernel
theorem dX11_even_7 : decode cX11_even 7 = .ok (.ifCond .eq 13, 3) := by decide +kernel
theorem dX11_even_10 : decode cX11_even 10 = .ok (.aload_n 0, 1) := by decide +kernel
theorem dX11_even_11 : decode cX11_even 11 = .ok (.getfield 79, 3) := by decide +kernel
theorem dX11_even_14 : decode cX11_even 14 = .ok (.invokevirtual 276, 3) := by decide +kernel
theorem dX11_even_17 : decode cX11_even 17 = .ok (.goto 5, 3) := by decide +kernel
theorem dX11_even_20 : decode cX11_even 20 = .ok (.bipush (-2), 2) := by decide +kernel
theorem dX11_even_22 : decode cX11_even 22 = .ok (.ireturn, 1) := by decide +kernel
theorem dX11_fair_0 : decode cX11_fair 0 = .ok (.aload_n 0, 1) := by decide +kernel
theorem dX11_fair_1 : decode cX11_fair 1 = .ok (.getfield 28, 3) := by decide +kernel
theorem dX11_fair_4 : decode cX11_fair 4 = .ok (.invokevirtual 166, 3) := by decide +kernel
theorem dX11_fair_7 : decode cX11_fair 7 = .ok (.ifCond .ne 6, 3) := by decide +kernel
theorem dX11_fair_10 : decode cX11_fair 10 = .ok (.bipush (-2), 2) := by decide +kernel
theorem dX11_fair_12 : decode cX11_fair 12 = .ok (.ireturn, 1) := by decide +kernel
theorem dX11_fair_13 : decode cX11_fair 13 = .ok (.aload_n 0, 1) := by decide +kernel
theorem dX11_fair_14 : decode cX11_fair 14 = .ok (.getfield 65, 3) := by decide +kernel
theorem dX11_fair_17 : decode cX11_fair 17 = .ok (.invokevirtual 208, 3) := by decide +kernel
theorem dX11_fair_20 : decode cX11_fair 20 = .ok (.aload_n 0, 1) := by decide +kernel
theorem dX11_fair_21 : decode cX11_fair 21 = .ok (.getfield 65, 3) := by decide +kernel
theorem dX11_fair_24 : decode cX11_fair 24 = .ok (.getfield 217, 3) := by decide +kernel
theorem dX11_fair_27 : decode cX11_fair 27 = .ok (.ireturn, 1) := by decide +kernel
theorem dX11_fault_0 : decode cX11_fault 0 = .ok (.iload_n 1, 1) := by decide +kernel
theorem dX11_fault_1 : decode cX11_fault 1 = .ok (.ifCond .ne 11, 3) := by decide +kernel
theorem dX11_fault_4 : decode cX11_fault 4 = .ok (.aload_n 0, 1) := by decide +kernel
theorem dX11_fault_5 : decode cX11_fault 5 = .ok (.getfield 21, 3) := by decide +kernel
theorem dX11_fault_8 : decode cX11_fault 8 = .ok (.getfield 124, 3) := by decide +kernel
theorem dX11_fault_11 : decode cX11_fault 11 = .ok (.ireturn, 1) := by decide +kernel
theorem dX11_fault_12 : decode cX11_fault 12 = .ok (.iload_n 1, 1) := by decide +kernel
theorem dX11_fault_13 : decode cX11_fault 13 = .ok (.iconst 1, 1) := by decide +kernel
theorem dX11_fault_14 : decode cX11_fault 14 = .ok (.if_icmp .ne 13, 3) := by decide +kernel
theorem dX11_fault_17 : decode cX11_fault 17 = .ok (.aload_n 0, 1) := by decide +kernel
theorem dX11_fault_18 : decode cX11_fault 18 = .ok (.getfield 21, 3) := by decide +kernel
theorem dX11_fault_21 : decode cX11_fault 21 = .ok (.getfield 127, 3) := by decide +kernel
theorem dX11_fault_24 : decode cX11_fault 24 = .ok (.goto 4, 3) := by decide +kernel
theorem dX11_fault_27 : decode cX11_fault 27 = .ok (.iconst (-1), 1) := by decide +kernel
theorem dX11_fault_28 : decode cX11_fault 28 = .ok (.ireturn, 1) := by decide +kernel
theorem dX11_feed_0 : decode cX11_feed 0 = .ok (.aload_n 0, 1) := by decide +kernel
theorem dX11_feed_1 : decode cX11_feed 1 = .ok (.getfield 10, 3) := by decide +kernel
theorem dX11_feed_4 : decode cX11_feed 4 = .ok (.bipush 20, 2) := by decide +kernel
theorem dX11_feed_6 : decode cX11_feed 6 = .ok (.invokevirtual 92, 3) := by decide +kernel
theorem dX11_feed_9 : decode cX11_feed 9 = .ok (.ifCond .ne 5, 3) := by decide +kernel
theorem dX11_feed_12 : decode cX11_feed 12 = .ok (.iconst (-1), 1) := by decide +kernel
theorem dX11_feed_13 : decode cX11_feed 13 = .ok (.ireturn, 1) := by decide +kernel
theorem dX11_feed_14 : decode cX11_feed 14 = .ok (.aload_n 0, 1) := by decide +kernel
theorem dX11_feed_15 : decode cX11_feed 15 = .ok (.getfield 10, 3) := by decide +kernel
theorem dX11_feed_18 : decode cX11_feed 18 = .ok (.iload_n 1, 1) := by decide +kernel
theorem dX11_feed_19 : decode cX11_feed 19 = .ok (.invokevirtual 96, 3) := by decide +kernel
theorem dX11_feed_22 : decode cX11_feed 22 = .ok (.aload_n 0, 1) := by decide +kernel
theorem dX11_feed_23 : decode cX11_feed 23 = .ok (.getfield 10, 3) := by decide +kernel
theorem dX11_feed_26 : decode cX11_feed 26 = .ok (.iload_n 2, 1) := by decide +kernel
theorem dX11_feed_27 : decode cX11_feed 27 = .ok (.invokevirtual 96, 3) := by decide +kernel
theorem dX11_feed_30 : decode cX11_feed 30 = .ok (.aload_n 0, 1) := by decide +kernel
theorem dX11_feed_31 : decode cX11_feed 31 = .ok (.getfield 10, 3) := by decide +kernel
theorem dX11_feed_34 : decode cX11_feed 34 = .ok (.iload_n 3, 1) := by decide +kernel
theorem dX11_feed_35 : decode cX11_feed 35 = .ok (.invokevirtual 96, 3) := by decide +kernel
theorem dX11_feed_38 : decode cX11_feed 38 = .ok (.aload_n 0, 1) := by decide +kernel
theorem dX11_feed_39 : decode cX11_feed 39 = .ok (.getfield 10, 3) := by decide +kernel
theorem dX11_feed_42 : decode cX11_feed 42 = .ok (.iload 4, 2) := by decide +kernel
theorem dX11_feed_44 : decode cX11_feed 44 = .ok (.invokevirtual 96, 3) := by decide +kernel
theorem dX11_feed_47 : decode cX11_feed 47 = .ok (.aload_n 0, 1) := by decide +kernel
theorem dX11_feed_48 : decode cX11_feed 48 = .ok (.getfield 10, 3) := by decide +kernel
theorem dX11_feed_51 : decode cX11_feed 51 = .ok (.iload 5, 2) := by decide +kernel
theorem dX11_feed_53 : decode cX11_feed 53 = .ok (.invokevirtual 96, 3) := by decide +kernel
theorem dX11_feed_56 : decode cX11_feed 56 = .ok (.aload_n 0, 1) := by decide +kernel
theorem dX11_feed_57 : decode cX11_feed 57 = .ok (.getfield 10, 3) := by decide +kernel
theorem dX11_feed_60 : decode cX11_feed 60 = .ok (.getfield 100, 3) := by decide +kernel
theorem dX11_feed_63 : decode cX11_feed 63 = .ok (.ireturn, 1) := by decide +kernel
theorem dX11_firm_0 : decode cX11_firm 0 = .ok (.aload_n 0, 1) := by decide +kernel
theorem dX11_firm_1 : decode cX11_firm 1 = .ok (.getfield 28, 3) := by decide +kernel
theorem dX11_firm_4 : decode cX11_firm 4 = .ok (.invokevirtual 166, 3) := by decide +kernel
theorem dX11_firm_7 : decode cX11_firm 7 = .ok (.ifCond .eq 13, 3) := by decide +kernel
theorem dX11_firm_10 : decode cX11_firm 10 = .ok (.aload_n 0, 1) := by decide +kernel
theorem dX11_firm_11 : decode cX11_firm 11 = .ok (.getfield 79, 3) := by decide +kernel
theorem dX11_firm_14 : decode cX11_firm 14 = .ok (.invokevirtual 294, 3) := by decide +kernel
theorem dX11_firm_17 : decode cX11_firm 17 = .ok (.goto 5, 3) := by decide +kernel
theorem dX11_firm_20 : decode cX11_firm 20 = .ok (.bipush (-2), 2) := by decide +kernel
theorem dX11_firm_22 : decode cX11_firm 22 = .ok (.ireturn, 1) := by decide +kernel
theorem dX11_fits_0 : decode cX11_fits 0 = .ok (.aload_n 0, 1) := by decide +kernel
theorem dX11_fits_1 : decode cX11_fits 1 = .ok (.iload_n 1, 1) := by decide +kernel
theorem dX11_fits_2 : decode cX11_fits 2 = .ok (.invokevirtual 300, 3) := by decide +kernel
theorem dX11_fits_5 : decode cX11_fits 5 = .ok (.istore_n 2, 1) := by decide +kernel
theorem dX11_fits_6 : decode cX11_fits 6 = .ok (.iload_n 2, 1) := by decide +kernel
theorem dX11_fits_7 : decode cX11_fits 7 = .ok (.ifCond .eq 5, 3) := by decide +kernel
theorem dX11_fits_10 : decode cX11_fits 10 = .ok (.iload_n 2, 1) := by decide +kernel
theorem dX11_fits_11 : decode cX11_fits 11 = .ok (.ireturn, 1) := by decide +kernel
theorem dX11_fits_12 : decode cX11_fits 12 = .ok (.aload_n 0, 1) := by decide +kernel
theorem dX11_fits_13 : decode cX11_fits 13 = .ok (.getfield 88, 3) := by decide +kernel
theorem dX11_fits_16 : decode cX11_fits 16 = .ok (.iload_n 1, 1) := by decide +kernel
theorem dX11_fits_17 : decode cX11_fits 17 = .ok (.invokevirtual 303, 3) := by decide +kernel
theorem dX11_fits_20 : decode cX11_fits 20 = .ok (.aload_n 0, 1) := by decide +kernel
theorem dX11_fits_21 : decode cX11_fits 21 = .ok (.getfield 88, 3) := by decide +kernel
theorem dX11_fits_24 : decode cX11_fits 24 = .ok (.getfield 306, 3) := by decide +kernel
theorem dX11_fits_27 : decode cX11_fits 27 = .ok (.ireturn, 1) := by decide +kernel
theorem dX11_full_0 : decode cX11_full 0 = .ok (.aload_n 0, 1) := by decide +kernel
theorem dX11_full_1 : decode cX11_full 1 = .ok (.iload_n 1, 1) := by decide +kernel
theorem dX11_full_2 : decode cX11_full 2 = .ok (.iconst 0, 1) := by decide +kernel
theorem dX11_full_3 : decode cX11_full 3 = .ok (.invokevirtual 237, 3) := by decide +kernel
theorem dX11_full_6 : decode cX11_full 6 = .ok (.ifCond .eq 17, 3) := by decide +kernel
theorem dX11_full_9 : decode cX11_full 9 = .ok (.aload_n 0, 1) := by decide +kernel
theorem dX11_full_10 : decode cX11_full 10 = .ok (.getfield 79, 3) := by decide +kernel
theorem dX11_full_13 : decode cX11_full 13 = .ok (.iload_n 1, 1) := by decide +kernel
theorem dX11_full_14 : decode cX11_full 14 = .ok (.invokevirtual 250, 3) := by decide +kernel
theorem dX11_full_17 : decode cX11_full 17 = .ok (.invokestatic 253, 3) := by decide +kernel
theorem dX11_full_20 : decode cX11_full 20 = .ok (.goto 5, 3) := by decide +kernel
theorem dX11_full_23 : decode cX11_full 23 = .ok (.bipush (-2), 2) := by decide +kernel
theorem dX11_full_25 : decode cX11_full 25 = .ok (.ireturn, 1) := by decide +kernel
theorem dX11_fulls_0 : decode cX11_fulls 0 = .ok (.aload_n 0, 1) := by decide +kernel
theorem dX11_fulls_1 : decode cX11_fulls 1 = .ok (.iload_n 1, 1) := by decide +kernel
theorem dX11_fulls_2 : decode cX11_fulls 2 = .ok (.iconst 0, 1) := by decide +kernel
theorem dX11_fulls_3 : decode cX11_fulls 3 = .ok (.invokevirtual 237, 3) := by decide +kernel
theorem dX11_fulls_6 : decode cX11_fulls 6 = .ok (.ifCond .eq 14, 3) := by decide +kernel
theorem dX11_fulls_9 : decode cX11_fulls 9 = .ok (.aload_n 0, 1) := by decide +kernel
theorem dX11_fulls_10 : decode cX11_fulls 10 = .ok (.getfield 79, 3) := by decide +kernel
theorem dX11_fulls_13 : decode cX11_fulls 13 = .ok (.iload_n 1, 1) := by decide +kernel
theorem dX11_fulls_14 : decode cX11_fulls 14 = .ok (.invokevirtual 250, 3) := by decide +kernel
theorem dX11_fulls_17 : decode cX11_fulls 17 = .ok (.goto 5, 3) := by decide +kernel
theorem dX11_fulls_20 : decode cX11_fulls 20 = .ok (.bipush (-2), 2) := by decide +kernel
theorem dX11_fulls_22 : decode cX11_fulls 22 = .ok (.ireturn, 1) := by decide +kernel
theorem dX11_gorge_0 : decode cX11_gorge 0 = .ok (.aload_n 0, 1) := by decide +kernel
theorem dX11_gorge_1 : decode cX11_gorge 1 = .ok (.getfield 21, 3) := by decide +kernel
theorem dX11_gorge_4 : decode cX11_gorge 4 = .ok (.invokevirtual 108, 3) := by decide +kernel
theorem dX11_gorge_7 : decode cX11_gorge 7 = .ok (.ifCond .ne 6, 3) := by decide +kernel
theorem dX11_gorge_10 : decode cX11_gorge 10 = .ok (.bipush (-4), 2) := by decide +kernel
theorem dX11_gorge_12 : decode cX11_gorge 12 = .ok (.ireturn, 1) := by decide +kernel
theorem dX11_gorge_13 : decode cX11_gorge 13 = .ok (.aload_n 0, 1) := by decide +kernel
theorem dX11_gorge_14 : decode cX11_gorge 14 = .ok (.getfield 28, 3) := by decide +kernel
theorem dX11_gorge_17 : decode cX11_gorge 17 = .ok (.aload_n 0, 1) := by decide +kernel
theorem dX11_gorge_18 : decode cX11_gorge 18 = .ok (.getfield 21, 3) := by decide +kernel
theorem dX11_gorge_21 : decode cX11_gorge 21 = .ok (.getfield 112, 3) := by decide +kernel
theorem dX11_gorge_24 : decode cX11_gorge 24 = .ok (.invokevirtual 115, 3) := by decide +kernel
theorem dX11_gorge_27 : decode cX11_gorge 27 = .ok (.aload_n 0, 1) := by decide +kernel
theorem dX11_gorge_28 : decode cX11_gorge 28 = .ok (.getfield 35, 3) := by decide +kernel
theorem dX11_gorge_31 : decode cX11_gorge 31 = .ok (.invokevirtual 118, 3) := by decide +kernel
theorem dX11_gorge_34 : decode cX11_gorge 34 = .ok (.aload_n 0, 1) := by decide +kernel
theorem dX11_gorge_35 : decode cX11_gorge 35 = .ok (.getfield 10, 3) := by decide +kernel
theorem dX11_gorge_38 : decode cX11_gorge 38 = .ok (.iconst 0, 1) := by decide +kernel
theorem dX11_gorge_39 : decode cX11_gorge 39 = .ok (.putfield 100, 3) := by decide +kernel
theorem dX11_gorge_42 : decode cX11_gorge 42 = .ok (.aload_n 0, 1) := by decide +kernel
theorem dX11_gorge_43 : decode cX11_gorge 43 = .ok (.getfield 28, 3) := by decide +kernel
theorem dX11_gorge_46 : decode cX11_gorge 46 = .ok (.getfield 121, 3) := by decide +kernel
theorem dX11_gorge_49 : decode cX11_gorge 49 = .ok (.ireturn, 1) := by decide +kernel
theorem dX11_grip_0 : decode cX11_grip 0 = .ok (.aload_n 0, 1) := by decide +kernel
theorem dX11_grip_1 : decode cX11_grip 1 = .ok (.getfield 28, 3) := by decide +kernel
theorem dX11_grip_4 : decode cX11_grip 4 = .ok (.iload_n 1, 1) := by decide +kernel
theorem dX11_grip_5 : decode cX11_grip 5 = .ok (.invokevirtual 130, 3) := by decide +kernel
theorem dX11_grip_8 : decode cX11_grip 8 = .ok (.ifCond .eq 13, 3) := by decide +kernel
theorem dX11_grip_11 : decode cX11_grip 11 = .ok (.iload_n 2, 1) := by decide +kernel
theorem dX11_grip_12 : decode cX11_grip 12 = .ok (.iconst 1, 1) := by decide +kernel
theorem dX11_grip_13 : decode cX11_grip 13 = .ok (.bipush 30, 2) := by decide +kernel
theorem dX11_grip_15 : decode cX11_grip 15 = .ok (.invokestatic 104, 3) := by decide +kernel
theorem dX11_grip_18 : decode cX11_grip 18 = .ok (.ifCond .ne 6, 3) := by decide +kernel
theorem dX11_grip_21 : decode cX11_grip 21 = .ok (.bipush (-2), 2) := by decide +kernel
theorem dX11_grip_23 : decode cX11_grip 23 = .ok (.ireturn, 1) := by decide +kernel
theorem dX11_grip_24 : decode cX11_grip 24 = .ok (.aload_n 0, 1) := by decide +kernel
theorem dX11_grip_25 : decode cX11_grip 25 = .ok (.getfield 35, 3) := by decide +kernel
theorem dX11_grip_28 : decode cX11_grip 28 = .ok (.getfield 371, 3) := by decide +kernel
theorem dX11_grip_31 : decode cX11_grip 31 = .ok (.ifCond .le 6, 3) := by decide +kernel
theorem dX11_grip_34 : decode cX11_grip 34 = .ok (.bipush (-5), 2) := by decide +kernel
theorem dX11_grip_36 : decode cX11_grip 36 = .ok (.ireturn, 1) := by decide +kernel
theorem dX11_grip_37 : decode cX11_grip 37 = .ok (.aload_n 0, 1) := by decide +kernel
theorem dX11_grip_38 : decode cX11_grip 38 = .ok (.getfield 28, 3) := by decide +kernel
theorem dX11_grip_41 : decode cX11_grip 41 = .ok (.iload_n 1, 1) := by decide +kernel
theorem dX11_grip_42 : decode cX11_grip 42 = .ok (.invokevirtual 137, 3) := by decide +kernel
theorem dX11_grip_45 : decode cX11_grip 45 = .ok (.istore_n 3, 1) := by decide +kernel
theorem dX11_grip_46 : decode cX11_grip 46 = .ok (.aload_n 0, 1) := by decide +kernel
theorem dX11_grip_47 : decode cX11_grip 47 = .ok (.getfield 28, 3) := by decide +kernel
theorem dX11_grip_50 : decode cX11_grip 50 = .ok (.iload_n 1, 1) := by decide +kernel
theorem dX11_grip_51 : decode cX11_grip 51 = .ok (.iload_n 2, 1) := by decide +kernel
theorem dX11_grip_52 : decode cX11_grip 52 = .ok (.invokevirtual 380, 3) := by decide +kernel
theorem dX11_grip_55 : decode cX11_grip 55 = .ok (.iload_n 3, 1) := by decide +kernel
theorem dX11_grip_56 : decode cX11_grip 56 = .ok (.ireturn, 1) := by decide +kernel
theorem dX11_hold_0 : decode cX11_hold 0 = .ok (.aload_n 0, 1) := by decide +kernel
theorem dX11_hold_1 : decode cX11_hold 1 = .ok (.getfield 28, 3) := by decide +kernel
theorem dX11_hold_4 : decode cX11_hold 4 = .ok (.iload_n 1, 1) := by decide +kernel
theorem dX11_hold_5 : decode cX11_hold 5 = .ok (.iload_n 2, 1) := by decide +kernel
theorem dX11_hold_6 : decode cX11_hold 6 = .ok (.invokevirtual 199, 3) := by decide +kernel
theorem dX11_hold_9 : decode cX11_hold 9 = .ok (.ireturn, 1) := by decide +kernel
theorem dX11_image_0 : decode cX11_image 0 = .ok (.iload_n 1, 1) := by decide +kernel
theorem dX11_image_1 : decode cX11_image 1 = .ok (.iconst 0, 1) := by decide +kernel
theorem dX11_image_2 : decode cX11_image 2 = .ok (.iconst 2, 1) := by decide +kernel
theorem dX11_image_3 : decode cX11_image 3 = .ok (.invokestatic 104, 3) := by decide +kernel
theorem dX11_image_6 : decode cX11_image 6 = .ok (.ifCond .ne 6, 3) := by decide +kernel
theorem dX11_image_9 : decode cX11_image 9 = .ok (.bipush (-2), 2) := by decide +kernel
theorem dX11_image_11 : decode cX11_image 11 = .ok (.ireturn, 1) := by decide +kernel
theorem dX11_image_12 : decode cX11_image 12 = .ok (.aload_n 0, 1) := by decide +kernel
theorem dX11_image_13 : decode cX11_image 13 = .ok (.getfield 41, 3) := by decide +kernel
theorem dX11_image_16 : decode cX11_image 16 = .ok (.iload_n 1, 1) := by decide +kernel
theorem dX11_image_17 : decode cX11_image 17 = .ok (.aaload, 1) := by decide +kernel
theorem dX11_image_18 : decode cX11_image 18 = .ok (.iconst 1, 1) := by decide +kernel
theorem dX11_image_19 : decode cX11_image 19 = .ok (.putfield 389, 3) := by decide +kernel
theorem dX11_image_22 : decode cX11_image 22 = .ok (.aload_n 0, 1) := by decide +kernel
theorem dX11_image_23 : decode cX11_image 23 = .ok (.getfield 41, 3) := by decide +kernel
theorem dX11_image_26 : decode cX11_image 26 = .ok (.iload_n 1, 1) := by decide +kernel
theorem dX11_image_27 : decode cX11_image 27 = .ok (.aaload, 1) := by decide +kernel
theorem dX11_image_28 : decode cX11_image 28 = .ok (.getfield 393, 3) := by decide +kernel
theorem dX11_image_31 : decode cX11_image 31 = .ok (.aload_n 0, 1) := by decide +kernel
theorem dX11_image_32 : decode cX11_image 32 = .ok (.getfield 28, 3) := by decide +kernel
theorem dX11_image_35 : decode cX11_image 35 = .ok (.invokevirtual 115, 3) := by decide +kernel
theorem dX11_image_38 : decode cX11_image 38 = .ok (.aload_n 0, 1) := by decide +kernel
theorem dX11_image_39 : decode cX11_image 39 = .ok (.getfield 41, 3) := by decide +kernel
theorem dX11_image_42 : decode cX11_image 42 = .ok (.iload_n 1, 1) := by decide +kernel
theorem dX11_image_43 : decode cX11_image 43 = .ok (.aaload, 1) := by decide +kernel
theorem dX11_image_44 : decode cX11_image 44 = .ok (.getfield 394, 3) := by decide +kernel
theorem dX11_image_47 : decode cX11_image 47 = .ok (.aload_n 0, 1) := by decide +kernel
theorem dX11_image_48 : decode cX11_image 48 = .ok (.getfield 35, 3) := by decide +kernel
theorem dX11_image_51 : decode cX11_image 51 = .ok (.invokevirtual 395, 3) := by decide +kernel
theorem dX11_image_54 : decode cX11_image 54 = .ok (.iconst 0, 1) := by decide +kernel
theorem dX11_image_55 : decode cX11_image 55 = .ok (.ireturn, 1) := by decide +kernel
theorem dX11_init_0 : decode cX11_init 0 = .ok (.aload_n 0, 1) := by decide +kernel
theorem dX11_init_1 : decode cX11_init 1 = .ok (.invokespecial 1, 3) := by decide +kernel
theorem dX11_init_4 : decode cX11_init 4 = .ok (.aload_n 0, 1) := by decide +kernel
theorem dX11_init_5 : decode cX11_init 5 = .ok (.new 7, 3) := by decide +kernel
theorem dX11_init_8 : decode cX11_init 8 = .ok (.dup, 1) := by decide +kernel
theorem dX11_init_9 : decode cX11_init 9 = .ok (.invokespecial 9, 3) := by decide +kernel
theorem dX11_init_12 : decode cX11_init 12 = .ok (.putfield 10, 3) := by decide +kernel
theorem dX11_init_15 : decode cX11_init 15 = .ok (.aload_n 0, 1) := by decide +kernel
theorem dX11_init_16 : decode cX11_init 16 = .ok (.new 16, 3) := by decide +kernel
theorem dX11_init_19 : decode cX11_init 19 = .ok (.dup, 1) := by decide +kernel
theorem dX11_init_20 : decode cX11_init 20 = .ok (.aload_n 0, 1) := by decide +kernel
theorem dX11_init_21 : decode cX11_init 21 = .ok (.getfield 10, 3) := by decide +kernel
theorem dX11_init_24 : decode cX11_init 24 = .ok (.invokespecial 18, 3) := by decide +kernel
theorem dX11_init_27 : decode cX11_init 27 = .ok (.putfield 21, 3) := by decide +kernel
theorem dX11_init_30 : decode cX11_init 30 = .ok (.aload_n 0, 1) := by decide +kernel
theorem dX11_init_31 : decode cX11_init 31 = .ok (.new 25, 3) := by decide +kernel
theorem dX11_init_34 : decode cX11_init 34 = .ok (.dup, 1) := by decide +kernel
theorem dX11_init_35 : decode cX11_init 35 = .ok (.invokespecial 27, 3) := by decide +kernel
theorem dX11_init_38 : decode cX11_init 38 = .ok (.putfield 28, 3) := by decide +kernel
theorem dX11_init_41 : decode cX11_init 41 = .ok (.aload_n 0, 1) := by decide +kernel
theorem dX11_init_42 : decode cX11_init 42 = .ok (.new 32, 3) := by decide +kernel
theorem dX11_init_45 : decode cX11_init 45 = .ok (.dup, 1) := by decide +kernel
theorem dX11_init_46 : decode cX11_init 46 = .ok (.invokespecial 34, 3) := by decide +kernel
theorem dX11_init_49 : decode cX11_init 49 = .ok (.putfield 35, 3) := by decide +kernel
theorem dX11_init_52 : decode cX11_init 52 = .ok (.aload_n 0, 1) := by decide +kernel
theorem dX11_init_53 : decode cX11_init 53 = .ok (.iconst 3, 1) := by decide +kernel
theorem dX11_init_54 : decode cX11_init 54 = .ok (.anewarray 39, 3) := by decide +kernel
theorem dX11_init_57 : decode cX11_init 57 = .ok (.putfield 41, 3) := by decide +kernel
theorem dX11_init_60 : decode cX11_init 60 = .ok (.iconst 0, 1) := by decide +kernel
theorem dX11_init_61 : decode cX11_init 61 = .ok (.istore_n 1, 1) := by decide +kernel
theorem dX11_init_62 : decode cX11_init 62 = .ok (.iload_n 1, 1) := by decide +kernel
theorem dX11_init_63 : decode cX11_init 63 = .ok (.iconst 3, 1) := by decide +kernel
theorem dX11_init_64 : decode cX11_init 64 = .ok (.if_icmp .ge 22, 3) := by decide +kernel
theorem dX11_init_67 : decode cX11_init 67 = .ok (.aload_n 0, 1) := by decide +kernel
theorem dX11_init_68 : decode cX11_init 68 = .ok (.getfield 41, 3) := by decide +kernel
theorem dX11_init_71 : decode cX11_init 71 = .ok (.iload_n 1, 1) := by decide +kernel
theorem dX11_init_72 : decode cX11_init 72 = .ok (.new 39, 3) := by decide +kernel
theorem dX11_init_75 : decode cX11_init 75 = .ok (.dup, 1) := by decide +kernel
theorem dX11_init_76 : decode cX11_init 76 = .ok (.invokespecial 45, 3) := by decide +kernel
theorem dX11_init_79 : decode cX11_init 79 = .ok (.aastore, 1) := by decide +kernel
theorem dX11_init_80 : decode cX11_init 80 = .ok (.iinc 1 1, 3) := by decide +kernel
theorem dX11_init_83 : decode cX11_init 83 = .ok (.goto (-21), 3) := by decide +kernel
theorem dX11_init_86 : decode cX11_init 86 = .ok (.aload_n 0, 1) := by decide +kernel
theorem dX11_init_87 : decode cX11_init 87 = .ok (.new 46, 3) := by decide +kernel
theorem dX11_init_90 : decode cX11_init 90 = .ok (.dup, 1) := by decide +kernel
theorem dX11_init_91 : decode cX11_init 91 = .ok (.invokespecial 48, 3) := by decide +kernel
theorem dX11_init_94 : decode cX11_init 94 = .ok (.putfield 49, 3) := by decide +kernel
theorem dX11_init_97 : decode cX11_init 97 = .ok (.aload_n 0, 1) := by decide +kernel
theorem dX11_init_98 : decode cX11_init 98 = .ok (.new 53, 3) := by decide +kernel
theorem dX11_init_101 : decode cX11_init 101 = .ok (.dup, 1) := by decide +kernel
theorem dX11_init_102 : decode cX11_init 102 = .ok (.aload_n 0, 1) := by decide +kernel
theorem dX11_init_103 : decode cX11_init 103 = .ok (.getfield 28, 3) := by decide +kernel
theorem dX11_init_106 : decode cX11_init 106 = .ok (.invokespecial 55, 3) := by decide +kernel
theorem dX11_init_109 : decode cX11_init 109 = .ok (.putfield 58, 3) := by decide +kernel
theorem dX11_init_112 : decode cX11_init 112 = .ok (.aload_n 0, 1) := by decide +kernel
theorem dX11_init_113 : decode cX11_init 113 = .ok (.new 62, 3) := by decide +kernel
theorem dX11_init_116 : decode cX11_init 116 = .ok (.dup, 1) := by decide +kernel
theorem dX11_init_117 : decode cX11_init 117 = .ok (.aload_n 0, 1) := by decide +kernel
theorem dX11_init_118 : decode cX11_init 118 = .ok (.getfield 28, 3) := by decide +kernel
theorem dX11_init_121 : decode cX11_init 121 = .ok (.invokespecial 64, 3) := by decide +kernel
theorem dX11_init_124 : decode cX11_init 124 = .ok (.putfield 65, 3) := by decide +kernel
theorem dX11_init_127 : decode cX11_init 127 = .ok (.aload_n 0, 1) := by decide +kernel
theorem dX11_init_128 : decode cX11_init 128 = .ok (.new 69, 3) := by decide +kernel
theorem dX11_init_131 : decode cX11_init 131 = .ok (.dup, 1) := by decide +kernel
theorem dX11_init_132 : decode cX11_init 132 = .ok (.aload_n 0, 1) := by decide +kernel
theorem dX11_init_133 : decode cX11_init 133 = .ok (.getfield 28, 3) := by decide +kernel
theorem dX11_init_136 : decode cX11_init 136 = .ok (.invokespecial 71, 3) := by decide +kernel
theorem dX11_init_139 : decode cX11_init 139 = .ok (.putfield 72, 3) := by decide +kernel
theorem dX11_init_142 : decode cX11_init 142 = .ok (.aload_n 0, 1) := by decide +kernel
theorem dX11_init_143 : decode cX11_init 143 = .ok (.new 76, 3) := by decide +kernel
theorem dX11_init_146 : decode cX11_init 146 = .ok (.dup, 1) := by decide +kernel
theorem dX11_init_147 : decode cX11_init 147 = .ok (.aload_n 0, 1) := by decide +kernel
theorem dX11_init_148 : decode cX11_init 148 = .ok (.getfield 28, 3) := by decide +kernel
theorem dX11_init_151 : decode cX11_init 151 = .ok (.invokespecial 78, 3) := by decide +kernel
theorem dX11_init_154 : decode cX11_init 154 = .ok (.putfield 79, 3) := by decide +kernel
theorem dX11_init_157 : decode cX11_init 157 = .ok (.aload_n 0, 1) := by decide +kernel
theorem dX11_init_158 : decode cX11_init 158 = .ok (.new 83, 3) := by decide +kernel
theorem dX11_init_161 : decode cX11_init 161 = .ok (.dup, 1) := by decide +kernel
theorem dX11_init_162 : decode cX11_init 162 = .ok (.aload_n 0, 1) := by decide +kernel
theorem dX11_init_163 : decode cX11_init 163 = .ok (.getfield 28, 3) := by decide +kernel
theorem dX11_init_166 : decode cX11_init 166 = .ok (.aload_n 0, 1) := by decide +kernel
theorem dX11_init_167 : decode cX11_init 167 = .ok (.getfield 49, 3) := by decide +kernel
theorem dX11_init_170 : decode cX11_init 170 = .ok (.invokespecial 85, 3) := by decide +kernel
theorem dX11_init_173 : decode cX11_init 173 = .ok (.putfield 88, 3) := by decide +kernel
theorem dX11_init_176 : decode cX11_init 176 = .ok (.return_, 1) := by decide +kernel
theorem dX11_isAsLikely_0 : decode cX11_isAsLikely 0 = .ok (.bipush 10, 2) := by decide +kernel
theorem dX11_isAsLikely_2 : decode cX11_isAsLikely 2 = .ok (.aload_n 0, 1) := by decide +kernel
theorem dX11_isAsLikely_3 : decode cX11_isAsLikely 3 = .ok (.getfield 28, 3) := by decide +kernel
theorem dX11_isAsLikely_6 : decode cX11_isAsLikely 6 = .ok (.getfield 317, 3) := by decide +kernel
theorem dX11_isAsLikely_9 : decode cX11_isAsLikely 9 = .ok (.isub, 1) := by decide +kernel
theorem dX11_isAsLikely_10 : decode cX11_isAsLikely 10 = .ok (.i2l, 1) := by decide +kernel
theorem dX11_isAsLikely_11 : decode cX11_isAsLikely 11 = .ok (.iload_n 1, 1) := by decide +kernel
theorem dX11_isAsLikely_12 : decode cX11_isAsLikely 12 = .ok (.invokestatic 320, 3) := by decide +kernel
theorem dX11_isAsLikely_15 : decode cX11_isAsLikely 15 = .ok (.lstore_n 3, 1) := by decide +kernel
theorem dX11_isAsLikely_16 : decode cX11_isAsLikely 16 = .ok (.iload_n 1, 1) := by decide +kernel
theorem dX11_isAsLikely_17 : decode cX11_isAsLikely 17 = .ok (.iconst 2, 1) := by decide +kernel
theorem dX11_isAsLikely_18 : decode cX11_isAsLikely 18 = .ok (.if_icmp .ge 22, 3) := by decide +kernel
theorem dX11_isAsLikely_21 : decode cX11_isAsLikely 21 = .ok (.lload_n 3, 1) := by decide +kernel
theorem dX11_isAsLikely_22 : decode cX11_isAsLikely 22 = .ok (.ldc2_w 324, 3) := by decide +kernel
theorem dX11_isAsLikely_25 : decode cX11_isAsLikely 25 = .ok (.lmul, 1) := by decide +kernel
theorem dX11_isAsLikely_26 : decode cX11_isAsLikely 26 = .ok (.iload_n 2, 1) := by decide +kernel
theorem dX11_isAsLikely_27 : decode cX11_isAsLikely 27 = .ok (.i2l, 1) := by decide +kernel
theorem dX11_isAsLikely_28 : decode cX11_isAsLikely 28 = .ok (.lcmp, 1) := by decide +kernel
theorem dX11_isAsLikely_29 : decode cX11_isAsLikely 29 = .ok (.ifCond .lt 7, 3) := by decide +kernel
theorem dX11_isAsLikely_32 : decode cX11_isAsLikely 32 = .ok (.iconst 1, 1) := by decide +kernel
theorem dX11_isAsLikely_33 : decode cX11_isAsLikely 33 = .ok (.goto 29, 3) := by decide +kernel
theorem dX11_isAsLikely_36 : decode cX11_isAsLikely 36 = .ok (.iconst 0, 1) := by decide +kernel
theorem dX11_isAsLikely_37 : decode cX11_isAsLikely 37 = .ok (.goto 25, 3) := by decide +kernel
theorem dX11_isAsLikely_40 : decode cX11_isAsLikely 40 = .ok (.lload_n 3, 1) := by decide +kernel
theorem dX11_isAsLikely_41 : decode cX11_isAsLikely 41 = .ok (.iload_n 2, 1) := by decide +kernel
theorem dX11_isAsLikely_42 : decode cX11_isAsLikely 42 = .ok (.i2l, 1) := by decide +kernel
theorem dX11_isAsLikely_43 : decode cX11_isAsLikely 43 = .ok (.ldc2_w 324, 3) := by decide +kernel
theorem dX11_isAsLikely_46 : decode cX11_isAsLikely 46 = .ok (.iload_n 1, 1) := by decide +kernel
theorem dX11_isAsLikely_47 : decode cX11_isAsLikely 47 = .ok (.iconst 2, 1) := by decide +kernel
theorem dX11_isAsLikely_48 : decode cX11_isAsLikely 48 = .ok (.isub, 1) := by decide +kernel
theorem dX11_isAsLikely_49 : decode cX11_isAsLikely 49 = .ok (.invokestatic 320, 3) := by decide +kernel
theorem dX11_isAsLikely_52 : decode cX11_isAsLikely 52 = .ok (.lmul, 1) := by decide +kernel
theorem dX11_isAsLikely_53 : decode cX11_isAsLikely 53 = .ok (.lcmp, 1) := by decide +kernel
theorem dX11_isAsLikely_54 : decode cX11_isAsLikely 54 = .ok (.ifCond .lt 7, 3) := by decide +kernel
theorem dX11_isAsLikely_57 : decode cX11_isAsLikely 57 = .ok (.iconst 1, 1) := by decide +kernel
theorem dX11_isAsLikely_58 : decode cX11_isAsLikely 58 = .ok (.goto 4, 3) := by decide +kernel
theorem dX11_isAsLikely_61 : decode cX11_isAsLikely 61 = .ok (.iconst 0, 1) := by decide +kernel
theorem dX11_isAsLikely_62 : decode cX11_isAsLikely 62 = .ok (.ireturn, 1) := by decide +kernel
theorem dX11_isHold_0 : decode cX11_isHold 0 = .ok (.aload_n 0, 1) := by decide +kernel
theorem dX11_isHold_1 : decode cX11_isHold 1 = .ok (.getfield 28, 3) := by decide +kernel
theorem dX11_isHold_4 : decode cX11_isHold 4 = .ok (.invokevirtual 166, 3) := by decide +kernel
theorem dX11_isHold_7 : decode cX11_isHold 7 = .ok (.ifCond .eq 17, 3) := by decide +kernel
theorem dX11_isHold_10 : decode cX11_isHold 10 = .ok (.iload_n 1, 1) := by decide +kernel
theorem dX11_isHold_11 : decode cX11_isHold 11 = .ok (.iload_n 2, 1) := by decide +kernel
theorem dX11_isHold_12 : decode cX11_isHold 12 = .ok (.bipush 99, 2) := by decide +kernel
theorem dX11_isHold_14 : decode cX11_isHold 14 = .ok (.invokestatic 104, 3) := by decide +kernel
theorem dX11_isHold_17 : decode cX11_isHold 17 = .ok (.ifCond .eq 7, 3) := by decide +kernel
theorem dX11_isHold_20 : decode cX11_isHold 20 = .ok (.iconst 1, 1) := by decide +kernel
theorem dX11_isHold_21 : decode cX11_isHold 21 = .ok (.goto 4, 3) := by decide +kernel
theorem dX11_isHold_24 : decode cX11_isHold 24 = .ok (.iconst 0, 1) := by decide +kernel
theorem dX11_isHold_25 : decode cX11_isHold 25 = .ok (.ireturn, 1) := by decide +kernel
theorem dX11_isWithin_0 : decode cX11_isWithin 0 = .ok (.iload_n 0, 1) := by decide +kernel
theorem dX11_isWithin_1 : decode cX11_isWithin 1 = .ok (.iload_n 1, 1) := by decide +kernel
theorem dX11_isWithin_2 : decode cX11_isWithin 2 = .ok (.if_icmp .lt 12, 3) := by decide +kernel
theorem dX11_isWithin_5 : decode cX11_isWithin 5 = .ok (.iload_n 0, 1) := by decide +kernel
theorem dX11_isWithin_6 : decode cX11_isWithin 6 = .ok (.iload_n 2, 1) := by decide +kernel

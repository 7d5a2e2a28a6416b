theorem dX12_able_0 : decode cX12_able 0 = .ok (.aload_n 0, 1) := by decide +kernel
theorem dX12_able_1 : decode cX12_able 1 = .ok (.invokevirtual 74, 3) := by decide +kernel
theorem dX12_able_4 : decode cX12_able 4 = .ok (.ifCond .ne 6, 3) := by decide +kernel
theorem dX12_able_7 : decode cX12_able 7 = .ok (.bipush (-2), 2) := by decide +kernel
theorem dX12_able_9 : decode cX12_able 9 = .ok (.ireturn, 1) := by decide +kernel
theorem dX12_advance_0 : decode cX12_advance 0 = .ok (.aload_n 0, 1) := by decide +kernel
theorem dX12_advance_1 : decode cX12_advance 1 = .ok (.aload_n 0, 1) := by decide +kernel
theorem dX12_advance_2 : decode cX12_advance 2 = .ok (.getfield 84, 3) := by decide +kernel
theorem dX12_advance_5 : decode cX12_advance 5 = .ok (.invokevirtual 87, 3) := by decide +kernel
theorem dX12_advance_8 : decode cX12_advance 8 = .ok (.bipush 32, 2) := by decide +kernel
theorem dX12_advance_10 : decode cX12_advance 10 = .ok (.if_icmp .eq 16, 3) := by decide +kernel
theorem dX12_advance_13 : decode cX12_advance 13 = .ok (.aload_n 0, 1) := by decide +kernel
theorem dX12_advance_14 : decode cX12_advance 14 = .ok (.aload_n 0, 1) := by decide +kernel
theorem dX12_advance_15 : decode cX12_advance 15 = .ok (.getfield 84, 3) := by decide +kernel
theorem dX12_advance_18 : decode cX12_advance 18 = .ok (.invokevirtual 87, 3) := by decide +kernel
theorem dX12_advance_21 : decode cX12_advance 21 = .ok (.bipush 10, 2) := by decide +kernel
theorem dX12_advance_23 : decode cX12_advance 23 = .ok (.if_icmp .ne 16, 3) := by decide +kernel
theorem dX12_advance_39 : decode cX12_advance 39 = .ok (.aload_n 0, 1) := by decide +kernel
theorem dX12_advance_40 : decode cX12_advance 40 = .ok (.aload_n 0, 1) := by decide +kernel
theorem dX12_advance_41 : decode cX12_advance 41 = .ok (.getfield 84, 3) := by decide +kernel
theorem dX12_advance_44 : decode cX12_advance 44 = .ok (.putfield 91, 3) := by decide +kernel
theorem dX12_advance_47 : decode cX12_advance 47 = .ok (.aload_n 0, 1) := by decide +kernel
theorem dX12_advance_48 : decode cX12_advance 48 = .ok (.aload_n 0, 1) := by decide +kernel
theorem dX12_advance_49 : decode cX12_advance 49 = .ok (.getfield 84, 3) := by decide +kernel
theorem dX12_advance_52 : decode cX12_advance 52 = .ok (.invokevirtual 87, 3) := by decide +kernel
theorem dX12_advance_55 : decode cX12_advance 55 = .ok (.istore_n 1, 1) := by decide +kernel
theorem dX12_advance_56 : decode cX12_advance 56 = .ok (.iload_n 1, 1) := by decide +kernel
theorem dX12_advance_57 : decode cX12_advance 57 = .ok (.iconst (-1), 1) := by decide +kernel
theorem dX12_advance_58 : decode cX12_advance 58 = .ok (.if_icmp .ne 11, 3) := by decide +kernel
theorem dX12_advance_61 : decode cX12_advance 61 = .ok (.aload_n 0, 1) := by decide +kernel
theorem dX12_advance_62 : decode cX12_advance 62 = .ok (.iconst 0, 1) := by decide +kernel
theorem dX12_advance_63 : decode cX12_advance 63 = .ok (.putfield 94, 3) := by decide +kernel
theorem dX12_advance_66 : decode cX12_advance 66 = .ok (.goto 173, 3) := by decide +kernel
theorem dX12_advance_239 : decode cX12_advance 239 = .ok (.return_, 1) := by decide +kernel
theorem dX12_anew_0 : decode cX12_anew 0 = .ok (.aload_n 0, 1) := by decide +kernel
theorem dX12_anew_1 : decode cX12_anew 1 = .ok (.invokevirtual 74, 3) := by decide +kernel
theorem dX12_anew_4 : decode cX12_anew 4 = .ok (.ifCond .ne 6, 3) := by decide +kernel
theorem dX12_anew_7 : decode cX12_anew 7 = .ok (.bipush (-2), 2) := by decide +kernel
theorem dX12_anew_9 : decode cX12_anew 9 = .ok (.ireturn, 1) := by decide +kernel
theorem dX12_areMen_0 : decode cX12_areMen 0 = .ok (.aload_n 0, 1) := by decide +kernel
theorem dX12_areMen_1 : decode cX12_areMen 1 = .ok (.iload_n 1, 1) := by decide +kernel
theorem dX12_areMen_2 : decode cX12_areMen 2 = .ok (.i2l, 1) := by decide +kernel
theorem dX12_areMen_3 : decode cX12_areMen 3 = .ok (.invokevirtual 198, 3) := by decide +kernel
theorem dX12_areMen_6 : decode cX12_areMen 6 = .ok (.ifCond .eq 16, 3) := by decide +kernel
theorem dX12_areMen_22 : decode cX12_areMen 22 = .ok (.iconst 0, 1) := by decide +kernel
theorem dX12_areMen_23 : decode cX12_areMen 23 = .ok (.ireturn, 1) := by decide +kernel
theorem dX12_ask_0 : decode cX12_ask 0 = .ok (.aload_n 0, 1) := by decide +kernel
theorem dX12_ask_1 : decode cX12_ask 1 = .ok (.iload_n 1, 1) := by decide +kernel
theorem dX12_ask_2 : decode cX12_ask 2 = .ok (.iconst 1, 1) := by decide +kernel
theorem dX12_ask_3 : decode cX12_ask 3 = .ok (.invokevirtual 396, 3) := by decide +kernel
theorem dX12_ask_6 : decode cX12_ask 6 = .ok (.istore_n 2, 1) := by decide +kernel
theorem dX12_ask_7 : decode cX12_ask 7 = .ok (.iload_n 2, 1) := by decide +kernel
theorem dX12_ask_8 : decode cX12_ask 8 = .ok (.ifCond .ge 5, 3) := by decide +kernel
theorem dX12_ask_11 : decode cX12_ask 11 = .ok (.iload_n 2, 1) := by decide +kernel
theorem dX12_ask_12 : decode cX12_ask 12 = .ok (.ireturn, 1) := by decide +kernel
theorem dX12_asksRow_0 : decode cX12_asksRow 0 = .ok (.iload_n 1, 1) := by decide +kernel
theorem dX12_asksRow_1 : decode cX12_asksRow 1 = .ok (.invokestatic 311, 3) := by decide +kernel
theorem dX12_asksRow_4 : decode cX12_asksRow 4 = .ok (.ifCond .eq 22, 3) := by decide +kernel
theorem dX12_asksRow_7 : decode cX12_asksRow 7 = .ok (.aload_n 0, 1) := by decide +kernel
theorem dX12_asksRow_8 : decode cX12_asksRow 8 = .ok (.invokevirtual 74, 3) := by decide +kernel
theorem dX12_asksRow_11 : decode cX12_asksRow 11 = .ok (.ifCond .eq 15, 3) := by decide +kernel
theorem dX12_asksRow_26 : decode cX12_asksRow 26 = .ok (.bipush (-2), 2) := by decide +kernel
theorem dX12_asksRow_28 : decode cX12_asksRow 28 = .ok (.ireturn, 1) := by decide +kernel
theorem dX12_back_0 : decode cX12_back 0 = .ok (.iload_n 1, 1) := by decide +kernel
theorem dX12_back_1 : decode cX12_back 1 = .ok (.i2l, 1) := by decide +kernel
theorem dX12_back_2 : decode cX12_back 2 = .ok (.lconst 0, 1) := by decide +kernel
theorem dX12_back_3 : decode cX12_back 3 = .ok (.ldc2_w 68, 3) := by decide +kernel
theorem dX12_back_6 : decode cX12_back 6 = .ok (.invokestatic 70, 3) := by decide +kernel
theorem dX12_back_9 : decode cX12_back 9 = .ok (.ifCond .ne 6, 3) := by decide +kernel
theorem dX12_back_12 : decode cX12_back 12 = .ok (.bipush (-2), 2) := by decide +kernel
theorem dX12_back_14 : decode cX12_back 14 = .ok (.ireturn, 1) := by decide +kernel
theorem dX12_back_15 : decode cX12_back 15 = .ok (.aload_n 0, 1) := by decide +kernel
theorem dX12_back_16 : decode cX12_back 16 = .ok (.getfield 16, 3) := by decide +kernel
theorem dX12_back_19 : decode cX12_back 19 = .ok (.iload_n 1, 1) := by decide +kernel
theorem dX12_back_20 : decode cX12_back 20 = .ok (.baload, 1) := by decide +kernel
theorem dX12_back_21 : decode cX12_back 21 = .ok (.ifCond .ne 6, 3) := by decide +kernel
theorem dX12_back_24 : decode cX12_back 24 = .ok (.bipush (-6), 2) := by decide +kernel
theorem dX12_back_26 : decode cX12_back 26 = .ok (.ireturn, 1) := by decide +kernel
theorem dX12_bundle_0 : decode cX12_bundle 0 = .ok (.aload_n 0, 1) := by decide +kernel
theorem dX12_bundle_1 : decode cX12_bundle 1 = .ok (.invokevirtual 74, 3) := by decide +kernel
theorem dX12_bundle_4 : decode cX12_bundle 4 = .ok (.ifCond .ne 6, 3) := by decide +kernel
theorem dX12_bundle_7 : decode cX12_bundle 7 = .ok (.bipush (-2), 2) := by decide +kernel
theorem dX12_bundle_9 : decode cX12_bundle 9 = .ok (.ireturn, 1) := by decide +kernel
theorem dX12_bundles_0 : decode cX12_bundles 0 = .ok (.aload_n 0, 1) := by decide +kernel
theorem dX12_bundles_1 : decode cX12_bundles 1 = .ok (.invokevirtual 74, 3) := by decide +kernel
theorem dX12_bundles_4 : decode cX12_bundles 4 = .ok (.ifCond .eq 10, 3) := by decide +kernel
theorem dX12_bundles_14 : decode cX12_bundles 14 = .ok (.bipush (-2), 2) := by decide +kernel
theorem dX12_bundles_16 : decode cX12_bundles 16 = .ok (.ireturn, 1) := by decide +kernel
theorem dX12_by_0 : decode cX12_by 0 = .ok (.aload_n 0, 1) := by decide +kernel
theorem dX12_by_1 : decode cX12_by 1 = .ok (.iload_n 1, 1) := by decide +kernel
theorem dX12_by_2 : decode cX12_by 2 = .ok (.aload_n 0, 1) := by decide +kernel
theorem dX12_by_3 : decode cX12_by 3 = .ok (.iload_n 2, 1) := by decide +kernel
theorem dX12_by_4 : decode cX12_by 4 = .ok (.i2l, 1) := by decide +kernel
theorem dX12_by_5 : decode cX12_by 5 = .ok (.invokevirtual 198, 3) := by decide +kernel
theorem dX12_by_8 : decode cX12_by 8 = .ok (.invokevirtual 396, 3) := by decide +kernel
theorem dX12_by_11 : decode cX12_by 11 = .ok (.istore_n 3, 1) := by decide +kernel
theorem dX12_by_12 : decode cX12_by 12 = .ok (.iload_n 3, 1) := by decide +kernel
theorem dX12_by_13 : decode cX12_by 13 = .ok (.ifCond .ge 5, 3) := by decide +kernel
theorem dX12_by_16 : decode cX12_by 16 = .ok (.iload_n 3, 1) := by decide +kernel
theorem dX12_by_17 : decode cX12_by 17 = .ok (.ireturn, 1) := by decide +kernel
theorem dX12_chance_0 : decode cX12_chance 0 = .ok (.aload_n 0, 1) := by decide +kernel
theorem dX12_chance_1 : decode cX12_chance 1 = .ok (.iload_n 1, 1) := by decide +kernel
theorem dX12_chance_2 : decode cX12_chance 2 = .ok (.iload_n 2, 1) := by decide +kernel
theorem dX12_chance_3 : decode cX12_chance 3 = .ok (.invokevirtual 290, 3) := by decide +kernel
theorem dX12_chance_6 : decode cX12_chance 6 = .ok (.ifCond .eq 26, 3) := by decide +kernel
theorem dX12_chance_32 : decode cX12_chance 32 = .ok (.ldc2_w 409, 3) := by decide +kernel
theorem dX12_chance_35 : decode cX12_chance 35 = .ok (.lreturn, 1) := by decide +kernel
theorem dX12_clause_0 : decode cX12_clause 0 = .ok (.aload_n 0, 1) := by decide +kernel
theorem dX12_clause_1 : decode cX12_clause 1 = .ok (.iload_n 1, 1) := by decide +kernel
theorem dX12_clause_2 : decode cX12_clause 2 = .ok (.i2l, 1) := by decide +kernel
theorem dX12_clause_3 : decode cX12_clause 3 = .ok (.invokevirtual 205, 3) := by decide +kernel
theorem dX12_clause_6 : decode cX12_clause 6 = .ok (.ifCond .eq 24, 3) := by decide +kernel
theorem dX12_clause_30 : decode cX12_clause 30 = .ok (.sipush (-1000), 3) := by decide +kernel
theorem dX12_clause_33 : decode cX12_clause 33 = .ok (.ireturn, 1) := by decide +kernel
theorem dX12_count_0 : decode cX12_count 0 = .ok (.iload_n 1, 1) := by decide +kernel
theorem dX12_count_1 : decode cX12_count 1 = .ok (.i2l, 1) := by decide +kernel
theorem dX12_count_2 : decode cX12_count 2 = .ok (.lconst 0, 1) := by decide +kernel
theorem dX12_count_3 : decode cX12_count 3 = .ok (.ldc2_w 457, 3) := by decide +kernel
theorem dX12_count_6 : decode cX12_count 6 = .ok (.invokestatic 70, 3) := by decide +kernel
theorem dX12_count_9 : decode cX12_count 9 = .ok (.ifCond .eq 10, 3) := by decide +kernel
theorem dX12_count_12 : decode cX12_count 12 = .ok (.aload_n 0, 1) := by decide +kernel
theorem dX12_count_13 : decode cX12_count 13 = .ok (.getfield 9, 3) := by decide +kernel
theorem dX12_count_16 : decode cX12_count 16 = .ok (.iload_n 1, 1) := by decide +kernel
theorem dX12_count_17 : decode cX12_count 17 = .ok (.iaload, 1) := by decide +kernel
theorem dX12_count_18 : decode cX12_count 18 = .ok (.ireturn, 1) := by decide +kernel
theorem dX12_count_19 : decode cX12_count 19 = .ok (.iload_n 1, 1) := by decide +kernel
theorem dX12_count_20 : decode cX12_count 20 = .ok (.bipush 9, 2) := by decide +kernel
theorem dX12_count_22 : decode cX12_count 22 = .ok (.if_icmp .ne 8, 3) := by decide +kernel
theorem dX12_count_25 : decode cX12_count 25 = .ok (.aload_n 0, 1) := by decide +kernel
theorem dX12_count_26 : decode cX12_count 26 = .ok (.getfield 78, 3) := by decide +kernel
theorem dX12_count_29 : decode cX12_count 29 = .ok (.ireturn, 1) := by decide +kernel
theorem dX12_count_30 : decode cX12_count 30 = .ok (.iload_n 1, 1) := by decide +kernel
theorem dX12_count_31 : decode cX12_count 31 = .ok (.bipush 10, 2) := by decide +kernel
theorem dX12_count_33 : decode cX12_count 33 = .ok (.if_icmp .eq 5, 3) := by decide +kernel
theorem dX12_count_36 : decode cX12_count 36 = .ok (.iconst (-1), 1) := by decide +kernel
theorem dX12_count_37 : decode cX12_count 37 = .ok (.ireturn, 1) := by decide +kernel
theorem dX12_count_38 : decode cX12_count 38 = .ok (.iconst 0, 1) := by decide +kernel
theorem dX12_count_39 : decode cX12_count 39 = .ok (.istore_n 2, 1) := by decide +kernel
theorem dX12_count_40 : decode cX12_count 40 = .ok (.iconst 0, 1) := by decide +kernel
theorem dX12_count_41 : decode cX12_count 41 = .ok (.istore_n 3, 1) := by decide +kernel
theorem dX12_count_42 : decode cX12_count 42 = .ok (.iload_n 3, 1) := by decide +kernel
theorem dX12_count_43 : decode cX12_count 43 = .ok (.iconst 4, 1) := by decide +kernel
theorem dX12_count_44 : decode cX12_count 44 = .ok (.if_icmp .ge 27, 3) := by decide +kernel
theorem dX12_count_47 : decode cX12_count 47 = .ok (.iload_n 2, 1) := by decide +kernel
theorem dX12_count_48 : decode cX12_count 48 = .ok (.aload_n 0, 1) := by decide +kernel
theorem dX12_count_49 : decode cX12_count 49 = .ok (.getfield 52, 3) := by decide +kernel
theorem dX12_count_52 : decode cX12_count 52 = .ok (.iload_n 3, 1) := by decide +kernel
theorem dX12_count_53 : decode cX12_count 53 = .ok (.iaload, 1) := by decide +kernel
theorem dX12_count_54 : decode cX12_count 54 = .ok (.iconst (-1), 1) := by decide +kernel
theorem dX12_count_55 : decode cX12_count 55 = .ok (.if_icmp .ne 7, 3) := by decide +kernel
theorem dX12_count_58 : decode cX12_count 58 = .ok (.iconst 0, 1) := by decide +kernel
theorem dX12_count_59 : decode cX12_count 59 = .ok (.goto 4, 3) := by decide +kernel
theorem dX12_count_63 : decode cX12_count 63 = .ok (.iadd, 1) := by decide +kernel
theorem dX12_count_64 : decode cX12_count 64 = .ok (.istore_n 2, 1) := by decide +kernel
theorem dX12_count_65 : decode cX12_count 65 = .ok (.iinc 3 1, 3) := by decide +kernel
theorem dX12_count_68 : decode cX12_count 68 = .ok (.goto (-26), 3) := by decide +kernel
theorem dX12_count_71 : decode cX12_count 71 = .ok (.iload_n 2, 1) := by decide +kernel
theorem dX12_count_72 : decode cX12_count 72 = .ok (.ireturn, 1) := by decide +kernel
theorem dX12_cut_0 : decode cX12_cut 0 = .ok (.aload_n 0, 1) := by decide +kernel
theorem dX12_cut_1 : decode cX12_cut 1 = .ok (.iload_n 1, 1) := by decide +kernel
theorem dX12_cut_2 : decode cX12_cut 2 = .ok (.iload_n 2, 1) := by decide +kernel
theorem dX12_cut_3 : decode cX12_cut 3 = .ok (.invokevirtual 326, 3) := by decide +kernel
theorem dX12_cut_6 : decode cX12_cut 6 = .ok (.istore_n 3, 1) := by decide +kernel
theorem dX12_cut_7 : decode cX12_cut 7 = .ok (.iload_n 3, 1) := by decide +kernel
theorem dX12_cut_8 : decode cX12_cut 8 = .ok (.ifCond .ge 5, 3) := by decide +kernel
theorem dX12_cut_11 : decode cX12_cut 11 = .ok (.iload_n 3, 1) := by decide +kernel
theorem dX12_cut_12 : decode cX12_cut 12 = .ok (.ireturn, 1) := by decide +kernel
theorem dX12_deal_0 : decode cX12_deal 0 = .ok (.aload_n 0, 1) := by decide +kernel
theorem dX12_deal_1 : decode cX12_deal 1 = .ok (.invokevirtual 74, 3) := by decide +kernel
theorem dX12_deal_4 : decode cX12_deal 4 = .ok (.ifCond .ne 6, 3) := by decide +kernel
theorem dX12_deal_7 : decode cX12_deal 7 = .ok (.bipush (-2), 2) := by decide +kernel
theorem dX12_deal_9 : decode cX12_deal 9 = .ok (.ireturn, 1) := by decide +kernel
theorem dX12_drawn_0 : decode cX12_drawn 0 = .ok (.iload_n 1, 1) := by decide +kernel
theorem dX12_drawn_1 : decode cX12_drawn 1 = .ok (.invokestatic 446, 3) := by decide +kernel
theorem dX12_drawn_4 : decode cX12_drawn 4 = .ok (.ifCond .eq 12, 3) := by decide +kernel
theorem dX12_drawn_7 : decode cX12_drawn 7 = .ok (.aload_n 0, 1) := by decide +kernel
theorem dX12_drawn_8 : decode cX12_drawn 8 = .ok (.iload_n 2, 1) := by decide +kernel
theorem dX12_drawn_9 : decode cX12_drawn 9 = .ok (.iload_n 3, 1) := by decide +kernel
theorem dX12_drawn_10 : decode cX12_drawn 10 = .ok (.invokevirtual 290, 3) := by decide +kernel
theorem dX12_drawn_13 : decode cX12_drawn 13 = .ok (.ifCond .ne 6, 3) := by decide +kernel
theorem dX12_drawn_16 : decode cX12_drawn 16 = .ok (.bipush (-2), 2) := by decide +kernel
theorem dX12_drawn_18 : decode cX12_drawn 18 = .ok (.ireturn, 1) := by decide +kernel
theorem dX12_drop_0 : decode cX12_drop 0 = .ok (.aload_n 0, 1) := by decide +kernel
theorem dX12_drop_1 : decode cX12_drop 1 = .ok (.invokevirtual 74, 3) := by decide +kernel
theorem dX12_drop_4 : decode cX12_drop 4 = .ok (.ifCond .ne 6, 3) := by decide +kernel
theorem dX12_drop_7 : decode cX12_drop 7 = .ok (.bipush (-2), 2) := by decide +kernel
theorem dX12_drop_9 : decode cX12_drop 9 = .ok (.ireturn, 1) := by decide +kernel
theorem dX12_end_0 : decode cX12_end 0 = .ok (.iload_n 1, 1) := by decide +kernel
theorem dX12_end_1 : decode cX12_end 1 = .ok (.i2l, 1) := by decide +kernel
theorem dX12_end_2 : decode cX12_end 2 = .ok (.lconst 0, 1) := by decide +kernel
theorem dX12_end_3 : decode cX12_end 3 = .ok (.aload_n 0, 1) := by decide +kernel
theorem dX12_end_4 : decode cX12_end 4 = .ok (.getfield 78, 3) := by decide +kernel
theorem dX12_end_7 : decode cX12_end 7 = .ok (.i2l, 1) := by decide +kernel
theorem dX12_end_8 : decode cX12_end 8 = .ok (.invokestatic 70, 3) := by decide +kernel
theorem dX12_end_11 : decode cX12_end 11 = .ok (.ifCond .ne 5, 3) := by decide +kernel
theorem dX12_end_14 : decode cX12_end 14 = .ok (.iconst (-1), 1) := by decide +kernel
theorem dX12_end_15 : decode cX12_end 15 = .ok (.ireturn, 1) := by decide +kernel
theorem dX12_end_16 : decode cX12_end 16 = .ok (.aload_n 0, 1) := by decide +kernel
theorem dX12_end_17 : decode cX12_end 17 = .ok (.iload_n 1, 1) := by decide +kernel
theorem dX12_end_18 : decode cX12_end 18 = .ok (.putfield 78, 3) := by decide +kernel
theorem dX12_end_21 : decode cX12_end 21 = .ok (.iload_n 1, 1) := by decide +kernel
theorem dX12_end_22 : decode cX12_end 22 = .ok (.ireturn, 1) := by decide +kernel
theorem dX12_ends_0 : decode cX12_ends 0 = .ok (.aload_n 0, 1) := by decide +kernel
theorem dX12_ends_1 : decode cX12_ends 1 = .ok (.iload_n 1, 1) := by decide +kernel
theorem dX12_ends_2 : decode cX12_ends 2 = .ok (.iconst 1, 1) := by decide +kernel
theorem dX12_ends_3 : decode cX12_ends 3 = .ok (.invokevirtual 341, 3) := by decide +kernel
theorem dX12_ends_6 : decode cX12_ends 6 = .ok (.ifCond .ne 6, 3) := by decide +kernel
theorem dX12_ends_9 : decode cX12_ends 9 = .ok (.bipush (-2), 2) := by decide +kernel
theorem dX12_ends_11 : decode cX12_ends 11 = .ok (.ireturn, 1) := by decide +kernel
theorem dX12_even_0 : decode cX12_even 0 = .ok (.aload_n 0, 1) := by decide +kernel
theorem dX12_even_1 : decode cX12_even 1 = .ok (.invokevirtual 74, 3) := by decide +kernel
theorem dX12_even_4 : decode cX12_even 4 = .ok (.ifCond .ne 6, 3) := by decide +kernel
theorem dX12_even_7 : decode cX12_even 7 = .ok (.bipush (-2), 2) := by decide +kernel
theorem dX12_even_9 : decode cX12_even 9 = .ok (.ireturn, 1) := by decide +kernel
theorem dX12_fair_0 : decode cX12_fair 0 = .ok (.aload_n 0, 1) := by decide +kernel
theorem dX12_fair_1 : decode cX12_fair 1 = .ok (.invokevirtual 74, 3) := by decide +kernel
theorem dX12_fair_4 : decode cX12_fair 4 = .ok (.ifCond .ne 6, 3) := by decide +kernel
theorem dX12_fair_7 : decode cX12_fair 7 = .ok (.bipush (-2), 2) := by decide +kernel
theorem dX12_fair_9 : decode cX12_fair 9 = .ok (.ireturn, 1) := by decide +kernel
theorem dX12_fault_0 : decode cX12_fault 0 = .ok (.iload_n 1, 1) := by decide +kernel
theorem dX12_fault_1 : decode cX12_fault 1 = .ok (.ifCond .ne 10, 3) := by decide +kernel
theorem dX12_fault_4 : decode cX12_fault 4 = .ok (.aload_n 0, 1) := by decide +kernel
theorem dX12_fault_5 : decode cX12_fault 5 = .ok (.getfield 115, 3) := by decide +kernel
theorem dX12_fault_8 : decode cX12_fault 8 = .ok (.goto 16, 3) := by decide +kernel
theorem dX12_fault_11 : decode cX12_fault 11 = .ok (.iload_n 1, 1) := by decide +kernel
theorem dX12_fault_12 : decode cX12_fault 12 = .ok (.iconst 1, 1) := by decide +kernel
theorem dX12_fault_13 : decode cX12_fault 13 = .ok (.if_icmp .ne 10, 3) := by decide +kernel
theorem dX12_fault_16 : decode cX12_fault 16 = .ok (.aload_n 0, 1) := by decide +kernel
theorem dX12_fault_17 : decode cX12_fault 17 = .ok (.getfield 27, 3) := by decide +kernel
theorem dX12_fault_20 : decode cX12_fault 20 = .ok (.goto 4, 3) := by decide +kernel
theorem dX12_fault_23 : decode cX12_fault 23 = .ok (.iconst (-1), 1) := by decide +kernel
theorem dX12_fault_24 : decode cX12_fault 24 = .ok (.ireturn, 1) := by decide +kernel
theorem dX12_feed_0 : decode cX12_feed 0 = .ok (.aload_n 0, 1) := by decide +kernel
theorem dX12_feed_1 : decode cX12_feed 1 = .ok (.getfield 78, 3) := by decide +kernel
theorem dX12_feed_4 : decode cX12_feed 4 = .ok (.bipush 20, 2) := by decide +kernel
theorem dX12_feed_6 : decode cX12_feed 6 = .ok (.iadd, 1) := by decide +kernel
theorem dX12_feed_7 : decode cX12_feed 7 = .ok (.sipush 800, 3) := by decide +kernel
theorem dX12_feed_10 : decode cX12_feed 10 = .ok (.if_icmp .le 5, 3) := by decide +kernel
theorem dX12_feed_15 : decode cX12_feed 15 = .ok (.aload_n 0, 1) := by decide +kernel
theorem dX12_feed_16 : decode cX12_feed 16 = .ok (.getfield 24, 3) := by decide +kernel
theorem dX12_feed_19 : decode cX12_feed 19 = .ok (.iconst 0, 1) := by decide +kernel
theorem dX12_feed_20 : decode cX12_feed 20 = .ok (.iload_n 1, 1) := by decide +kernel
theorem dX12_feed_21 : decode cX12_feed 21 = .ok (.iastore, 1) := by decide +kernel
theorem dX12_feed_22 : decode cX12_feed 22 = .ok (.aload_n 0, 1) := by decide +kernel
theorem dX12_feed_23 : decode cX12_feed 23 = .ok (.getfield 24, 3) := by decide +kernel
theorem dX12_feed_26 : decode cX12_feed 26 = .ok (.iconst 1, 1) := by decide +kernel
theorem dX12_feed_27 : decode cX12_feed 27 = .ok (.iload_n 2, 1) := by decide +kernel
theorem dX12_feed_28 : decode cX12_feed 28 = .ok (.iastore, 1) := by decide +kernel
theorem dX12_feed_29 : decode cX12_feed 29 = .ok (.aload_n 0, 1) := by decide +kernel
theorem dX12_feed_30 : decode cX12_feed 30 = .ok (.getfield 24, 3) := by decide +kernel
theorem dX12_feed_33 : decode cX12_feed 33 = .ok (.iconst 2, 1) := by decide +kernel
theorem dX12_feed_34 : decode cX12_feed 34 = .ok (.iload_n 3, 1) := by decide +kernel
theorem dX12_feed_35 : decode cX12_feed 35 = .ok (.iastore, 1) := by decide +kernel
theorem dX12_feed_36 : decode cX12_feed 36 = .ok (.aload_n 0, 1) := by decide +kernel
theorem dX12_feed_37 : decode cX12_feed 37 = .ok (.getfield 24, 3) := by decide +kernel
theorem dX12_feed_40 : decode cX12_feed 40 = .ok (.iconst 3, 1) := by decide +kernel
theorem dX12_feed_41 : decode cX12_feed 41 = .ok (.iload 4, 2) := by decide +kernel
theorem dX12_feed_43 : decode cX12_feed 43 = .ok (.iastore, 1) := by decide +kernel
theorem dX12_feed_44 : decode cX12_feed 44 = .ok (.aload_n 0, 1) := by decide +kernel
theorem dX12_feed_45 : decode cX12_feed 45 = .ok (.getfield 24, 3) := by decide +kernel
theorem dX12_feed_48 : decode cX12_feed 48 = .ok (.iconst 4, 1) := by decide +kernel
theorem dX12_feed_49 : decode cX12_feed 49 = .ok (.iload 5, 2) := by decide +kernel
theorem dX12_feed_51 : decode cX12_feed 51 = .ok (.iastore, 1) := by decide +kernel
theorem dX12_feed_52 : decode cX12_feed 52 = .ok (.iconst 0, 1) := by decide +kernel
theorem dX12_feed_53 : decode cX12_feed 53 = .ok (.istore 6, 2) := by decide +kernel
theorem dX12_feed_55 : decode cX12_feed 55 = .ok (.iload 6, 2) := by decide +kernel
theorem dX12_feed_57 : decode cX12_feed 57 = .ok (.bipush 20, 2) := by decide +kernel
theorem dX12_feed_59 : decode cX12_feed 59 = .ok (.if_icmp .ge 42, 3) := by decide +kernel
theorem dX12_feed_62 : decode cX12_feed 62 = .ok (.aload_n 0, 1) := by decide +kernel
theorem dX12_feed_63 : decode cX12_feed 63 = .ok (.getfield 20, 3) := by decide +kernel
theorem dX12_feed_66 : decode cX12_feed 66 = .ok (.aload_n 0, 1) := by decide +kernel
theorem dX12_feed_67 : decode cX12_feed 67 = .ok (.getfield 78, 3) := by decide +kernel
theorem dX12_feed_70 : decode cX12_feed 70 = .ok (.iload 6, 2) := by decide +kernel
theorem dX12_feed_72 : decode cX12_feed 72 = .ok (.iadd, 1) := by decide +kernel
theorem dX12_feed_73 : decode cX12_feed 73 = .ok (.aload_n 0, 1) := by decide +kernel
theorem dX12_feed_74 : decode cX12_feed 74 = .ok (.getfield 24, 3) := by decide +kernel
theorem dX12_feed_77 : decode cX12_feed 77 = .ok (.iload 6, 2) := by decide +kernel
theorem dX12_feed_79 : decode cX12_feed 79 = .ok (.iconst 4, 1) := by decide +kernel
theorem dX12_feed_80 : decode cX12_feed 80 = .ok (.idiv, 1) := by decide +kernel
theorem dX12_feed_81 : decode cX12_feed 81 = .ok (.iaload, 1) := by decide +kernel
theorem dX12_feed_82 : decode cX12_feed 82 = .ok (.bipush 24, 2) := by decide +kernel
theorem dX12_feed_84 : decode cX12_feed 84 = .ok (.bipush 8, 2) := by decide +kernel
theorem dX12_feed_86 : decode cX12_feed 86 = .ok (.iload 6, 2) := by decide +kernel
theorem dX12_feed_88 : decode cX12_feed 88 = .ok (.iconst 4, 1) := by decide +kernel
theorem dX12_feed_89 : decode cX12_feed 89 = .ok (.irem, 1) := by decide +kernel
theorem dX12_feed_90 : decode cX12_feed 90 = .ok (.imul, 1) := by decide +kernel
theorem dX12_feed_91 : decode cX12_feed 91 = .ok (.isub, 1) := by decide +kernel
theorem dX12_feed_92 : decode cX12_feed 92 = .ok (.ishr, 1) := by decide +kernel
theorem dX12_feed_93 : decode cX12_feed 93 = .ok (.i2b, 1) := by decide +kernel
theorem dX12_feed_94 : decode cX12_feed 94 = .ok (.bastore, 1) := by decide +kernel
theorem dX12_feed_95 : decode cX12_feed 95 = .ok (.iinc 6 1, 3) := by decide +kernel
theorem dX12_feed_98 : decode cX12_feed 98 = .ok (.goto (-43), 3) := by decide +kernel
theorem dX12_feed_101 : decode cX12_feed 101 = .ok (.aload_n 0, 1) := by decide +kernel
theorem dX12_feed_102 : decode cX12_feed 102 = .ok (.dup, 1) := by decide +kernel
theorem dX12_feed_103 : decode cX12_feed 103 = .ok (.getfield 78, 3) := by decide +kernel
theorem dX12_feed_106 : decode cX12_feed 106 = .ok (.bipush 20, 2) := by decide +kernel
theorem dX12_feed_108 : decode cX12_feed 108 = .ok (.iadd, 1) := by decide +kernel
theorem dX12_feed_109 : decode cX12_feed 109 = .ok (.putfield 78, 3) := by decide +kernel
theorem dX12_feed_112 : decode cX12_feed 112 = .ok (.aload_n 0, 1) := by decide +kernel
theorem dX12_feed_113 : decode cX12_feed 113 = .ok (.getfield 78, 3) := by decide +kernel
theorem dX12_feed_116 : decode cX12_feed 116 = .ok (.ireturn, 1) := by decide +kernel
theorem dX12_firm_0 : decode cX12_firm 0 = .ok (.aload_n 0, 1) := by decide +kernel
theorem dX12_firm_1 : decode cX12_firm 1 = .ok (.invokevirtual 74, 3) := by decide +kernel
theorem dX12_firm_4 : decode cX12_firm 4 = .ok (.ifCond .ne 6, 3) := by decide +kernel
theorem dX12_firm_7 : decode cX12_firm 7 = .ok (.bipush (-2), 2) := by decide +kernel
theorem dX12_firm_9 : decode cX12_firm 9 = .ok (.ireturn, 1) := by decide +kernel
theorem dX12_fits_0 : decode cX12_fits 0 = .ok (.aload_n 0, 1) := by decide +kernel
theorem dX12_fits_1 : decode cX12_fits 1 = .ok (.iload_n 1, 1) := by decide +kernel
theorem dX12_fits_2 : decode cX12_fits 2 = .ok (.iconst 1, 1) := by decide +kernel
theorem dX12_fits_3 : decode cX12_fits 3 = .ok (.invokevirtual 396, 3) := by decide +kernel
theorem dX12_fits_6 : decode cX12_fits 6 = .ok (.istore_n 2, 1) := by decide +kernel
theorem dX12_fits_7 : decode cX12_fits 7 = .ok (.iload_n 2, 1) := by decide +kernel
theorem dX12_fits_8 : decode cX12_fits 8 = .ok (.ifCond .ge 7, 3) := by decide +kernel
theorem dX12_fits_11 : decode cX12_fits 11 = .ok (.iload_n 2, 1) := by decide +kernel
theorem dX12_fits_12 : decode cX12_fits 12 = .ok (.goto 7, 3) := by decide +kernel
theorem dX12_fits_19 : decode cX12_fits 19 = .ok (.ireturn, 1) := by decide +kernel
theorem dX12_full_0 : decode cX12_full 0 = .ok (.aload_n 0, 1) := by decide +kernel
theorem dX12_full_1 : decode cX12_full 1 = .ok (.iload_n 1, 1) := by decide +kernel
theorem dX12_full_2 : decode cX12_full 2 = .ok (.iconst 0, 1) := by decide +kernel
theorem dX12_full_3 : decode cX12_full 3 = .ok (.invokevirtual 341, 3) := by decide +kernel
theorem dX12_full_6 : decode cX12_full 6 = .ok (.ifCond .eq 14, 3) := by decide +kernel
theorem dX12_full_20 : decode cX12_full 20 = .ok (.bipush (-2), 2) := by decide +kernel
theorem dX12_full_22 : decode cX12_full 22 = .ok (.ireturn, 1) := by decide +kernel
theorem dX12_fulls_0 : decode cX12_fulls 0 = .ok (.aload_n 0, 1) := by decide +kernel
theorem dX12_fulls_1 : decode cX12_fulls 1 = .ok (.iload_n 1, 1) := by decide +kernel
theorem dX12_fulls_2 : decode cX12_fulls 2 = .ok (.iconst 0, 1) := by decide +kernel
theorem dX12_fulls_3 : decode cX12_fulls 3 = .ok (.invokevirtual 341, 3) := by decide +kernel
theorem dX12_fulls_6 : decode cX12_fulls 6 = .ok (.ifCond .eq 11, 3) := by decide +kernel
theorem dX12_fulls_17 : decode cX12_fulls 17 = .ok (.bipush (-2), 2) := by decide +kernel
theorem dX12_fulls_19 : decode cX12_fulls 19 = .ok (.ireturn, 1) := by decide +kernel
theorem dX12_good_0 : decode cX12_good 0 = .ok (.aload_n 0, 1) := by decide +kernel
theorem dX12_good_1 : decode cX12_good 1 = .ok (.getfield 115, 3) := by decide +kernel
theorem dX12_good_4 : decode cX12_good 4 = .ok (.ifCond .ne 7, 3) := by decide +kernel
theorem dX12_good_7 : decode cX12_good 7 = .ok (.iconst 1, 1) := by decide +kernel
theorem dX12_good_8 : decode cX12_good 8 = .ok (.goto 4, 3) := by decide +kernel
theorem dX12_good_12 : decode cX12_good 12 = .ok (.ireturn, 1) := by decide +kernel
theorem dX12_gorge_0 : decode cX12_gorge 0 = .ok (.aload_n 0, 1) := by decide +kernel
theorem dX12_gorge_1 : decode cX12_gorge 1 = .ok (.aload_n 0, 1) := by decide +kernel
theorem dX12_gorge_2 : decode cX12_gorge 2 = .ok (.getfield 78, 3) := by decide +kernel
theorem dX12_gorge_5 : decode cX12_gorge 5 = .ok (.putfield 81, 3) := by decide +kernel
theorem dX12_gorge_8 : decode cX12_gorge 8 = .ok (.aload_n 0, 1) := by decide +kernel
theorem dX12_gorge_9 : decode cX12_gorge 9 = .ok (.iconst 0, 1) := by decide +kernel
theorem dX12_gorge_10 : decode cX12_gorge 10 = .ok (.putfield 78, 3) := by decide +kernel
theorem dX12_gorge_13 : decode cX12_gorge 13 = .ok (.aload_n 0, 1) := by decide +kernel
theorem dX12_gorge_14 : decode cX12_gorge 14 = .ok (.iconst 0, 1) := by decide +kernel
theorem dX12_gorge_15 : decode cX12_gorge 15 = .ok (.putfield 84, 3) := by decide +kernel
theorem dX12_gorge_18 : decode cX12_gorge 18 = .ok (.aload_n 0, 1) := by decide +kernel
theorem dX12_gorge_19 : decode cX12_gorge 19 = .ok (.iconst 0, 1) := by decide +kernel
theorem dX12_gorge_20 : decode cX12_gorge 20 = .ok (.putfield 115, 3) := by decide +kernel
theorem dX12_gorge_23 : decode cX12_gorge 23 = .ok (.aload_n 0, 1) := by decide +kernel
theorem dX12_gorge_24 : decode cX12_gorge 24 = .ok (.iconst (-1), 1) := by decide +kernel
theorem dX12_gorge_25 : decode cX12_gorge 25 = .ok (.putfield 27, 3) := by decide +kernel
theorem dX12_gorge_28 : decode cX12_gorge 28 = .ok (.iconst 0, 1) := by decide +kernel
theorem dX12_gorge_29 : decode cX12_gorge 29 = .ok (.istore_n 1, 1) := by decide +kernel
theorem dX12_gorge_30 : decode cX12_gorge 30 = .ok (.iload_n 1, 1) := by decide +kernel
theorem dX12_gorge_31 : decode cX12_gorge 31 = .ok (.bipush 122, 2) := by decide +kernel
theorem dX12_gorge_33 : decode cX12_gorge 33 = .ok (.if_icmp .ge 16, 3) := by decide +kernel
theorem dX12_gorge_36 : decode cX12_gorge 36 = .ok (.aload_n 0, 1) := by decide +kernel
theorem dX12_gorge_37 : decode cX12_gorge 37 = .ok (.getfield 31, 3) := by decide +kernel
theorem dX12_gorge_40 : decode cX12_gorge 40 = .ok (.iload_n 1, 1) := by decide +kernel
theorem dX12_gorge_41 : decode cX12_gorge 41 = .ok (.iconst 0, 1) := by decide +kernel
theorem dX12_gorge_42 : decode cX12_gorge 42 = .ok (.iastore, 1) := by decide +kernel
theorem dX12_gorge_43 : decode cX12_gorge 43 = .ok (.iinc 1 1, 3) := by decide +kernel
theorem dX12_gorge_46 : decode cX12_gorge 46 = .ok (.goto (-16), 3) := by decide +kernel
theorem dX12_gorge_49 : decode cX12_gorge 49 = .ok (.aload_n 0, 1) := by decide +kernel
theorem dX12_gorge_50 : decode cX12_gorge 50 = .ok (.invokevirtual 135, 3) := by decide +kernel
theorem dX12_gorge_53 : decode cX12_gorge 53 = .ok (.aload_n 0, 1) := by decide +kernel
theorem dX12_gorge_54 : decode cX12_gorge 54 = .ok (.invokevirtual 118, 3) := by decide +kernel
theorem dX12_gorge_57 : decode cX12_gorge 57 = .ok (.ifCond .eq 17, 3) := by decide +kernel
theorem dX12_gorge_60 : decode cX12_gorge 60 = .ok (.aload_n 0, 1) := by decide +kernel
theorem dX12_gorge_61 : decode cX12_gorge 61 = .ok (.getfield 94, 3) := by decide +kernel
theorem dX12_gorge_64 : decode cX12_gorge 64 = .ok (.ifCond .eq 10, 3) := by decide +kernel
theorem dX12_gorge_74 : decode cX12_gorge 74 = .ok (.aload_n 0, 1) := by decide +kernel
theorem dX12_gorge_75 : decode cX12_gorge 75 = .ok (.invokevirtual 118, 3) := by decide +kernel
theorem dX12_gorge_78 : decode cX12_gorge 78 = .ok (.ifCond .ne 6, 3) := by decide +kernel
theorem dX12_gorge_84 : decode cX12_gorge 84 = .ok (.iconst 0, 1) := by decide +kernel
theorem dX12_gorge_85 : decode cX12_gorge 85 = .ok (.istore_n 1, 1) := by decide +kernel
theorem dX12_gorge_86 : decode cX12_gorge 86 = .ok (.iload_n 1, 1) := by decide +kernel
theorem dX12_gorge_87 : decode cX12_gorge 87 = .ok (.bipush 122, 2) := by decide +kernel
theorem dX12_gorge_89 : decode cX12_gorge 89 = .ok (.if_icmp .ge 21, 3) := by decide +kernel
theorem dX12_gorge_92 : decode cX12_gorge 92 = .ok (.aload_n 0, 1) := by decide +kernel
theorem dX12_gorge_93 : decode cX12_gorge 93 = .ok (.getfield 9, 3) := by decide +kernel
theorem dX12_gorge_96 : decode cX12_gorge 96 = .ok (.iload_n 1, 1) := by decide +kernel
theorem dX12_gorge_97 : decode cX12_gorge 97 = .ok (.aload_n 0, 1) := by decide +kernel
theorem dX12_gorge_98 : decode cX12_gorge 98 = .ok (.getfield 31, 3) := by decide +kernel
theorem dX12_gorge_101 : decode cX12_gorge 101 = .ok (.iload_n 1, 1) := by decide +kernel
theorem dX12_gorge_102 : decode cX12_gorge 102 = .ok (.iaload, 1) := by decide +kernel
theorem dX12_gorge_103 : decode cX12_gorge 103 = .ok (.iastore, 1) := by decide +kernel
theorem dX12_gorge_104 : decode cX12_gorge 104 = .ok (.iinc 1 1, 3) := by decide +kernel
theorem dX12_gorge_107 : decode cX12_gorge 107 = .ok (.goto (-21), 3) := by decide +kernel
theorem dX12_gorge_110 : decode cX12_gorge 110 = .ok (.aload_n 0, 1) := by decide +kernel
theorem dX12_gorge_111 : decode cX12_gorge 111 = .ok (.getfield 9, 3) := by decide +kernel
theorem dX12_gorge_114 : decode cX12_gorge 114 = .ok (.bipush 8, 2) := by decide +kernel
theorem dX12_gorge_116 : decode cX12_gorge 116 = .ok (.iaload, 1) := by decide +kernel
theorem dX12_gorge_117 : decode cX12_gorge 117 = .ok (.ireturn, 1) := by decide +kernel
theorem dX12_grip_0 : decode cX12_grip 0 = .ok (.aload_n 0, 1) := by decide +kernel
theorem dX12_grip_1 : decode cX12_grip 1 = .ok (.iload_n 1, 1) := by decide +kernel
theorem dX12_grip_2 : decode cX12_grip 2 = .ok (.i2l, 1) := by decide +kernel
theorem dX12_grip_3 : decode cX12_grip 3 = .ok (.invokevirtual 198, 3) := by decide +kernel
theorem dX12_grip_6 : decode cX12_grip 6 = .ok (.ifCond .eq 15, 3) := by decide +kernel

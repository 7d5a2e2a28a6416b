theorem dX12_ask_106 : decode cX12_ask 106 = .ok (.iinc 6 1, 3) := by decide +kernel
theorem dX12_ask_109 : decode cX12_ask 109 = .ok (.goto (-71), 3) := by decide +kernel
theorem dX12_ask_112 : decode cX12_ask 112 = .ok (.iinc 5 1, 3) := by decide +kernel
theorem dX12_ask_115 : decode cX12_ask 115 = .ok (.goto (-91), 3) := by decide +kernel
theorem dX12_ask_118 : decode cX12_ask 118 = .ok (.iload_n 3, 1) := by decide +kernel
theorem dX12_ask_119 : decode cX12_ask 119 = .ok (.ireturn, 1) := by decide +kernel
theorem dX12_asksRow_0 : decode cX12_asksRow 0 = .ok (.iload_n 1, 1) := by decide +kernel
theorem dX12_asksRow_1 : decode cX12_asksRow 1 = .ok (.invokestatic 311, 3) := by decide +kernel
theorem dX12_asksRow_4 : decode cX12_asksRow 4 = .ok (.ifCond .eq 22, 3) := by decide +kernel
theorem dX12_asksRow_7 : decode cX12_asksRow 7 = .ok (.aload_n 0, 1) := by decide +kernel
theorem dX12_asksRow_8 : decode cX12_asksRow 8 = .ok (.invokevirtual 74, 3) := by decide +kernel
theorem dX12_asksRow_11 : decode cX12_asksRow 11 = .ok (.ifCond .eq 15, 3) := by decide +kernel
theorem dX12_asksRow_14 : decode cX12_asksRow 14 = .ok (.iload_n 2, 1) := by decide +kernel
theorem dX12_asksRow_15 : decode cX12_asksRow 15 = .ok (.i2l, 1) := by decide +kernel
theorem dX12_asksRow_16 : decode cX12_asksRow 16 = .ok (.lconst 1, 1) := by decide +kernel
theorem dX12_asksRow_17 : decode cX12_asksRow 17 = .ok (.ldc2_w 314, 3) := by decide +kernel
theorem dX12_asksRow_20 : decode cX12_asksRow 20 = .ok (.invokestatic 70, 3) := by decide +kernel
theorem dX12_asksRow_23 : decode cX12_asksRow 23 = .ok (.ifCond .ne 6, 3) := by decide +kernel
theorem dX12_asksRow_26 : decode cX12_asksRow 26 = .ok (.bipush (-2), 2) := by decide +kernel
theorem dX12_asksRow_28 : decode cX12_asksRow 28 = .ok (.ireturn, 1) := by decide +kernel
theorem dX12_asksRow_29 : decode cX12_asksRow 29 = .ok (.aload_n 0, 1) := by decide +kernel
theorem dX12_asksRow_30 : decode cX12_asksRow 30 = .ok (.getfield 52, 3) := by decide +kernel
theorem dX12_asksRow_33 : decode cX12_asksRow 33 = .ok (.iload_n 1, 1) := by decide +kernel
theorem dX12_asksRow_34 : decode cX12_asksRow 34 = .ok (.iaload, 1) := by decide +kernel
theorem dX12_asksRow_35 : decode cX12_asksRow 35 = .ok (.iconst (-1), 1) := by decide +kernel
theorem dX12_asksRow_36 : decode cX12_asksRow 36 = .ok (.if_icmp .ne 6, 3) := by decide +kernel
theorem dX12_asksRow_39 : decode cX12_asksRow 39 = .ok (.bipush (-6), 2) := by decide +kernel
theorem dX12_asksRow_41 : decode cX12_asksRow 41 = .ok (.ireturn, 1) := by decide +kernel
theorem dX12_asksRow_42 : decode cX12_asksRow 42 = .ok (.iconst 0, 1) := by decide +kernel
theorem dX12_asksRow_43 : decode cX12_asksRow 43 = .ok (.istore_n 3, 1) := by decide +kernel
theorem dX12_asksRow_44 : decode cX12_asksRow 44 = .ok (.iload_n 3, 1) := by decide +kernel
theorem dX12_asksRow_45 : decode cX12_asksRow 45 = .ok (.aload_n 0, 1) := by decide +kernel
theorem dX12_asksRow_46 : decode cX12_asksRow 46 = .ok (.getfield 52, 3) := by decide +kernel
theorem dX12_asksRow_49 : decode cX12_asksRow 49 = .ok (.iload_n 1, 1) := by decide +kernel
theorem dX12_asksRow_50 : decode cX12_asksRow 50 = .ok (.iaload, 1) := by decide +kernel
theorem dX12_asksRow_51 : decode cX12_asksRow 51 = .ok (.if_icmp .ge 25, 3) := by decide +kernel
theorem dX12_asksRow_54 : decode cX12_asksRow 54 = .ok (.aload_n 0, 1) := by decide +kernel
theorem dX12_asksRow_55 : decode cX12_asksRow 55 = .ok (.aload_n 0, 1) := by decide +kernel
theorem dX12_asksRow_56 : decode cX12_asksRow 56 = .ok (.iload_n 1, 1) := by decide +kernel
theorem dX12_asksRow_57 : decode cX12_asksRow 57 = .ok (.iload_n 3, 1) := by decide +kernel
theorem dX12_asksRow_58 : decode cX12_asksRow 58 = .ok (.invokevirtual 316, 3) := by decide +kernel
theorem dX12_asksRow_61 : decode cX12_asksRow 61 = .ok (.invokevirtual 205, 3) := by decide +kernel
theorem dX12_asksRow_64 : decode cX12_asksRow 64 = .ok (.ifCond .ne 6, 3) := by decide +kernel
theorem dX12_asksRow_67 : decode cX12_asksRow 67 = .ok (.bipush (-2), 2) := by decide +kernel
theorem dX12_asksRow_69 : decode cX12_asksRow 69 = .ok (.ireturn, 1) := by decide +kernel
theorem dX12_asksRow_70 : decode cX12_asksRow 70 = .ok (.iinc 3 1, 3) := by decide +kernel
theorem dX12_asksRow_73 : decode cX12_asksRow 73 = .ok (.goto (-29), 3) := by decide +kernel
theorem dX12_asksRow_76 : decode cX12_asksRow 76 = .ok (.iconst 0, 1) := by decide +kernel
theorem dX12_asksRow_77 : decode cX12_asksRow 77 = .ok (.ireturn, 1) := by decide +kernel
theorem dX12_back_0 : decode cX12_back 0 = .ok (.iload_n 1, 1) := by decide +kernel
theorem dX12_back_1 : decode cX12_back 1 = .ok (.i2l, 1) := by decide +kernel
theorem dX12_back_2 : decode cX12_back 2 = .ok (.lconst 0, 1) := by decide +kernel
theorem dX12_back_3 : decode cX12_back 3 = .ok (.ldc2_w 68, 3) := by decide +kernel
theorem dX12_back_6 : decode cX12_back 6 = .ok (.invokestatic 70, 3) := by decide +kernel
theorem dX12_back_9 : decode cX12_back 9 = .ok (.ifCond .ne 6, 3) := by decide +kernel
theorem dX12_back_12 : decode cX12_back 12 = .ok (.bipush (-2), 2) := by decide +kernel
theorem dX12_back_14 : decode cX12_back 14 = .ok (.ireturn, 1) := by decide +kernel
theorem dX12_back_15 : decode cX12_back 15 = .ok (.aload_n 0, 1) := by decide +kernel
theorem dX12_back_16 : decode cX12_back 16 = .ok (.getfield 16, 3) := by decide +kernel
theorem dX12_back_19 : decode cX12_back 19 = .ok (.iload_n 1, 1) := by decide +kernel
theorem dX12_back_20 : decode cX12_back 20 = .ok (.baload, 1) := by decide +kernel
theorem dX12_back_21 : decode cX12_back 21 = .ok (.ifCond .ne 6, 3) := by decide +kernel
theorem dX12_back_24 : decode cX12_back 24 = .ok (.bipush (-6), 2) := by decide +kernel
theorem dX12_back_26 : decode cX12_back 26 = .ok (.ireturn, 1) := by decide +kernel
theorem dX12_back_27 : decode cX12_back 27 = .ok (.iconst 0, 1) := by decide +kernel
theorem dX12_back_28 : decode cX12_back 28 = .ok (.istore_n 2, 1) := by decide +kernel
theorem dX12_back_29 : decode cX12_back 29 = .ok (.iload_n 2, 1) := by decide +kernel
theorem dX12_back_30 : decode cX12_back 30 = .ok (.bipush 122, 2) := by decide +kernel
theorem dX12_back_32 : decode cX12_back 32 = .ok (.if_icmp .ge 26, 3) := by decide +kernel
theorem dX12_back_35 : decode cX12_back 35 = .ok (.aload_n 0, 1) := by decide +kernel
theorem dX12_back_36 : decode cX12_back 36 = .ok (.getfield 9, 3) := by decide +kernel
theorem dX12_back_39 : decode cX12_back 39 = .ok (.iload_n 2, 1) := by decide +kernel
theorem dX12_back_40 : decode cX12_back 40 = .ok (.aload_n 0, 1) := by decide +kernel
theorem dX12_back_41 : decode cX12_back 41 = .ok (.getfield 13, 3) := by decide +kernel
theorem dX12_back_44 : decode cX12_back 44 = .ok (.bipush 122, 2) := by decide +kernel
theorem dX12_back_46 : decode cX12_back 46 = .ok (.iload_n 1, 1) := by decide +kernel
theorem dX12_back_47 : decode cX12_back 47 = .ok (.imul, 1) := by decide +kernel
theorem dX12_back_48 : decode cX12_back 48 = .ok (.iload_n 2, 1) := by decide +kernel
theorem dX12_back_49 : decode cX12_back 49 = .ok (.iadd, 1) := by decide +kernel
theorem dX12_back_50 : decode cX12_back 50 = .ok (.iaload, 1) := by decide +kernel
theorem dX12_back_51 : decode cX12_back 51 = .ok (.iastore, 1) := by decide +kernel
theorem dX12_back_52 : decode cX12_back 52 = .ok (.iinc 2 1, 3) := by decide +kernel
theorem dX12_back_55 : decode cX12_back 55 = .ok (.goto (-26), 3) := by decide +kernel
theorem dX12_back_58 : decode cX12_back 58 = .ok (.iconst 0, 1) := by decide +kernel
theorem dX12_back_59 : decode cX12_back 59 = .ok (.ireturn, 1) := by decide +kernel
theorem dX12_bit_0 : decode cX12_bit 0 = .ok (.iload_n 0, 1) := by decide +kernel
theorem dX12_bit_1 : decode cX12_bit 1 = .ok (.iload_n 1, 1) := by decide +kernel
theorem dX12_bit_2 : decode cX12_bit 2 = .ok (.ishr, 1) := by decide +kernel
theorem dX12_bit_3 : decode cX12_bit 3 = .ok (.iconst 1, 1) := by decide +kernel
theorem dX12_bit_4 : decode cX12_bit 4 = .ok (.iand, 1) := by decide +kernel
theorem dX12_bit_5 : decode cX12_bit 5 = .ok (.ireturn, 1) := by decide +kernel
theorem dX12_bits_0 : decode cX12_bits 0 = .ok (.iconst 0, 1) := by decide +kernel
theorem dX12_bits_1 : decode cX12_bits 1 = .ok (.istore_n 1, 1) := by decide +kernel
theorem dX12_bits_2 : decode cX12_bits 2 = .ok (.iconst 0, 1) := by decide +kernel
theorem dX12_bits_3 : decode cX12_bits 3 = .ok (.istore_n 2, 1) := by decide +kernel
theorem dX12_bits_4 : decode cX12_bits 4 = .ok (.iload_n 2, 1) := by decide +kernel
theorem dX12_bits_5 : decode cX12_bits 5 = .ok (.bipush 8, 2) := by decide +kernel
theorem dX12_bits_7 : decode cX12_bits 7 = .ok (.if_icmp .ge 17, 3) := by decide +kernel
theorem dX12_bits_10 : decode cX12_bits 10 = .ok (.iload_n 1, 1) := by decide +kernel
theorem dX12_bits_11 : decode cX12_bits 11 = .ok (.iload_n 0, 1) := by decide +kernel
theorem dX12_bits_12 : decode cX12_bits 12 = .ok (.iload_n 2, 1) := by decide +kernel
theorem dX12_bits_13 : decode cX12_bits 13 = .ok (.ishr, 1) := by decide +kernel
theorem dX12_bits_14 : decode cX12_bits 14 = .ok (.iconst 1, 1) := by decide +kernel
theorem dX12_bits_15 : decode cX12_bits 15 = .ok (.iand, 1) := by decide +kernel
theorem dX12_bits_16 : decode cX12_bits 16 = .ok (.iadd, 1) := by decide +kernel
theorem dX12_bits_17 : decode cX12_bits 17 = .ok (.istore_n 1, 1) := by decide +kernel
theorem dX12_bits_18 : decode cX12_bits 18 = .ok (.iinc 2 1, 3) := by decide +kernel
theorem dX12_bits_21 : decode cX12_bits 21 = .ok (.goto (-17), 3) := by decide +kernel
theorem dX12_bits_24 : decode cX12_bits 24 = .ok (.iload_n 1, 1) := by decide +kernel
theorem dX12_bits_25 : decode cX12_bits 25 = .ok (.ireturn, 1) := by decide +kernel
theorem dX12_blows_0 : decode cX12_blows 0 = .ok (.iconst 0, 1) := by decide +kernel
theorem dX12_blows_1 : decode cX12_blows 1 = .ok (.istore_n 2, 1) := by decide +kernel
theorem dX12_blows_2 : decode cX12_blows 2 = .ok (.iload_n 2, 1) := by decide +kernel
theorem dX12_blows_3 : decode cX12_blows 3 = .ok (.aload_n 0, 1) := by decide +kernel
theorem dX12_blows_4 : decode cX12_blows 4 = .ok (.getfield 9, 3) := by decide +kernel
theorem dX12_blows_7 : decode cX12_blows 7 = .ok (.bipush 6, 2) := by decide +kernel
theorem dX12_blows_9 : decode cX12_blows 9 = .ok (.iaload, 1) := by decide +kernel
theorem dX12_blows_10 : decode cX12_blows 10 = .ok (.if_icmp .ge 45, 3) := by decide +kernel
theorem dX12_blows_13 : decode cX12_blows 13 = .ok (.iload_n 1, 1) := by decide +kernel
theorem dX12_blows_14 : decode cX12_blows 14 = .ok (.i2l, 1) := by decide +kernel
theorem dX12_blows_15 : decode cX12_blows 15 = .ok (.aload_n 0, 1) := by decide +kernel
theorem dX12_blows_16 : decode cX12_blows 16 = .ok (.getfield 9, 3) := by decide +kernel
theorem dX12_blows_19 : decode cX12_blows 19 = .ok (.bipush 54, 2) := by decide +kernel
theorem dX12_blows_21 : decode cX12_blows 21 = .ok (.iconst 2, 1) := by decide +kernel
theorem dX12_blows_22 : decode cX12_blows 22 = .ok (.iload_n 2, 1) := by decide +kernel
theorem dX12_blows_23 : decode cX12_blows 23 = .ok (.imul, 1) := by decide +kernel
theorem dX12_blows_24 : decode cX12_blows 24 = .ok (.iadd, 1) := by decide +kernel
theorem dX12_blows_25 : decode cX12_blows 25 = .ok (.iaload, 1) := by decide +kernel
theorem dX12_blows_26 : decode cX12_blows 26 = .ok (.i2l, 1) := by decide +kernel
theorem dX12_blows_27 : decode cX12_blows 27 = .ok (.aload_n 0, 1) := by decide +kernel
theorem dX12_blows_28 : decode cX12_blows 28 = .ok (.getfield 9, 3) := by decide +kernel
theorem dX12_blows_31 : decode cX12_blows 31 = .ok (.bipush 54, 2) := by decide +kernel
theorem dX12_blows_33 : decode cX12_blows 33 = .ok (.iconst 2, 1) := by decide +kernel
theorem dX12_blows_34 : decode cX12_blows 34 = .ok (.iload_n 2, 1) := by decide +kernel
theorem dX12_blows_35 : decode cX12_blows 35 = .ok (.imul, 1) := by decide +kernel
theorem dX12_blows_36 : decode cX12_blows 36 = .ok (.iadd, 1) := by decide +kernel
theorem dX12_blows_37 : decode cX12_blows 37 = .ok (.iconst 1, 1) := by decide +kernel
theorem dX12_blows_38 : decode cX12_blows 38 = .ok (.iadd, 1) := by decide +kernel
theorem dX12_blows_39 : decode cX12_blows 39 = .ok (.iaload, 1) := by decide +kernel
theorem dX12_blows_40 : decode cX12_blows 40 = .ok (.i2l, 1) := by decide +kernel
theorem dX12_blows_41 : decode cX12_blows 41 = .ok (.invokestatic 70, 3) := by decide +kernel
theorem dX12_blows_44 : decode cX12_blows 44 = .ok (.ifCond .eq 5, 3) := by decide +kernel
theorem dX12_blows_47 : decode cX12_blows 47 = .ok (.iconst 1, 1) := by decide +kernel
theorem dX12_blows_48 : decode cX12_blows 48 = .ok (.ireturn, 1) := by decide +kernel
theorem dX12_blows_49 : decode cX12_blows 49 = .ok (.iinc 2 1, 3) := by decide +kernel
theorem dX12_blows_52 : decode cX12_blows 52 = .ok (.goto (-50), 3) := by decide +kernel
theorem dX12_blows_55 : decode cX12_blows 55 = .ok (.iconst 0, 1) := by decide +kernel
theorem dX12_blows_56 : decode cX12_blows 56 = .ok (.ireturn, 1) := by decide +kernel
theorem dX12_bothOf_0 : decode cX12_bothOf 0 = .ok (.aload_n 0, 1) := by decide +kernel
theorem dX12_bothOf_1 : decode cX12_bothOf 1 = .ok (.iload_n 1, 1) := by decide +kernel
theorem dX12_bothOf_2 : decode cX12_bothOf 2 = .ok (.iconst 0, 1) := by decide +kernel
theorem dX12_bothOf_3 : decode cX12_bothOf 3 = .ok (.invokevirtual 361, 3) := by decide +kernel
theorem dX12_bothOf_6 : decode cX12_bothOf 6 = .ok (.aload_n 0, 1) := by decide +kernel
theorem dX12_bothOf_7 : decode cX12_bothOf 7 = .ok (.iload_n 1, 1) := by decide +kernel
theorem dX12_bothOf_8 : decode cX12_bothOf 8 = .ok (.iconst 1, 1) := by decide +kernel
theorem dX12_bothOf_9 : decode cX12_bothOf 9 = .ok (.invokevirtual 361, 3) := by decide +kernel
theorem dX12_bothOf_12 : decode cX12_bothOf 12 = .ok (.iadd, 1) := by decide +kernel
theorem dX12_bothOf_13 : decode cX12_bothOf 13 = .ok (.ireturn, 1) := by decide +kernel
theorem dX12_bundle_0 : decode cX12_bundle 0 = .ok (.aload_n 0, 1) := by decide +kernel
theorem dX12_bundle_1 : decode cX12_bundle 1 = .ok (.invokevirtual 74, 3) := by decide +kernel
theorem dX12_bundle_4 : decode cX12_bundle 4 = .ok (.ifCond .ne 6, 3) := by decide +kernel
theorem dX12_bundle_7 : decode cX12_bundle 7 = .ok (.bipush (-2), 2) := by decide +kernel
theorem dX12_bundle_9 : decode cX12_bundle 9 = .ok (.ireturn, 1) := by decide +kernel
theorem dX12_bundle_10 : decode cX12_bundle 10 = .ok (.aload_n 0, 1) := by decide +kernel
theorem dX12_bundle_11 : decode cX12_bundle 11 = .ok (.invokevirtual 379, 3) := by decide +kernel
theorem dX12_bundle_14 : decode cX12_bundle 14 = .ok (.pop, 1) := by decide +kernel
theorem dX12_bundle_15 : decode cX12_bundle 15 = .ok (.aload_n 0, 1) := by decide +kernel
theorem dX12_bundle_16 : decode cX12_bundle 16 = .ok (.getfield 376, 3) := by decide +kernel
theorem dX12_bundle_19 : decode cX12_bundle 19 = .ok (.ireturn, 1) := by decide +kernel
theorem dX12_bundles_0 : decode cX12_bundles 0 = .ok (.aload_n 0, 1) := by decide +kernel
theorem dX12_bundles_1 : decode cX12_bundles 1 = .ok (.invokevirtual 74, 3) := by decide +kernel
theorem dX12_bundles_4 : decode cX12_bundles 4 = .ok (.ifCond .eq 10, 3) := by decide +kernel
theorem dX12_bundles_7 : decode cX12_bundles 7 = .ok (.aload_n 0, 1) := by decide +kernel
theorem dX12_bundles_8 : decode cX12_bundles 8 = .ok (.invokevirtual 379, 3) := by decide +kernel
theorem dX12_bundles_11 : decode cX12_bundles 11 = .ok (.goto 5, 3) := by decide +kernel
theorem dX12_bundles_14 : decode cX12_bundles 14 = .ok (.bipush (-2), 2) := by decide +kernel
theorem dX12_bundles_16 : decode cX12_bundles 16 = .ok (.ireturn, 1) := by decide +kernel
theorem dX12_by_0 : decode cX12_by 0 = .ok (.aload_n 0, 1) := by decide +kernel
theorem dX12_by_1 : decode cX12_by 1 = .ok (.iload_n 1, 1) := by decide +kernel
theorem dX12_by_2 : decode cX12_by 2 = .ok (.aload_n 0, 1) := by decide +kernel
theorem dX12_by_3 : decode cX12_by 3 = .ok (.iload_n 2, 1) := by decide +kernel
theorem dX12_by_4 : decode cX12_by 4 = .ok (.i2l, 1) := by decide +kernel
theorem dX12_by_5 : decode cX12_by 5 = .ok (.invokevirtual 198, 3) := by decide +kernel
theorem dX12_by_8 : decode cX12_by 8 = .ok (.invokevirtual 396, 3) := by decide +kernel
theorem dX12_by_11 : decode cX12_by 11 = .ok (.istore_n 3, 1) := by decide +kernel
theorem dX12_by_12 : decode cX12_by 12 = .ok (.iload_n 3, 1) := by decide +kernel
theorem dX12_by_13 : decode cX12_by 13 = .ok (.ifCond .ge 5, 3) := by decide +kernel
theorem dX12_by_16 : decode cX12_by 16 = .ok (.iload_n 3, 1) := by decide +kernel
theorem dX12_by_17 : decode cX12_by 17 = .ok (.ireturn, 1) := by decide +kernel
theorem dX12_by_18 : decode cX12_by 18 = .ok (.iconst 0, 1) := by decide +kernel
theorem dX12_by_19 : decode cX12_by 19 = .ok (.istore 4, 2) := by decide +kernel
theorem dX12_by_21 : decode cX12_by 21 = .ok (.iload 4, 2) := by decide +kernel
theorem dX12_by_23 : decode cX12_by 23 = .ok (.aload_n 0, 1) := by decide +kernel
theorem dX12_by_24 : decode cX12_by 24 = .ok (.getfield 389, 3) := by decide +kernel
theorem dX12_by_27 : decode cX12_by 27 = .ok (.if_icmp .ge 34, 3) := by decide +kernel
theorem dX12_by_30 : decode cX12_by 30 = .ok (.aload_n 0, 1) := by decide +kernel
theorem dX12_by_31 : decode cX12_by 31 = .ok (.getfield 49, 3) := by decide +kernel
theorem dX12_by_34 : decode cX12_by 34 = .ok (.iload 4, 2) := by decide +kernel
theorem dX12_by_36 : decode cX12_by 36 = .ok (.iaload, 1) := by decide +kernel
theorem dX12_by_37 : decode cX12_by 37 = .ok (.bipush 100, 2) := by decide +kernel
theorem dX12_by_39 : decode cX12_by 39 = .ok (.idiv, 1) := by decide +kernel
theorem dX12_by_40 : decode cX12_by 40 = .ok (.iload_n 2, 1) := by decide +kernel
theorem dX12_by_41 : decode cX12_by 41 = .ok (.if_icmp .ne 14, 3) := by decide +kernel
theorem dX12_by_44 : decode cX12_by 44 = .ok (.aload_n 0, 1) := by decide +kernel
theorem dX12_by_45 : decode cX12_by 45 = .ok (.getfield 49, 3) := by decide +kernel
theorem dX12_by_48 : decode cX12_by 48 = .ok (.iload 4, 2) := by decide +kernel
theorem dX12_by_50 : decode cX12_by 50 = .ok (.iaload, 1) := by decide +kernel
theorem dX12_by_51 : decode cX12_by 51 = .ok (.bipush 100, 2) := by decide +kernel
theorem dX12_by_53 : decode cX12_by 53 = .ok (.irem, 1) := by decide +kernel
theorem dX12_by_54 : decode cX12_by 54 = .ok (.ireturn, 1) := by decide +kernel
theorem dX12_by_55 : decode cX12_by 55 = .ok (.iinc 4 1, 3) := by decide +kernel
theorem dX12_by_58 : decode cX12_by 58 = .ok (.goto (-37), 3) := by decide +kernel
theorem dX12_by_61 : decode cX12_by 61 = .ok (.iconst (-1), 1) := by decide +kernel
theorem dX12_by_62 : decode cX12_by 62 = .ok (.ireturn, 1) := by decide +kernel
theorem dX12_chance_0 : decode cX12_chance 0 = .ok (.aload_n 0, 1) := by decide +kernel
theorem dX12_chance_1 : decode cX12_chance 1 = .ok (.iload_n 1, 1) := by decide +kernel
theorem dX12_chance_2 : decode cX12_chance 2 = .ok (.iload_n 2, 1) := by decide +kernel
theorem dX12_chance_3 : decode cX12_chance 3 = .ok (.invokevirtual 290, 3) := by decide +kernel
theorem dX12_chance_6 : decode cX12_chance 6 = .ok (.ifCond .eq 26, 3) := by decide +kernel
theorem dX12_chance_9 : decode cX12_chance 9 = .ok (.iload_n 3, 1) := by decide +kernel
theorem dX12_chance_10 : decode cX12_chance 10 = .ok (.i2l, 1) := by decide +kernel
theorem dX12_chance_11 : decode cX12_chance 11 = .ok (.lconst 0, 1) := by decide +kernel
theorem dX12_chance_12 : decode cX12_chance 12 = .ok (.ldc2_w 407, 3) := by decide +kernel
theorem dX12_chance_15 : decode cX12_chance 15 = .ok (.invokestatic 70, 3) := by decide +kernel
theorem dX12_chance_18 : decode cX12_chance 18 = .ok (.ifCond .eq 14, 3) := by decide +kernel
theorem dX12_chance_21 : decode cX12_chance 21 = .ok (.iload 4, 2) := by decide +kernel
theorem dX12_chance_23 : decode cX12_chance 23 = .ok (.i2l, 1) := by decide +kernel
theorem dX12_chance_24 : decode cX12_chance 24 = .ok (.lconst 0, 1) := by decide +kernel
theorem dX12_chance_25 : decode cX12_chance 25 = .ok (.lconst 1, 1) := by decide +kernel
theorem dX12_chance_26 : decode cX12_chance 26 = .ok (.invokestatic 70, 3) := by decide +kernel
theorem dX12_chance_29 : decode cX12_chance 29 = .ok (.ifCond .ne 7, 3) := by decide +kernel
theorem dX12_chance_32 : decode cX12_chance 32 = .ok (.ldc2_w 409, 3) := by decide +kernel
theorem dX12_chance_35 : decode cX12_chance 35 = .ok (.lreturn, 1) := by decide +kernel
theorem dX12_chance_36 : decode cX12_chance 36 = .ok (.aload_n 0, 1) := by decide +kernel
theorem dX12_chance_37 : decode cX12_chance 37 = .ok (.iload_n 1, 1) := by decide +kernel
theorem dX12_chance_38 : decode cX12_chance 38 = .ok (.iload_n 2, 1) := by decide +kernel
theorem dX12_chance_39 : decode cX12_chance 39 = .ok (.invokevirtual 293, 3) := by decide +kernel
theorem dX12_chance_42 : decode cX12_chance 42 = .ok (.ifCond .ne 7, 3) := by decide +kernel
theorem dX12_chance_45 : decode cX12_chance 45 = .ok (.ldc2_w 411, 3) := by decide +kernel
theorem dX12_chance_48 : decode cX12_chance 48 = .ok (.lreturn, 1) := by decide +kernel
theorem dX12_chance_49 : decode cX12_chance 49 = .ok (.iload_n 3, 1) := by decide +kernel
theorem dX12_chance_50 : decode cX12_chance 50 = .ok (.aload_n 0, 1) := by decide +kernel
theorem dX12_chance_51 : decode cX12_chance 51 = .ok (.iload_n 1, 1) := by decide +kernel
theorem dX12_chance_52 : decode cX12_chance 52 = .ok (.iload_n 2, 1) := by decide +kernel
theorem dX12_chance_53 : decode cX12_chance 53 = .ok (.invokevirtual 239, 3) := by decide +kernel
theorem dX12_chance_56 : decode cX12_chance 56 = .ok (.if_icmp .le 7, 3) := by decide +kernel
theorem dX12_chance_59 : decode cX12_chance 59 = .ok (.lconst 0, 1) := by decide +kernel
theorem dX12_chance_60 : decode cX12_chance 60 = .ok (.goto 17, 3) := by decide +kernel
theorem dX12_chance_63 : decode cX12_chance 63 = .ok (.bipush 10, 2) := by decide +kernel
theorem dX12_chance_65 : decode cX12_chance 65 = .ok (.aload_n 0, 1) := by decide +kernel
theorem dX12_chance_66 : decode cX12_chance 66 = .ok (.getfield 9, 3) := by decide +kernel
theorem dX12_chance_69 : decode cX12_chance 69 = .ok (.iconst 2, 1) := by decide +kernel
theorem dX12_chance_70 : decode cX12_chance 70 = .ok (.iaload, 1) := by decide +kernel
theorem dX12_chance_71 : decode cX12_chance 71 = .ok (.isub, 1) := by decide +kernel
theorem dX12_chance_72 : decode cX12_chance 72 = .ok (.i2l, 1) := by decide +kernel
theorem dX12_chance_73 : decode cX12_chance 73 = .ok (.iload_n 3, 1) := by decide +kernel
theorem dX12_chance_74 : decode cX12_chance 74 = .ok (.invokestatic 413, 3) := by decide +kernel
theorem dX12_chance_77 : decode cX12_chance 77 = .ok (.ldc2_w 417, 3) := by decide +kernel
theorem dX12_chance_80 : decode cX12_chance 80 = .ok (.iload_n 3, 1) := by decide +kernel
theorem dX12_chance_81 : decode cX12_chance 81 = .ok (.invokestatic 413, 3) := by decide +kernel
theorem dX12_chance_84 : decode cX12_chance 84 = .ok (.iload 4, 2) := by decide +kernel
theorem dX12_chance_86 : decode cX12_chance 86 = .ok (.invokestatic 419, 3) := by decide +kernel
theorem dX12_chance_89 : decode cX12_chance 89 = .ok (.lreturn, 1) := by decide +kernel
theorem dX12_clause_0 : decode cX12_clause 0 = .ok (.aload_n 0, 1) := by decide +kernel
theorem dX12_clause_1 : decode cX12_clause 1 = .ok (.iload_n 1, 1) := by decide +kernel
theorem dX12_clause_2 : decode cX12_clause 2 = .ok (.i2l, 1) := by decide +kernel
theorem dX12_clause_3 : decode cX12_clause 3 = .ok (.invokevirtual 205, 3) := by decide +kernel
theorem dX12_clause_6 : decode cX12_clause 6 = .ok (.ifCond .eq 24, 3) := by decide +kernel
theorem dX12_clause_9 : decode cX12_clause 9 = .ok (.iload_n 2, 1) := by decide +kernel
theorem dX12_clause_10 : decode cX12_clause 10 = .ok (.i2l, 1) := by decide +kernel
theorem dX12_clause_11 : decode cX12_clause 11 = .ok (.lconst 0, 1) := by decide +kernel
theorem dX12_clause_12 : decode cX12_clause 12 = .ok (.ldc2_w 68, 3) := by decide +kernel
theorem dX12_clause_15 : decode cX12_clause 15 = .ok (.invokestatic 70, 3) := by decide +kernel
theorem dX12_clause_18 : decode cX12_clause 18 = .ok (.ifCond .eq 12, 3) := by decide +kernel
theorem dX12_clause_21 : decode cX12_clause 21 = .ok (.aload_n 0, 1) := by decide +kernel
theorem dX12_clause_22 : decode cX12_clause 22 = .ok (.iload_n 1, 1) := by decide +kernel
theorem dX12_clause_23 : decode cX12_clause 23 = .ok (.iload_n 2, 1) := by decide +kernel
theorem dX12_clause_24 : decode cX12_clause 24 = .ok (.invokevirtual 208, 3) := by decide +kernel
theorem dX12_clause_27 : decode cX12_clause 27 = .ok (.goto 6, 3) := by decide +kernel
theorem dX12_clause_30 : decode cX12_clause 30 = .ok (.sipush (-1000), 3) := by decide +kernel
theorem dX12_clause_33 : decode cX12_clause 33 = .ok (.ireturn, 1) := by decide +kernel
theorem dX12_count_0 : decode cX12_count 0 = .ok (.iload_n 1, 1) := by decide +kernel
theorem dX12_count_1 : decode cX12_count 1 = .ok (.i2l, 1) := by decide +kernel
theorem dX12_count_2 : decode cX12_count 2 = .ok (.lconst 0, 1) := by decide +kernel
theorem dX12_count_3 : decode cX12_count 3 = .ok (.ldc2_w 457, 3) := by decide +kernel
theorem dX12_count_6 : decode cX12_count 6 = .ok (.invokestatic 70, 3) := by decide +kernel
theorem dX12_count_9 : decode cX12_count 9 = .ok (.ifCond .eq 10, 3) := by decide +kernel
theorem dX12_count_12 : decode cX12_count 12 = .ok (.aload_n 0, 1) := by decide +kernel
theorem dX12_count_13 : decode cX12_count 13 = .ok (.getfield 9, 3) := by decide +kernel
theorem dX12_count_16 : decode cX12_count 16 = .ok (.iload_n 1, 1) := by decide +kernel
theorem dX12_count_17 : decode cX12_count 17 = .ok (.iaload, 1) := by decide +kernel
theorem dX12_count_18 : decode cX12_count 18 = .ok (.ireturn, 1) := by decide +kernel
theorem dX12_count_19 : decode cX12_count 19 = .ok (.iload_n 1, 1) := by decide +kernel
theorem dX12_count_20 : decode cX12_count 20 = .ok (.bipush 9, 2) := by decide +kernel
theorem dX12_count_22 : decode cX12_count 22 = .ok (.if_icmp .ne 8, 3) := by decide +kernel
theorem dX12_count_25 : decode cX12_count 25 = .ok (.aload_n 0, 1) := by decide +kernel
theorem dX12_count_26 : decode cX12_count 26 = .ok (.getfield 78, 3) := by decide +kernel
theorem dX12_count_29 : decode cX12_count 29 = .ok (.ireturn, 1) := by decide +kernel
theorem dX12_count_30 : decode cX12_count 30 = .ok (.iload_n 1, 1) := by decide +kernel
theorem dX12_count_31 : decode cX12_count 31 = .ok (.bipush 10, 2) := by decide +kernel
theorem dX12_count_33 : decode cX12_count 33 = .ok (.if_icmp .eq 5, 3) := by decide +kernel
theorem dX12_count_36 : decode cX12_count 36 = .ok (.iconst (-1), 1) := by decide +kernel
theorem dX12_count_37 : decode cX12_count 37 = .ok (.ireturn, 1) := by decide +kernel
theorem dX12_count_38 : decode cX12_count 38 = .ok (.iconst 0, 1) := by decide +kernel
theorem dX12_count_39 : decode cX12_count 39 = .ok (.istore_n 2, 1) := by decide +kernel
theorem dX12_count_40 : decode cX12_count 40 = .ok (.iconst 0, 1) := by decide +kernel
theorem dX12_count_41 : decode cX12_count 41 = .ok (.istore_n 3, 1) := by decide +kernel
theorem dX12_count_42 : decode cX12_count 42 = .ok (.iload_n 3, 1) := by decide +kernel
theorem dX12_count_43 : decode cX12_count 43 = .ok (.iconst 4, 1) := by decide +kernel
theorem dX12_count_44 : decode cX12_count 44 = .ok (.if_icmp .ge 27, 3) := by decide +kernel
theorem dX12_count_47 : decode cX12_count 47 = .ok (.iload_n 2, 1) := by decide +kernel
theorem dX12_count_48 : decode cX12_count 48 = .ok (.aload_n 0, 1) := by decide +kernel
theorem dX12_count_49 : decode cX12_count 49 = .ok (.getfield 52, 3) := by decide +kernel
theorem dX12_count_52 : decode cX12_count 52 = .ok (.iload_n 3, 1) := by decide +kernel
theorem dX12_count_53 : decode cX12_count 53 = .ok (.iaload, 1) := by decide +kernel
theorem dX12_count_54 : decode cX12_count 54 = .ok (.iconst (-1), 1) := by decide +kernel
theorem dX12_count_55 : decode cX12_count 55 = .ok (.if_icmp .ne 7, 3) := by decide +kernel
theorem dX12_count_58 : decode cX12_count 58 = .ok (.iconst 0, 1) := by decide +kernel
theorem dX12_count_59 : decode cX12_count 59 = .ok (.goto 4, 3) := by decide +kernel
theorem dX12_count_62 : decode cX12_count 62 = .ok (.iconst 1, 1) := by decide +kernel
theorem dX12_count_63 : decode cX12_count 63 = .ok (.iadd, 1) := by decide +kernel
theorem dX12_count_64 : decode cX12_count 64 = .ok (.istore_n 2, 1) := by decide +kernel
theorem dX12_count_65 : decode cX12_count 65 = .ok (.iinc 3 1, 3) := by decide +kernel
theorem dX12_count_68 : decode cX12_count 68 = .ok (.goto (-26), 3) := by decide +kernel
theorem dX12_count_71 : decode cX12_count 71 = .ok (.iload_n 2, 1) := by decide +kernel
theorem dX12_count_72 : decode cX12_count 72 = .ok (.ireturn, 1) := by decide +kernel
theorem dX12_cut_0 : decode cX12_cut 0 = .ok (.aload_n 0, 1) := by decide +kernel
theorem dX12_cut_1 : decode cX12_cut 1 = .ok (.iload_n 1, 1) := by decide +kernel
theorem dX12_cut_2 : decode cX12_cut 2 = .ok (.iload_n 2, 1) := by decide +kernel
theorem dX12_cut_3 : decode cX12_cut 3 = .ok (.invokevirtual 326, 3) := by decide +kernel
theorem dX12_cut_6 : decode cX12_cut 6 = .ok (.istore_n 3, 1) := by decide +kernel
theorem dX12_cut_7 : decode cX12_cut 7 = .ok (.iload_n 3, 1) := by decide +kernel
theorem dX12_cut_8 : decode cX12_cut 8 = .ok (.ifCond .ge 5, 3) := by decide +kernel
theorem dX12_cut_11 : decode cX12_cut 11 = .ok (.iload_n 3, 1) := by decide +kernel
theorem dX12_cut_12 : decode cX12_cut 12 = .ok (.ireturn, 1) := by decide +kernel
theorem dX12_cut_13 : decode cX12_cut 13 = .ok (.aload_n 0, 1) := by decide +kernel
theorem dX12_cut_14 : decode cX12_cut 14 = .ok (.iload_n 1, 1) := by decide +kernel
theorem dX12_cut_15 : decode cX12_cut 15 = .ok (.invokevirtual 329, 3) := by decide +kernel
theorem dX12_cut_18 : decode cX12_cut 18 = .ok (.aload_n 0, 1) := by decide +kernel
theorem dX12_cut_19 : decode cX12_cut 19 = .ok (.iload_n 2, 1) := by decide +kernel
theorem dX12_cut_20 : decode cX12_cut 20 = .ok (.invokevirtual 332, 3) := by decide +kernel
theorem dX12_cut_23 : decode cX12_cut 23 = .ok (.ireturn, 1) := by decide +kernel
theorem dX12_cutOf_0 : decode cX12_cutOf 0 = .ok (.aload_n 0, 1) := by decide +kernel
theorem dX12_cutOf_1 : decode cX12_cutOf 1 = .ok (.getfield 320, 3) := by decide +kernel
theorem dX12_cutOf_4 : decode cX12_cutOf 4 = .ok (.ifCond .ne 7, 3) := by decide +kernel
theorem dX12_cutOf_7 : decode cX12_cutOf 7 = .ok (.iconst 0, 1) := by decide +kernel
theorem dX12_cutOf_8 : decode cX12_cutOf 8 = .ok (.goto 4, 3) := by decide +kernel
theorem dX12_cutOf_11 : decode cX12_cutOf 11 = .ok (.iconst 1, 1) := by decide +kernel
theorem dX12_cutOf_12 : decode cX12_cutOf 12 = .ok (.istore_n 2, 1) := by decide +kernel
theorem dX12_cutOf_13 : decode cX12_cutOf 13 = .ok (.iload_n 1, 1) := by decide +kernel
theorem dX12_cutOf_14 : decode cX12_cutOf 14 = .ok (.istore_n 3, 1) := by decide +kernel
theorem dX12_cutOf_15 : decode cX12_cutOf 15 = .ok (.aload_n 0, 1) := by decide +kernel
theorem dX12_cutOf_16 : decode cX12_cutOf 16 = .ok (.iconst (-1), 1) := by decide +kernel
theorem dX12_cutOf_17 : decode cX12_cutOf 17 = .ok (.putfield 323, 3) := by decide +kernel
theorem dX12_cutOf_20 : decode cX12_cutOf 20 = .ok (.iconst 0, 1) := by decide +kernel
theorem dX12_cutOf_21 : decode cX12_cutOf 21 = .ok (.istore 4, 2) := by decide +kernel
theorem dX12_cutOf_23 : decode cX12_cutOf 23 = .ok (.iload 4, 2) := by decide +kernel
theorem dX12_cutOf_25 : decode cX12_cutOf 25 = .ok (.aload_n 0, 1) := by decide +kernel
theorem dX12_cutOf_26 : decode cX12_cutOf 26 = .ok (.getfield 320, 3) := by decide +kernel
theorem dX12_cutOf_29 : decode cX12_cutOf 29 = .ok (.if_icmp .ge 73, 3) := by decide +kernel
theorem dX12_cutOf_32 : decode cX12_cutOf 32 = .ok (.aload_n 0, 1) := by decide +kernel
theorem dX12_cutOf_33 : decode cX12_cutOf 33 = .ok (.aload_n 0, 1) := by decide +kernel
theorem dX12_cutOf_34 : decode cX12_cutOf 34 = .ok (.getfield 43, 3) := by decide +kernel
theorem dX12_cutOf_37 : decode cX12_cutOf 37 = .ok (.iload 4, 2) := by decide +kernel
theorem dX12_cutOf_39 : decode cX12_cutOf 39 = .ok (.iaload, 1) := by decide +kernel
theorem dX12_cutOf_40 : decode cX12_cutOf 40 = .ok (.iconst 0, 1) := by decide +kernel
theorem dX12_cutOf_41 : decode cX12_cutOf 41 = .ok (.invokevirtual 208, 3) := by decide +kernel
theorem dX12_cutOf_44 : decode cX12_cutOf 44 = .ok (.istore 5, 2) := by decide +kernel
theorem dX12_cutOf_46 : decode cX12_cutOf 46 = .ok (.iload 5, 2) := by decide +kernel
theorem dX12_cutOf_48 : decode cX12_cutOf 48 = .ok (.iload_n 1, 1) := by decide +kernel
theorem dX12_cutOf_49 : decode cX12_cutOf 49 = .ok (.if_icmp .le 10, 3) := by decide +kernel
theorem dX12_cutOf_52 : decode cX12_cutOf 52 = .ok (.aload_n 0, 1) := by decide +kernel
theorem dX12_cutOf_53 : decode cX12_cutOf 53 = .ok (.iconst (-1), 1) := by decide +kernel
theorem dX12_cutOf_54 : decode cX12_cutOf 54 = .ok (.putfield 323, 3) := by decide +kernel
theorem dX12_cutOf_57 : decode cX12_cutOf 57 = .ok (.iconst (-1), 1) := by decide +kernel
theorem dX12_cutOf_58 : decode cX12_cutOf 58 = .ok (.ireturn, 1) := by decide +kernel
theorem dX12_cutOf_59 : decode cX12_cutOf 59 = .ok (.iload 5, 2) := by decide +kernel
theorem dX12_cutOf_61 : decode cX12_cutOf 61 = .ok (.iload_n 3, 1) := by decide +kernel
theorem dX12_cutOf_62 : decode cX12_cutOf 62 = .ok (.if_icmp .le 29, 3) := by decide +kernel
theorem dX12_cutOf_65 : decode cX12_cutOf 65 = .ok (.aload_n 0, 1) := by decide +kernel
theorem dX12_cutOf_66 : decode cX12_cutOf 66 = .ok (.aload_n 0, 1) := by decide +kernel
theorem dX12_cutOf_67 : decode cX12_cutOf 67 = .ok (.getfield 323, 3) := by decide +kernel
theorem dX12_cutOf_70 : decode cX12_cutOf 70 = .ok (.iconst (-1), 1) := by decide +kernel
theorem dX12_cutOf_71 : decode cX12_cutOf 71 = .ok (.if_icmp .ne 8, 3) := by decide +kernel
theorem dX12_cutOf_74 : decode cX12_cutOf 74 = .ok (.iload 4, 2) := by decide +kernel
theorem dX12_cutOf_76 : decode cX12_cutOf 76 = .ok (.goto 7, 3) := by decide +kernel
theorem dX12_cutOf_79 : decode cX12_cutOf 79 = .ok (.aload_n 0, 1) := by decide +kernel
theorem dX12_cutOf_80 : decode cX12_cutOf 80 = .ok (.getfield 323, 3) := by decide +kernel
theorem dX12_cutOf_83 : decode cX12_cutOf 83 = .ok (.putfield 323, 3) := by decide +kernel
theorem dX12_cutOf_86 : decode cX12_cutOf 86 = .ok (.iinc 2 1, 3) := by decide +kernel
theorem dX12_cutOf_89 : decode cX12_cutOf 89 = .ok (.iload_n 1, 1) := by decide +kernel
theorem dX12_cutOf_90 : decode cX12_cutOf 90 = .ok (.istore_n 3, 1) := by decide +kernel
theorem dX12_cutOf_91 : decode cX12_cutOf 91 = .ok (.iload_n 3, 1) := by decide +kernel
theorem dX12_cutOf_92 : decode cX12_cutOf 92 = .ok (.iload 5, 2) := by decide +kernel
theorem dX12_cutOf_94 : decode cX12_cutOf 94 = .ok (.isub, 1) := by decide +kernel
theorem dX12_cutOf_95 : decode cX12_cutOf 95 = .ok (.istore_n 3, 1) := by decide +kernel
theorem dX12_cutOf_96 : decode cX12_cutOf 96 = .ok (.iinc 4 1, 3) := by decide +kernel
theorem dX12_cutOf_99 : decode cX12_cutOf 99 = .ok (.goto (-76), 3) := by decide +kernel
theorem dX12_cutOf_102 : decode cX12_cutOf 102 = .ok (.iload_n 2, 1) := by decide +kernel
theorem dX12_cutOf_103 : decode cX12_cutOf 103 = .ok (.ireturn, 1) := by decide +kernel
theorem dX12_cut__0 : decode cX12_cut_ 0 = .ok (.bipush 64, 2) := by decide +kernel
theorem dX12_cut__2 : decode cX12_cut_ 2 = .ok (.bipush 8, 2) := by decide +kernel
theorem dX12_cut__4 : decode cX12_cut_ 4 = .ok (.iload_n 2, 1) := by decide +kernel
theorem dX12_cut__5 : decode cX12_cut_ 5 = .ok (.ishl, 1) := by decide +kernel
theorem dX12_cut__6 : decode cX12_cut_ 6 = .ok (.isub, 1) := by decide +kernel
theorem dX12_cut__7 : decode cX12_cut_ 7 = .ok (.istore_n 3, 1) := by decide +kernel
theorem dX12_cut__8 : decode cX12_cut_ 8 = .ok (.lload_n 0, 1) := by decide +kernel
theorem dX12_cut__9 : decode cX12_cut_ 9 = .ok (.iload_n 3, 1) := by decide +kernel
theorem dX12_cut__10 : decode cX12_cut_ 10 = .ok (.lshl, 1) := by decide +kernel
theorem dX12_cut__11 : decode cX12_cut_ 11 = .ok (.iload_n 3, 1) := by decide +kernel
theorem dX12_cut__12 : decode cX12_cut_ 12 = .ok (.lshr, 1) := by decide +kernel
theorem dX12_cut__13 : decode cX12_cut_ 13 = .ok (.lreturn, 1) := by decide +kernel
theorem dX12_deal_0 : decode cX12_deal 0 = .ok (.aload_n 0, 1) := by decide +kernel
theorem dX12_deal_1 : decode cX12_deal 1 = .ok (.invokevirtual 74, 3) := by decide +kernel
theorem dX12_deal_4 : decode cX12_deal 4 = .ok (.ifCond .ne 6, 3) := by decide +kernel
theorem dX12_deal_7 : decode cX12_deal 7 = .ok (.bipush (-2), 2) := by decide +kernel
theorem dX12_deal_9 : decode cX12_deal 9 = .ok (.ireturn, 1) := by decide +kernel
theorem dX12_deal_10 : decode cX12_deal 10 = .ok (.iconst 0, 1) := by decide +kernel
theorem dX12_deal_11 : decode cX12_deal 11 = .ok (.istore_n 1, 1) := by decide +kernel
theorem dX12_deal_12 : decode cX12_deal 12 = .ok (.iconst 1, 1) := by decide +kernel
theorem dX12_deal_13 : decode cX12_deal 13 = .ok (.istore_n 2, 1) := by decide +kernel
theorem dX12_deal_14 : decode cX12_deal 14 = .ok (.iload_n 2, 1) := by decide +kernel
theorem dX12_deal_15 : decode cX12_deal 15 = .ok (.aload_n 0, 1) := by decide +kernel
theorem dX12_deal_16 : decode cX12_deal 16 = .ok (.invokevirtual 349, 3) := by decide +kernel
theorem dX12_deal_19 : decode cX12_deal 19 = .ok (.if_icmp .gt 48, 3) := by decide +kernel
theorem dX12_deal_22 : decode cX12_deal 22 = .ok (.aload_n 0, 1) := by decide +kernel
theorem dX12_deal_23 : decode cX12_deal 23 = .ok (.iload_n 2, 1) := by decide +kernel
theorem dX12_deal_24 : decode cX12_deal 24 = .ok (.invokevirtual 370, 3) := by decide +kernel
theorem dX12_deal_27 : decode cX12_deal 27 = .ok (.ifCond .eq 34, 3) := by decide +kernel
theorem dX12_deal_30 : decode cX12_deal 30 = .ok (.aload_n 0, 1) := by decide +kernel
theorem dX12_deal_31 : decode cX12_deal 31 = .ok (.iload_n 2, 1) := by decide +kernel
theorem dX12_deal_32 : decode cX12_deal 32 = .ok (.iconst 0, 1) := by decide +kernel
theorem dX12_deal_33 : decode cX12_deal 33 = .ok (.invokevirtual 361, 3) := by decide +kernel
theorem dX12_deal_36 : decode cX12_deal 36 = .ok (.aload_n 0, 1) := by decide +kernel
theorem dX12_deal_37 : decode cX12_deal 37 = .ok (.iload_n 2, 1) := by decide +kernel
theorem dX12_deal_38 : decode cX12_deal 38 = .ok (.iconst 1, 1) := by decide +kernel
theorem dX12_deal_39 : decode cX12_deal 39 = .ok (.invokevirtual 361, 3) := by decide +kernel
theorem dX12_deal_42 : decode cX12_deal 42 = .ok (.imul, 1) := by decide +kernel
theorem dX12_deal_43 : decode cX12_deal 43 = .ok (.aload_n 0, 1) := by decide +kernel
theorem dX12_deal_44 : decode cX12_deal 44 = .ok (.iload_n 1, 1) := by decide +kernel
theorem dX12_deal_45 : decode cX12_deal 45 = .ok (.iconst 0, 1) := by decide +kernel
theorem dX12_deal_46 : decode cX12_deal 46 = .ok (.invokevirtual 361, 3) := by decide +kernel
theorem dX12_deal_49 : decode cX12_deal 49 = .ok (.aload_n 0, 1) := by decide +kernel
theorem dX12_deal_50 : decode cX12_deal 50 = .ok (.iload_n 1, 1) := by decide +kernel
theorem dX12_deal_51 : decode cX12_deal 51 = .ok (.iconst 1, 1) := by decide +kernel
theorem dX12_deal_52 : decode cX12_deal 52 = .ok (.invokevirtual 361, 3) := by decide +kernel
theorem dX12_deal_55 : decode cX12_deal 55 = .ok (.imul, 1) := by decide +kernel
theorem dX12_deal_56 : decode cX12_deal 56 = .ok (.if_icmp .le 5, 3) := by decide +kernel
theorem dX12_deal_59 : decode cX12_deal 59 = .ok (.iload_n 2, 1) := by decide +kernel
theorem dX12_deal_60 : decode cX12_deal 60 = .ok (.istore_n 1, 1) := by decide +kernel

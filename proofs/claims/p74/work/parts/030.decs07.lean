theorem dX11_weak_73 : decode cX11_weak 73 = .ok (.iinc 4 1, 3) := by decide +kernel
theorem dX11_weak_76 : decode cX11_weak 76 = .ok (.goto (-54), 3) := by decide +kernel
theorem dX11_weak_79 : decode cX11_weak 79 = .ok (.iload_n 2, 1) := by decide +kernel
theorem dX11_weak_80 : decode cX11_weak 80 = .ok (.ireturn, 1) := by decide +kernel
theorem dX11_worth_0 : decode cX11_worth 0 = .ok (.aload_n 0, 1) := by decide +kernel
theorem dX11_worth_1 : decode cX11_worth 1 = .ok (.getfield 28, 3) := by decide +kernel
theorem dX11_worth_4 : decode cX11_worth 4 = .ok (.iload_n 2, 1) := by decide +kernel
theorem dX11_worth_5 : decode cX11_worth 5 = .ok (.invokevirtual 153, 3) := by decide +kernel
theorem dX11_worth_8 : decode cX11_worth 8 = .ok (.ifCond .eq 18, 3) := by decide +kernel
theorem dX11_worth_11 : decode cX11_worth 11 = .ok (.iload_n 1, 1) := by decide +kernel
theorem dX11_worth_12 : decode cX11_worth 12 = .ok (.iconst 0, 1) := by decide +kernel
theorem dX11_worth_13 : decode cX11_worth 13 = .ok (.aload_n 0, 1) := by decide +kernel
theorem dX11_worth_14 : decode cX11_worth 14 = .ok (.getfield 28, 3) := by decide +kernel
theorem dX11_worth_17 : decode cX11_worth 17 = .ok (.invokevirtual 264, 3) := by decide +kernel
theorem dX11_worth_20 : decode cX11_worth 20 = .ok (.invokestatic 104, 3) := by decide +kernel
theorem dX11_worth_23 : decode cX11_worth 23 = .ok (.ifCond .ne 7, 3) := by decide +kernel
theorem dX11_worth_26 : decode cX11_worth 26 = .ok (.sipush (-1000), 3) := by decide +kernel
theorem dX11_worth_29 : decode cX11_worth 29 = .ok (.ireturn, 1) := by decide +kernel
theorem dX11_worth_30 : decode cX11_worth 30 = .ok (.aload_n 0, 1) := by decide +kernel
theorem dX11_worth_31 : decode cX11_worth 31 = .ok (.getfield 28, 3) := by decide +kernel
theorem dX11_worth_34 : decode cX11_worth 34 = .ok (.iload_n 1, 1) := by decide +kernel
theorem dX11_worth_35 : decode cX11_worth 35 = .ok (.iload_n 2, 1) := by decide +kernel
theorem dX11_worth_36 : decode cX11_worth 36 = .ok (.invokevirtual 267, 3) := by decide +kernel
theorem dX11_worth_39 : decode cX11_worth 39 = .ok (.ireturn, 1) := by decide +kernel
theorem dX11_write_0 : decode cX11_write 0 = .ok (.aload_n 0, 1) := by decide +kernel
theorem dX11_write_1 : decode cX11_write 1 = .ok (.getfield 49, 3) := by decide +kernel
theorem dX11_write_4 : decode cX11_write 4 = .ok (.iload_n 1, 1) := by decide +kernel
theorem dX11_write_5 : decode cX11_write 5 = .ok (.invokevirtual 398, 3) := by decide +kernel
theorem dX11_write_8 : decode cX11_write 8 = .ok (.ifCond .ne 6, 3) := by decide +kernel
theorem dX11_write_11 : decode cX11_write 11 = .ok (.bipush (-2), 2) := by decide +kernel
theorem dX11_write_13 : decode cX11_write 13 = .ok (.ireturn, 1) := by decide +kernel
theorem dX11_write_14 : decode cX11_write 14 = .ok (.aload_n 0, 1) := by decide +kernel
theorem dX11_write_15 : decode cX11_write 15 = .ok (.getfield 49, 3) := by decide +kernel
theorem dX11_write_18 : decode cX11_write 18 = .ok (.iload_n 1, 1) := by decide +kernel
theorem dX11_write_19 : decode cX11_write 19 = .ok (.invokevirtual 405, 3) := by decide +kernel
theorem dX11_write_22 : decode cX11_write 22 = .ok (.ifCond .eq 6, 3) := by decide +kernel
theorem dX11_write_25 : decode cX11_write 25 = .ok (.bipush (-6), 2) := by decide +kernel
theorem dX11_write_27 : decode cX11_write 27 = .ok (.ireturn, 1) := by decide +kernel
theorem dX11_write_28 : decode cX11_write 28 = .ok (.aload_n 0, 1) := by decide +kernel
theorem dX11_write_29 : decode cX11_write 29 = .ok (.getfield 49, 3) := by decide +kernel
theorem dX11_write_32 : decode cX11_write 32 = .ok (.iload_n 1, 1) := by decide +kernel
theorem dX11_write_33 : decode cX11_write 33 = .ok (.iload_n 2, 1) := by decide +kernel
theorem dX11_write_34 : decode cX11_write 34 = .ok (.iconst 1, 1) := by decide +kernel
theorem dX11_write_35 : decode cX11_write 35 = .ok (.invokevirtual 408, 3) := by decide +kernel
theorem dX11_write_38 : decode cX11_write 38 = .ok (.ifCond .ne 6, 3) := by decide +kernel
theorem dX11_write_41 : decode cX11_write 41 = .ok (.bipush (-7), 2) := by decide +kernel
theorem dX11_write_43 : decode cX11_write 43 = .ok (.ireturn, 1) := by decide +kernel
theorem dX11_write_44 : decode cX11_write 44 = .ok (.aload_n 0, 1) := by decide +kernel
theorem dX11_write_45 : decode cX11_write 45 = .ok (.getfield 49, 3) := by decide +kernel
theorem dX11_write_48 : decode cX11_write 48 = .ok (.iload_n 1, 1) := by decide +kernel
theorem dX11_write_49 : decode cX11_write 49 = .ok (.iload_n 2, 1) := by decide +kernel
theorem dX11_write_50 : decode cX11_write 50 = .ok (.lload_n 3, 1) := by decide +kernel
theorem dX11_write_51 : decode cX11_write 51 = .ok (.invokevirtual 411, 3) := by decide +kernel
theorem dX11_write_54 : decode cX11_write 54 = .ok (.iconst 0, 1) := by decide +kernel
theorem dX11_write_55 : decode cX11_write 55 = .ok (.ireturn, 1) := by decide +kernel
theorem dX12_able_0 : decode cX12_able 0 = .ok (.aload_n 0, 1) := by decide +kernel
theorem dX12_able_1 : decode cX12_able 1 = .ok (.invokevirtual 74, 3) := by decide +kernel
theorem dX12_able_4 : decode cX12_able 4 = .ok (.ifCond .ne 6, 3) := by decide +kernel
theorem dX12_able_7 : decode cX12_able 7 = .ok (.bipush (-2), 2) := by decide +kernel
theorem dX12_able_9 : decode cX12_able 9 = .ok (.ireturn, 1) := by decide +kernel
theorem dX12_able_10 : decode cX12_able 10 = .ok (.aload_n 0, 1) := by decide +kernel
theorem dX12_able_11 : decode cX12_able 11 = .ok (.invokevirtual 259, 3) := by decide +kernel
theorem dX12_able_14 : decode cX12_able 14 = .ok (.iconst 0, 1) := by decide +kernel
theorem dX12_able_15 : decode cX12_able 15 = .ok (.istore_n 1, 1) := by decide +kernel
theorem dX12_able_16 : decode cX12_able 16 = .ok (.aload_n 0, 1) := by decide +kernel
theorem dX12_able_17 : decode cX12_able 17 = .ok (.iconst 0, 1) := by decide +kernel
theorem dX12_able_18 : decode cX12_able 18 = .ok (.putfield 211, 3) := by decide +kernel
theorem dX12_able_21 : decode cX12_able 21 = .ok (.aload_n 0, 1) := by decide +kernel
theorem dX12_able_22 : decode cX12_able 22 = .ok (.getfield 211, 3) := by decide +kernel
theorem dX12_able_25 : decode cX12_able 25 = .ok (.aload_n 0, 1) := by decide +kernel
theorem dX12_able_26 : decode cX12_able 26 = .ok (.getfield 9, 3) := by decide +kernel
theorem dX12_able_29 : decode cX12_able 29 = .ok (.iconst 0, 1) := by decide +kernel
theorem dX12_able_30 : decode cX12_able 30 = .ok (.iaload, 1) := by decide +kernel
theorem dX12_able_31 : decode cX12_able 31 = .ok (.if_icmp .ge 55, 3) := by decide +kernel
theorem dX12_able_34 : decode cX12_able 34 = .ok (.iconst 0, 1) := by decide +kernel
theorem dX12_able_35 : decode cX12_able 35 = .ok (.istore_n 2, 1) := by decide +kernel
theorem dX12_able_36 : decode cX12_able 36 = .ok (.iconst 0, 1) := by decide +kernel
theorem dX12_able_37 : decode cX12_able 37 = .ok (.istore_n 3, 1) := by decide +kernel
theorem dX12_able_38 : decode cX12_able 38 = .ok (.iload_n 3, 1) := by decide +kernel
theorem dX12_able_39 : decode cX12_able 39 = .ok (.sipush 400, 3) := by decide +kernel
theorem dX12_able_42 : decode cX12_able 42 = .ok (.if_icmp .ge 19, 3) := by decide +kernel
theorem dX12_able_45 : decode cX12_able 45 = .ok (.iload_n 2, 1) := by decide +kernel
theorem dX12_able_46 : decode cX12_able 46 = .ok (.ifCond .ne 15, 3) := by decide +kernel
theorem dX12_able_49 : decode cX12_able 49 = .ok (.aload_n 0, 1) := by decide +kernel
theorem dX12_able_50 : decode cX12_able 50 = .ok (.iload_n 3, 1) := by decide +kernel
theorem dX12_able_51 : decode cX12_able 51 = .ok (.invokevirtual 246, 3) := by decide +kernel
theorem dX12_able_54 : decode cX12_able 54 = .ok (.istore_n 2, 1) := by decide +kernel
theorem dX12_able_55 : decode cX12_able 55 = .ok (.iinc 3 1, 3) := by decide +kernel
theorem dX12_able_58 : decode cX12_able 58 = .ok (.goto (-20), 3) := by decide +kernel
theorem dX12_able_61 : decode cX12_able 61 = .ok (.iload_n 1, 1) := by decide +kernel
theorem dX12_able_62 : decode cX12_able 62 = .ok (.iload_n 2, 1) := by decide +kernel
theorem dX12_able_63 : decode cX12_able 63 = .ok (.ifCond .eq 7, 3) := by decide +kernel
theorem dX12_able_66 : decode cX12_able 66 = .ok (.iconst 1, 1) := by decide +kernel
theorem dX12_able_67 : decode cX12_able 67 = .ok (.goto 4, 3) := by decide +kernel
theorem dX12_able_70 : decode cX12_able 70 = .ok (.iconst 0, 1) := by decide +kernel
theorem dX12_able_71 : decode cX12_able 71 = .ok (.iadd, 1) := by decide +kernel
theorem dX12_able_72 : decode cX12_able 72 = .ok (.istore_n 1, 1) := by decide +kernel
theorem dX12_able_73 : decode cX12_able 73 = .ok (.aload_n 0, 1) := by decide +kernel
theorem dX12_able_74 : decode cX12_able 74 = .ok (.dup, 1) := by decide +kernel
theorem dX12_able_75 : decode cX12_able 75 = .ok (.getfield 211, 3) := by decide +kernel
theorem dX12_able_78 : decode cX12_able 78 = .ok (.iconst 1, 1) := by decide +kernel
theorem dX12_able_79 : decode cX12_able 79 = .ok (.iadd, 1) := by decide +kernel
theorem dX12_able_80 : decode cX12_able 80 = .ok (.putfield 211, 3) := by decide +kernel
theorem dX12_able_83 : decode cX12_able 83 = .ok (.goto (-62), 3) := by decide +kernel
theorem dX12_able_86 : decode cX12_able 86 = .ok (.iload_n 1, 1) := by decide +kernel
theorem dX12_able_87 : decode cX12_able 87 = .ok (.ireturn, 1) := by decide +kernel
theorem dX12_act0_0 : decode cX12_act0 0 = .ok (.iload_n 1, 1) := by decide +kernel
theorem dX12_act0_1 : decode cX12_act0 1 = .ok (.ifCond .ne 18, 3) := by decide +kernel
theorem dX12_act0_4 : decode cX12_act0 4 = .ok (.aload_n 0, 1) := by decide +kernel
theorem dX12_act0_5 : decode cX12_act0 5 = .ok (.iload_n 2, 1) := by decide +kernel
theorem dX12_act0_6 : decode cX12_act0 6 = .ok (.bipush 20, 2) := by decide +kernel
theorem dX12_act0_8 : decode cX12_act0 8 = .ok (.idiv, 1) := by decide +kernel
theorem dX12_act0_9 : decode cX12_act0 9 = .ok (.iload_n 2, 1) := by decide +kernel
theorem dX12_act0_10 : decode cX12_act0 10 = .ok (.bipush 20, 2) := by decide +kernel
theorem dX12_act0_12 : decode cX12_act0 12 = .ok (.irem, 1) := by decide +kernel
theorem dX12_act0_13 : decode cX12_act0 13 = .ok (.invokevirtual 233, 3) := by decide +kernel
theorem dX12_act0_16 : decode cX12_act0 16 = .ok (.goto 91, 3) := by decide +kernel
theorem dX12_act0_19 : decode cX12_act0 19 = .ok (.iload_n 1, 1) := by decide +kernel
theorem dX12_act0_20 : decode cX12_act0 20 = .ok (.iconst 1, 1) := by decide +kernel
theorem dX12_act0_21 : decode cX12_act0 21 = .ok (.if_icmp .ne 46, 3) := by decide +kernel
theorem dX12_act0_24 : decode cX12_act0 24 = .ok (.aload_n 0, 1) := by decide +kernel
theorem dX12_act0_25 : decode cX12_act0 25 = .ok (.aload_n 0, 1) := by decide +kernel
theorem dX12_act0_26 : decode cX12_act0 26 = .ok (.aload_n 0, 1) := by decide +kernel
theorem dX12_act0_27 : decode cX12_act0 27 = .ok (.getfield 217, 3) := by decide +kernel
theorem dX12_act0_30 : decode cX12_act0 30 = .ok (.iconst 1, 1) := by decide +kernel
theorem dX12_act0_31 : decode cX12_act0 31 = .ok (.iadd, 1) := by decide +kernel
theorem dX12_act0_32 : decode cX12_act0 32 = .ok (.invokevirtual 236, 3) := by decide +kernel
theorem dX12_act0_35 : decode cX12_act0 35 = .ok (.putfield 217, 3) := by decide +kernel
theorem dX12_act0_38 : decode cX12_act0 38 = .ok (.aload_n 0, 1) := by decide +kernel
theorem dX12_act0_39 : decode cX12_act0 39 = .ok (.aload_n 0, 1) := by decide +kernel
theorem dX12_act0_40 : decode cX12_act0 40 = .ok (.iload_n 2, 1) := by decide +kernel
theorem dX12_act0_41 : decode cX12_act0 41 = .ok (.bipush 8, 2) := by decide +kernel
theorem dX12_act0_43 : decode cX12_act0 43 = .ok (.idiv, 1) := by decide +kernel
theorem dX12_act0_44 : decode cX12_act0 44 = .ok (.iload_n 2, 1) := by decide +kernel
theorem dX12_act0_45 : decode cX12_act0 45 = .ok (.bipush 8, 2) := by decide +kernel
theorem dX12_act0_47 : decode cX12_act0 47 = .ok (.irem, 1) := by decide +kernel
theorem dX12_act0_48 : decode cX12_act0 48 = .ok (.invokevirtual 239, 3) := by decide +kernel
theorem dX12_act0_51 : decode cX12_act0 51 = .ok (.putfield 220, 3) := by decide +kernel
theorem dX12_act0_54 : decode cX12_act0 54 = .ok (.aload_n 0, 1) := by decide +kernel
theorem dX12_act0_55 : decode cX12_act0 55 = .ok (.dup, 1) := by decide +kernel
theorem dX12_act0_56 : decode cX12_act0 56 = .ok (.getfield 226, 3) := by decide +kernel
theorem dX12_act0_59 : decode cX12_act0 59 = .ok (.iconst 1, 1) := by decide +kernel
theorem dX12_act0_60 : decode cX12_act0 60 = .ok (.iadd, 1) := by decide +kernel
theorem dX12_act0_61 : decode cX12_act0 61 = .ok (.putfield 226, 3) := by decide +kernel
theorem dX12_act0_64 : decode cX12_act0 64 = .ok (.goto 43, 3) := by decide +kernel
theorem dX12_act0_67 : decode cX12_act0 67 = .ok (.iload_n 1, 1) := by decide +kernel
theorem dX12_act0_68 : decode cX12_act0 68 = .ok (.iconst 2, 1) := by decide +kernel
theorem dX12_act0_69 : decode cX12_act0 69 = .ok (.if_icmp .ne 33, 3) := by decide +kernel
theorem dX12_act0_72 : decode cX12_act0 72 = .ok (.aload_n 0, 1) := by decide +kernel
theorem dX12_act0_73 : decode cX12_act0 73 = .ok (.dup, 1) := by decide +kernel
theorem dX12_act0_74 : decode cX12_act0 74 = .ok (.getfield 220, 3) := by decide +kernel
theorem dX12_act0_77 : decode cX12_act0 77 = .ok (.aload_n 0, 1) := by decide +kernel
theorem dX12_act0_78 : decode cX12_act0 78 = .ok (.iload_n 2, 1) := by decide +kernel
theorem dX12_act0_79 : decode cX12_act0 79 = .ok (.iconst 0, 1) := by decide +kernel
theorem dX12_act0_80 : decode cX12_act0 80 = .ok (.invokevirtual 208, 3) := by decide +kernel
theorem dX12_act0_83 : decode cX12_act0 83 = .ok (.isub, 1) := by decide +kernel
theorem dX12_act0_84 : decode cX12_act0 84 = .ok (.putfield 220, 3) := by decide +kernel
theorem dX12_act0_87 : decode cX12_act0 87 = .ok (.aload_n 0, 1) := by decide +kernel
theorem dX12_act0_88 : decode cX12_act0 88 = .ok (.dup, 1) := by decide +kernel
theorem dX12_act0_89 : decode cX12_act0 89 = .ok (.getfield 223, 3) := by decide +kernel
theorem dX12_act0_92 : decode cX12_act0 92 = .ok (.iconst 1, 1) := by decide +kernel
theorem dX12_act0_93 : decode cX12_act0 93 = .ok (.iload_n 2, 1) := by decide +kernel
theorem dX12_act0_94 : decode cX12_act0 94 = .ok (.ishl, 1) := by decide +kernel
theorem dX12_act0_95 : decode cX12_act0 95 = .ok (.ior, 1) := by decide +kernel
theorem dX12_act0_96 : decode cX12_act0 96 = .ok (.putfield 223, 3) := by decide +kernel
theorem dX12_act0_99 : decode cX12_act0 99 = .ok (.goto 8, 3) := by decide +kernel
theorem dX12_act0_102 : decode cX12_act0 102 = .ok (.aload_n 0, 1) := by decide +kernel
theorem dX12_act0_103 : decode cX12_act0 103 = .ok (.iconst (-1), 1) := by decide +kernel
theorem dX12_act0_104 : decode cX12_act0 104 = .ok (.putfield 220, 3) := by decide +kernel
theorem dX12_act0_107 : decode cX12_act0 107 = .ok (.return_, 1) := by decide +kernel
theorem dX12_advance_0 : decode cX12_advance 0 = .ok (.aload_n 0, 1) := by decide +kernel
theorem dX12_advance_1 : decode cX12_advance 1 = .ok (.aload_n 0, 1) := by decide +kernel
theorem dX12_advance_2 : decode cX12_advance 2 = .ok (.getfield 84, 3) := by decide +kernel
theorem dX12_advance_5 : decode cX12_advance 5 = .ok (.invokevirtual 87, 3) := by decide +kernel
theorem dX12_advance_8 : decode cX12_advance 8 = .ok (.bipush 32, 2) := by decide +kernel
theorem dX12_advance_10 : decode cX12_advance 10 = .ok (.if_icmp .eq 16, 3) := by decide +kernel
theorem dX12_advance_13 : decode cX12_advance 13 = .ok (.aload_n 0, 1) := by decide +kernel
theorem dX12_advance_14 : decode cX12_advance 14 = .ok (.aload_n 0, 1) := by decide +kernel
theorem dX12_advance_15 : decode cX12_advance 15 = .ok (.getfield 84, 3) := by decide +kernel
theorem dX12_advance_18 : decode cX12_advance 18 = .ok (.invokevirtual 87, 3) := by decide +kernel
theorem dX12_advance_21 : decode cX12_advance 21 = .ok (.bipush 10, 2) := by decide +kernel
theorem dX12_advance_23 : decode cX12_advance 23 = .ok (.if_icmp .ne 16, 3) := by decide +kernel
theorem dX12_advance_26 : decode cX12_advance 26 = .ok (.aload_n 0, 1) := by decide +kernel
theorem dX12_advance_27 : decode cX12_advance 27 = .ok (.dup, 1) := by decide +kernel
theorem dX12_advance_28 : decode cX12_advance 28 = .ok (.getfield 84, 3) := by decide +kernel
theorem dX12_advance_31 : decode cX12_advance 31 = .ok (.iconst 1, 1) := by decide +kernel
theorem dX12_advance_32 : decode cX12_advance 32 = .ok (.iadd, 1) := by decide +kernel
theorem dX12_advance_33 : decode cX12_advance 33 = .ok (.putfield 84, 3) := by decide +kernel
theorem dX12_advance_36 : decode cX12_advance 36 = .ok (.goto (-36), 3) := by decide +kernel
theorem dX12_advance_39 : decode cX12_advance 39 = .ok (.aload_n 0, 1) := by decide +kernel
theorem dX12_advance_40 : decode cX12_advance 40 = .ok (.aload_n 0, 1) := by decide +kernel
theorem dX12_advance_41 : decode cX12_advance 41 = .ok (.getfield 84, 3) := by decide +kernel
theorem dX12_advance_44 : decode cX12_advance 44 = .ok (.putfield 91, 3) := by decide +kernel
theorem dX12_advance_47 : decode cX12_advance 47 = .ok (.aload_n 0, 1) := by decide +kernel
theorem dX12_advance_48 : decode cX12_advance 48 = .ok (.aload_n 0, 1) := by decide +kernel
theorem dX12_advance_49 : decode cX12_advance 49 = .ok (.getfield 84, 3) := by decide +kernel
theorem dX12_advance_52 : decode cX12_advance 52 = .ok (.invokevirtual 87, 3) := by decide +kernel
theorem dX12_advance_55 : decode cX12_advance 55 = .ok (.istore_n 1, 1) := by decide +kernel
theorem dX12_advance_56 : decode cX12_advance 56 = .ok (.iload_n 1, 1) := by decide +kernel
theorem dX12_advance_57 : decode cX12_advance 57 = .ok (.iconst (-1), 1) := by decide +kernel
theorem dX12_advance_58 : decode cX12_advance 58 = .ok (.if_icmp .ne 11, 3) := by decide +kernel
theorem dX12_advance_61 : decode cX12_advance 61 = .ok (.aload_n 0, 1) := by decide +kernel
theorem dX12_advance_62 : decode cX12_advance 62 = .ok (.iconst 0, 1) := by decide +kernel
theorem dX12_advance_63 : decode cX12_advance 63 = .ok (.putfield 94, 3) := by decide +kernel
theorem dX12_advance_66 : decode cX12_advance 66 = .ok (.goto 173, 3) := by decide +kernel
theorem dX12_advance_69 : decode cX12_advance 69 = .ok (.iload_n 1, 1) := by decide +kernel
theorem dX12_advance_70 : decode cX12_advance 70 = .ok (.i2l, 1) := by decide +kernel
theorem dX12_advance_71 : decode cX12_advance 71 = .ok (.ldc2_w 97, 3) := by decide +kernel
theorem dX12_advance_74 : decode cX12_advance 74 = .ok (.ldc2_w 99, 3) := by decide +kernel
theorem dX12_advance_77 : decode cX12_advance 77 = .ok (.invokestatic 70, 3) := by decide +kernel
theorem dX12_advance_80 : decode cX12_advance 80 = .ok (.ifCond .eq 45, 3) := by decide +kernel
theorem dX12_advance_83 : decode cX12_advance 83 = .ok (.aload_n 0, 1) := by decide +kernel
theorem dX12_advance_84 : decode cX12_advance 84 = .ok (.aload_n 0, 1) := by decide +kernel
theorem dX12_advance_85 : decode cX12_advance 85 = .ok (.getfield 84, 3) := by decide +kernel
theorem dX12_advance_88 : decode cX12_advance 88 = .ok (.invokevirtual 87, 3) := by decide +kernel
theorem dX12_advance_91 : decode cX12_advance 91 = .ok (.i2l, 1) := by decide +kernel
theorem dX12_advance_92 : decode cX12_advance 92 = .ok (.ldc2_w 97, 3) := by decide +kernel
theorem dX12_advance_95 : decode cX12_advance 95 = .ok (.ldc2_w 99, 3) := by decide +kernel
theorem dX12_advance_98 : decode cX12_advance 98 = .ok (.invokestatic 70, 3) := by decide +kernel
theorem dX12_advance_101 : decode cX12_advance 101 = .ok (.ifCond .eq 16, 3) := by decide +kernel
theorem dX12_advance_104 : decode cX12_advance 104 = .ok (.aload_n 0, 1) := by decide +kernel
theorem dX12_advance_105 : decode cX12_advance 105 = .ok (.dup, 1) := by decide +kernel
theorem dX12_advance_106 : decode cX12_advance 106 = .ok (.getfield 84, 3) := by decide +kernel
theorem dX12_advance_109 : decode cX12_advance 109 = .ok (.iconst 1, 1) := by decide +kernel
theorem dX12_advance_110 : decode cX12_advance 110 = .ok (.iadd, 1) := by decide +kernel
theorem dX12_advance_111 : decode cX12_advance 111 = .ok (.putfield 84, 3) := by decide +kernel
theorem dX12_advance_114 : decode cX12_advance 114 = .ok (.goto (-31), 3) := by decide +kernel
theorem dX12_advance_117 : decode cX12_advance 117 = .ok (.aload_n 0, 1) := by decide +kernel
theorem dX12_advance_118 : decode cX12_advance 118 = .ok (.iconst 1, 1) := by decide +kernel
theorem dX12_advance_119 : decode cX12_advance 119 = .ok (.putfield 94, 3) := by decide +kernel
theorem dX12_advance_122 : decode cX12_advance 122 = .ok (.goto 117, 3) := by decide +kernel
theorem dX12_advance_125 : decode cX12_advance 125 = .ok (.iload_n 1, 1) := by decide +kernel
theorem dX12_advance_126 : decode cX12_advance 126 = .ok (.i2l, 1) := by decide +kernel
theorem dX12_advance_127 : decode cX12_advance 127 = .ok (.ldc2_w 101, 3) := by decide +kernel
theorem dX12_advance_130 : decode cX12_advance 130 = .ok (.ldc2_w 103, 3) := by decide +kernel
theorem dX12_advance_133 : decode cX12_advance 133 = .ok (.invokestatic 70, 3) := by decide +kernel
theorem dX12_advance_136 : decode cX12_advance 136 = .ok (.ifCond .eq 78, 3) := by decide +kernel
theorem dX12_advance_139 : decode cX12_advance 139 = .ok (.aload_n 0, 1) := by decide +kernel
theorem dX12_advance_140 : decode cX12_advance 140 = .ok (.iconst 0, 1) := by decide +kernel
theorem dX12_advance_141 : decode cX12_advance 141 = .ok (.putfield 105, 3) := by decide +kernel
theorem dX12_advance_144 : decode cX12_advance 144 = .ok (.aload_n 0, 1) := by decide +kernel
theorem dX12_advance_145 : decode cX12_advance 145 = .ok (.aload_n 0, 1) := by decide +kernel
theorem dX12_advance_146 : decode cX12_advance 146 = .ok (.getfield 84, 3) := by decide +kernel
theorem dX12_advance_149 : decode cX12_advance 149 = .ok (.invokevirtual 87, 3) := by decide +kernel
theorem dX12_advance_152 : decode cX12_advance 152 = .ok (.i2l, 1) := by decide +kernel
theorem dX12_advance_153 : decode cX12_advance 153 = .ok (.ldc2_w 101, 3) := by decide +kernel
theorem dX12_advance_156 : decode cX12_advance 156 = .ok (.ldc2_w 103, 3) := by decide +kernel
theorem dX12_advance_159 : decode cX12_advance 159 = .ok (.invokestatic 70, 3) := by decide +kernel
theorem dX12_advance_162 : decode cX12_advance 162 = .ok (.ifCond .eq 44, 3) := by decide +kernel
theorem dX12_advance_165 : decode cX12_advance 165 = .ok (.aload_n 0, 1) := by decide +kernel
theorem dX12_advance_166 : decode cX12_advance 166 = .ok (.ldc 108, 2) := by decide +kernel
theorem dX12_advance_168 : decode cX12_advance 168 = .ok (.bipush 10, 2) := by decide +kernel
theorem dX12_advance_170 : decode cX12_advance 170 = .ok (.aload_n 0, 1) := by decide +kernel
theorem dX12_advance_171 : decode cX12_advance 171 = .ok (.getfield 105, 3) := by decide +kernel
theorem dX12_advance_174 : decode cX12_advance 174 = .ok (.imul, 1) := by decide +kernel
theorem dX12_advance_175 : decode cX12_advance 175 = .ok (.aload_n 0, 1) := by decide +kernel
theorem dX12_advance_176 : decode cX12_advance 176 = .ok (.aload_n 0, 1) := by decide +kernel
theorem dX12_advance_177 : decode cX12_advance 177 = .ok (.getfield 84, 3) := by decide +kernel
theorem dX12_advance_180 : decode cX12_advance 180 = .ok (.invokevirtual 87, 3) := by decide +kernel
theorem dX12_advance_183 : decode cX12_advance 183 = .ok (.iadd, 1) := by decide +kernel
theorem dX12_advance_184 : decode cX12_advance 184 = .ok (.bipush 48, 2) := by decide +kernel
theorem dX12_advance_186 : decode cX12_advance 186 = .ok (.isub, 1) := by decide +kernel
theorem dX12_advance_187 : decode cX12_advance 187 = .ok (.invokestatic 109, 3) := by decide +kernel
theorem dX12_advance_190 : decode cX12_advance 190 = .ok (.putfield 105, 3) := by decide +kernel
theorem dX12_advance_193 : decode cX12_advance 193 = .ok (.aload_n 0, 1) := by decide +kernel
theorem dX12_advance_194 : decode cX12_advance 194 = .ok (.dup, 1) := by decide +kernel
theorem dX12_advance_195 : decode cX12_advance 195 = .ok (.getfield 84, 3) := by decide +kernel
theorem dX12_advance_198 : decode cX12_advance 198 = .ok (.iconst 1, 1) := by decide +kernel
theorem dX12_advance_199 : decode cX12_advance 199 = .ok (.iadd, 1) := by decide +kernel
theorem dX12_advance_200 : decode cX12_advance 200 = .ok (.putfield 84, 3) := by decide +kernel
theorem dX12_advance_203 : decode cX12_advance 203 = .ok (.goto (-59), 3) := by decide +kernel
theorem dX12_advance_206 : decode cX12_advance 206 = .ok (.aload_n 0, 1) := by decide +kernel
theorem dX12_advance_207 : decode cX12_advance 207 = .ok (.iconst 2, 1) := by decide +kernel
theorem dX12_advance_208 : decode cX12_advance 208 = .ok (.putfield 94, 3) := by decide +kernel
theorem dX12_advance_211 : decode cX12_advance 211 = .ok (.goto 28, 3) := by decide +kernel
theorem dX12_advance_214 : decode cX12_advance 214 = .ok (.aload_n 0, 1) := by decide +kernel
theorem dX12_advance_215 : decode cX12_advance 215 = .ok (.iload_n 1, 1) := by decide +kernel
theorem dX12_advance_216 : decode cX12_advance 216 = .ok (.bipush 59, 2) := by decide +kernel
theorem dX12_advance_218 : decode cX12_advance 218 = .ok (.if_icmp .ne 7, 3) := by decide +kernel
theorem dX12_advance_221 : decode cX12_advance 221 = .ok (.iconst 3, 1) := by decide +kernel
theorem dX12_advance_222 : decode cX12_advance 222 = .ok (.goto 4, 3) := by decide +kernel
theorem dX12_advance_225 : decode cX12_advance 225 = .ok (.iconst 4, 1) := by decide +kernel
theorem dX12_advance_226 : decode cX12_advance 226 = .ok (.putfield 94, 3) := by decide +kernel
theorem dX12_advance_229 : decode cX12_advance 229 = .ok (.aload_n 0, 1) := by decide +kernel
theorem dX12_advance_230 : decode cX12_advance 230 = .ok (.dup, 1) := by decide +kernel
theorem dX12_advance_231 : decode cX12_advance 231 = .ok (.getfield 84, 3) := by decide +kernel
theorem dX12_advance_234 : decode cX12_advance 234 = .ok (.iconst 1, 1) := by decide +kernel
theorem dX12_advance_235 : decode cX12_advance 235 = .ok (.iadd, 1) := by decide +kernel
theorem dX12_advance_236 : decode cX12_advance 236 = .ok (.putfield 84, 3) := by decide +kernel
theorem dX12_advance_239 : decode cX12_advance 239 = .ok (.return_, 1) := by decide +kernel
theorem dX12_allClauses_0 : decode cX12_allClauses 0 = .ok (.iconst 1, 1) := by decide +kernel
theorem dX12_allClauses_1 : decode cX12_allClauses 1 = .ok (.aload_n 0, 1) := by decide +kernel
theorem dX12_allClauses_2 : decode cX12_allClauses 2 = .ok (.getfield 9, 3) := by decide +kernel
theorem dX12_allClauses_5 : decode cX12_allClauses 5 = .ok (.iconst 5, 1) := by decide +kernel
theorem dX12_allClauses_6 : decode cX12_allClauses 6 = .ok (.iaload, 1) := by decide +kernel
theorem dX12_allClauses_7 : decode cX12_allClauses 7 = .ok (.ishl, 1) := by decide +kernel
theorem dX12_allClauses_8 : decode cX12_allClauses 8 = .ok (.iconst 1, 1) := by decide +kernel
theorem dX12_allClauses_9 : decode cX12_allClauses 9 = .ok (.isub, 1) := by decide +kernel
theorem dX12_allClauses_10 : decode cX12_allClauses 10 = .ok (.ireturn, 1) := by decide +kernel
theorem dX12_anew_0 : decode cX12_anew 0 = .ok (.aload_n 0, 1) := by decide +kernel
theorem dX12_anew_1 : decode cX12_anew 1 = .ok (.invokevirtual 74, 3) := by decide +kernel
theorem dX12_anew_4 : decode cX12_anew 4 = .ok (.ifCond .ne 6, 3) := by decide +kernel
theorem dX12_anew_7 : decode cX12_anew 7 = .ok (.bipush (-2), 2) := by decide +kernel
theorem dX12_anew_9 : decode cX12_anew 9 = .ok (.ireturn, 1) := by decide +kernel
theorem dX12_anew_10 : decode cX12_anew 10 = .ok (.aload_n 0, 1) := by decide +kernel
theorem dX12_anew_11 : decode cX12_anew 11 = .ok (.getfield 9, 3) := by decide +kernel
theorem dX12_anew_14 : decode cX12_anew 14 = .ok (.bipush 7, 2) := by decide +kernel
theorem dX12_anew_16 : decode cX12_anew 16 = .ok (.iaload, 1) := by decide +kernel
theorem dX12_anew_17 : decode cX12_anew 17 = .ok (.istore_n 1, 1) := by decide +kernel
theorem dX12_anew_18 : decode cX12_anew 18 = .ok (.aload_n 0, 1) := by decide +kernel
theorem dX12_anew_19 : decode cX12_anew 19 = .ok (.getfield 9, 3) := by decide +kernel
theorem dX12_anew_22 : decode cX12_anew 22 = .ok (.bipush 7, 2) := by decide +kernel
theorem dX12_anew_24 : decode cX12_anew 24 = .ok (.iconst 0, 1) := by decide +kernel
theorem dX12_anew_25 : decode cX12_anew 25 = .ok (.iastore, 1) := by decide +kernel
theorem dX12_anew_26 : decode cX12_anew 26 = .ok (.iload_n 1, 1) := by decide +kernel
theorem dX12_anew_27 : decode cX12_anew 27 = .ok (.ireturn, 1) := by decide +kernel
theorem dX12_areMen_0 : decode cX12_areMen 0 = .ok (.aload_n 0, 1) := by decide +kernel
theorem dX12_areMen_1 : decode cX12_areMen 1 = .ok (.iload_n 1, 1) := by decide +kernel
theorem dX12_areMen_2 : decode cX12_areMen 2 = .ok (.i2l, 1) := by decide +kernel
theorem dX12_areMen_3 : decode cX12_areMen 3 = .ok (.invokevirtual 198, 3) := by decide +kernel
theorem dX12_areMen_6 : decode cX12_areMen 6 = .ok (.ifCond .eq 16, 3) := by decide +kernel
theorem dX12_areMen_9 : decode cX12_areMen 9 = .ok (.aload_n 0, 1) := by decide +kernel
theorem dX12_areMen_10 : decode cX12_areMen 10 = .ok (.iload_n 2, 1) := by decide +kernel
theorem dX12_areMen_11 : decode cX12_areMen 11 = .ok (.i2l, 1) := by decide +kernel
theorem dX12_areMen_12 : decode cX12_areMen 12 = .ok (.invokevirtual 198, 3) := by decide +kernel
theorem dX12_areMen_15 : decode cX12_areMen 15 = .ok (.ifCond .eq 7, 3) := by decide +kernel
theorem dX12_areMen_18 : decode cX12_areMen 18 = .ok (.iconst 1, 1) := by decide +kernel
theorem dX12_areMen_19 : decode cX12_areMen 19 = .ok (.goto 4, 3) := by decide +kernel
theorem dX12_areMen_22 : decode cX12_areMen 22 = .ok (.iconst 0, 1) := by decide +kernel
theorem dX12_areMen_23 : decode cX12_areMen 23 = .ok (.ireturn, 1) := by decide +kernel
theorem dX12_areOut_0 : decode cX12_areOut 0 = .ok (.aload_n 0, 1) := by decide +kernel
theorem dX12_areOut_1 : decode cX12_areOut 1 = .ok (.iconst 0, 1) := by decide +kernel
theorem dX12_areOut_2 : decode cX12_areOut 2 = .ok (.iload_n 1, 1) := by decide +kernel
theorem dX12_areOut_3 : decode cX12_areOut 3 = .ok (.invokevirtual 242, 3) := by decide +kernel
theorem dX12_areOut_6 : decode cX12_areOut 6 = .ok (.ifCond .eq 16, 3) := by decide +kernel
theorem dX12_areOut_9 : decode cX12_areOut 9 = .ok (.aload_n 0, 1) := by decide +kernel
theorem dX12_areOut_10 : decode cX12_areOut 10 = .ok (.iconst 1, 1) := by decide +kernel
theorem dX12_areOut_11 : decode cX12_areOut 11 = .ok (.iload_n 1, 1) := by decide +kernel
theorem dX12_areOut_12 : decode cX12_areOut 12 = .ok (.invokevirtual 242, 3) := by decide +kernel
theorem dX12_areOut_15 : decode cX12_areOut 15 = .ok (.ifCond .eq 7, 3) := by decide +kernel
theorem dX12_areOut_18 : decode cX12_areOut 18 = .ok (.iconst 1, 1) := by decide +kernel
theorem dX12_areOut_19 : decode cX12_areOut 19 = .ok (.goto 4, 3) := by decide +kernel
theorem dX12_areOut_22 : decode cX12_areOut 22 = .ok (.iconst 0, 1) := by decide +kernel
theorem dX12_areOut_23 : decode cX12_areOut 23 = .ok (.ireturn, 1) := by decide +kernel
theorem dX12_asItIs_0 : decode cX12_asItIs 0 = .ok (.aload_n 0, 1) := by decide +kernel
theorem dX12_asItIs_1 : decode cX12_asItIs 1 = .ok (.iconst 0, 1) := by decide +kernel
theorem dX12_asItIs_2 : decode cX12_asItIs 2 = .ok (.putfield 211, 3) := by decide +kernel
theorem dX12_asItIs_5 : decode cX12_asItIs 5 = .ok (.aload_n 0, 1) := by decide +kernel
theorem dX12_asItIs_6 : decode cX12_asItIs 6 = .ok (.iconst 0, 1) := by decide +kernel
theorem dX12_asItIs_7 : decode cX12_asItIs 7 = .ok (.putfield 214, 3) := by decide +kernel
theorem dX12_asItIs_10 : decode cX12_asItIs 10 = .ok (.aload_n 0, 1) := by decide +kernel
theorem dX12_asItIs_11 : decode cX12_asItIs 11 = .ok (.iconst (-1), 1) := by decide +kernel
theorem dX12_asItIs_12 : decode cX12_asItIs 12 = .ok (.putfield 217, 3) := by decide +kernel
theorem dX12_asItIs_15 : decode cX12_asItIs 15 = .ok (.aload_n 0, 1) := by decide +kernel
theorem dX12_asItIs_16 : decode cX12_asItIs 16 = .ok (.iconst (-1), 1) := by decide +kernel
theorem dX12_asItIs_17 : decode cX12_asItIs 17 = .ok (.putfield 220, 3) := by decide +kernel
theorem dX12_asItIs_20 : decode cX12_asItIs 20 = .ok (.aload_n 0, 1) := by decide +kernel
theorem dX12_asItIs_21 : decode cX12_asItIs 21 = .ok (.iconst 0, 1) := by decide +kernel
theorem dX12_asItIs_22 : decode cX12_asItIs 22 = .ok (.putfield 223, 3) := by decide +kernel
theorem dX12_asItIs_25 : decode cX12_asItIs 25 = .ok (.aload_n 0, 1) := by decide +kernel
theorem dX12_asItIs_26 : decode cX12_asItIs 26 = .ok (.iconst 0, 1) := by decide +kernel
theorem dX12_asItIs_27 : decode cX12_asItIs 27 = .ok (.putfield 226, 3) := by decide +kernel
theorem dX12_asItIs_30 : decode cX12_asItIs 30 = .ok (.iconst 0, 1) := by decide +kernel
theorem dX12_asItIs_31 : decode cX12_asItIs 31 = .ok (.istore_n 1, 1) := by decide +kernel
theorem dX12_asItIs_32 : decode cX12_asItIs 32 = .ok (.iload_n 1, 1) := by decide +kernel
theorem dX12_asItIs_33 : decode cX12_asItIs 33 = .ok (.aload_n 0, 1) := by decide +kernel
theorem dX12_asItIs_34 : decode cX12_asItIs 34 = .ok (.getfield 9, 3) := by decide +kernel
theorem dX12_asItIs_37 : decode cX12_asItIs 37 = .ok (.bipush 7, 2) := by decide +kernel
theorem dX12_asItIs_39 : decode cX12_asItIs 39 = .ok (.iaload, 1) := by decide +kernel
theorem dX12_asItIs_40 : decode cX12_asItIs 40 = .ok (.if_icmp .ge 37, 3) := by decide +kernel
theorem dX12_asItIs_43 : decode cX12_asItIs 43 = .ok (.aload_n 0, 1) := by decide +kernel
theorem dX12_asItIs_44 : decode cX12_asItIs 44 = .ok (.aload_n 0, 1) := by decide +kernel
theorem dX12_asItIs_45 : decode cX12_asItIs 45 = .ok (.getfield 9, 3) := by decide +kernel
theorem dX12_asItIs_48 : decode cX12_asItIs 48 = .ok (.bipush 62, 2) := by decide +kernel
theorem dX12_asItIs_50 : decode cX12_asItIs 50 = .ok (.iload_n 1, 1) := by decide +kernel
theorem dX12_asItIs_51 : decode cX12_asItIs 51 = .ok (.iadd, 1) := by decide +kernel
theorem dX12_asItIs_52 : decode cX12_asItIs 52 = .ok (.iaload, 1) := by decide +kernel
theorem dX12_asItIs_53 : decode cX12_asItIs 53 = .ok (.bipush 100, 2) := by decide +kernel
theorem dX12_asItIs_55 : decode cX12_asItIs 55 = .ok (.idiv, 1) := by decide +kernel
theorem dX12_asItIs_56 : decode cX12_asItIs 56 = .ok (.aload_n 0, 1) := by decide +kernel
theorem dX12_asItIs_57 : decode cX12_asItIs 57 = .ok (.getfield 9, 3) := by decide +kernel
theorem dX12_asItIs_60 : decode cX12_asItIs 60 = .ok (.bipush 62, 2) := by decide +kernel
theorem dX12_asItIs_62 : decode cX12_asItIs 62 = .ok (.iload_n 1, 1) := by decide +kernel
theorem dX12_asItIs_63 : decode cX12_asItIs 63 = .ok (.iadd, 1) := by decide +kernel
theorem dX12_asItIs_64 : decode cX12_asItIs 64 = .ok (.iaload, 1) := by decide +kernel
theorem dX12_asItIs_65 : decode cX12_asItIs 65 = .ok (.bipush 100, 2) := by decide +kernel
theorem dX12_asItIs_67 : decode cX12_asItIs 67 = .ok (.irem, 1) := by decide +kernel
theorem dX12_asItIs_68 : decode cX12_asItIs 68 = .ok (.invokevirtual 229, 3) := by decide +kernel
theorem dX12_asItIs_71 : decode cX12_asItIs 71 = .ok (.iinc 1 1, 3) := by decide +kernel
theorem dX12_asItIs_74 : decode cX12_asItIs 74 = .ok (.goto (-42), 3) := by decide +kernel
theorem dX12_asItIs_77 : decode cX12_asItIs 77 = .ok (.return_, 1) := by decide +kernel
theorem dX12_ask_0 : decode cX12_ask 0 = .ok (.aload_n 0, 1) := by decide +kernel
theorem dX12_ask_1 : decode cX12_ask 1 = .ok (.iload_n 1, 1) := by decide +kernel
theorem dX12_ask_2 : decode cX12_ask 2 = .ok (.iconst 1, 1) := by decide +kernel
theorem dX12_ask_3 : decode cX12_ask 3 = .ok (.invokevirtual 396, 3) := by decide +kernel
theorem dX12_ask_6 : decode cX12_ask 6 = .ok (.istore_n 2, 1) := by decide +kernel
theorem dX12_ask_7 : decode cX12_ask 7 = .ok (.iload_n 2, 1) := by decide +kernel
theorem dX12_ask_8 : decode cX12_ask 8 = .ok (.ifCond .ge 5, 3) := by decide +kernel
theorem dX12_ask_11 : decode cX12_ask 11 = .ok (.iload_n 2, 1) := by decide +kernel
theorem dX12_ask_12 : decode cX12_ask 12 = .ok (.ireturn, 1) := by decide +kernel
theorem dX12_ask_13 : decode cX12_ask 13 = .ok (.iconst (-1), 1) := by decide +kernel
theorem dX12_ask_14 : decode cX12_ask 14 = .ok (.istore_n 3, 1) := by decide +kernel
theorem dX12_ask_15 : decode cX12_ask 15 = .ok (.aload_n 0, 1) := by decide +kernel
theorem dX12_ask_16 : decode cX12_ask 16 = .ok (.getfield 389, 3) := by decide +kernel
theorem dX12_ask_19 : decode cX12_ask 19 = .ok (.istore 4, 2) := by decide +kernel
theorem dX12_ask_21 : decode cX12_ask 21 = .ok (.iconst 0, 1) := by decide +kernel
theorem dX12_ask_22 : decode cX12_ask 22 = .ok (.istore 5, 2) := by decide +kernel
theorem dX12_ask_24 : decode cX12_ask 24 = .ok (.iload 5, 2) := by decide +kernel
theorem dX12_ask_26 : decode cX12_ask 26 = .ok (.aload_n 0, 1) := by decide +kernel
theorem dX12_ask_27 : decode cX12_ask 27 = .ok (.getfield 9, 3) := by decide +kernel
theorem dX12_ask_30 : decode cX12_ask 30 = .ok (.iconst 4, 1) := by decide +kernel
theorem dX12_ask_31 : decode cX12_ask 31 = .ok (.iaload, 1) := by decide +kernel
theorem dX12_ask_32 : decode cX12_ask 32 = .ok (.if_icmp .ge 86, 3) := by decide +kernel
theorem dX12_ask_35 : decode cX12_ask 35 = .ok (.iconst 0, 1) := by decide +kernel
theorem dX12_ask_36 : decode cX12_ask 36 = .ok (.istore 6, 2) := by decide +kernel
theorem dX12_ask_38 : decode cX12_ask 38 = .ok (.iload 6, 2) := by decide +kernel
theorem dX12_ask_40 : decode cX12_ask 40 = .ok (.aload_n 0, 1) := by decide +kernel
theorem dX12_ask_41 : decode cX12_ask 41 = .ok (.getfield 9, 3) := by decide +kernel
theorem dX12_ask_44 : decode cX12_ask 44 = .ok (.iconst 4, 1) := by decide +kernel
theorem dX12_ask_45 : decode cX12_ask 45 = .ok (.iaload, 1) := by decide +kernel
theorem dX12_ask_46 : decode cX12_ask 46 = .ok (.if_icmp .ge 66, 3) := by decide +kernel
theorem dX12_ask_49 : decode cX12_ask 49 = .ok (.aload_n 0, 1) := by decide +kernel
theorem dX12_ask_50 : decode cX12_ask 50 = .ok (.iload 5, 2) := by decide +kernel
theorem dX12_ask_52 : decode cX12_ask 52 = .ok (.iconst 0, 1) := by decide +kernel
theorem dX12_ask_53 : decode cX12_ask 53 = .ok (.invokevirtual 202, 3) := by decide +kernel
theorem dX12_ask_56 : decode cX12_ask 56 = .ok (.ifCond .ne 50, 3) := by decide +kernel
theorem dX12_ask_59 : decode cX12_ask 59 = .ok (.aload_n 0, 1) := by decide +kernel
theorem dX12_ask_60 : decode cX12_ask 60 = .ok (.iload 6, 2) := by decide +kernel
theorem dX12_ask_62 : decode cX12_ask 62 = .ok (.iconst 0, 1) := by decide +kernel
theorem dX12_ask_63 : decode cX12_ask 63 = .ok (.invokevirtual 202, 3) := by decide +kernel
theorem dX12_ask_66 : decode cX12_ask 66 = .ok (.iconst 1, 1) := by decide +kernel
theorem dX12_ask_67 : decode cX12_ask 67 = .ok (.if_icmp .eq 6, 3) := by decide +kernel
theorem dX12_ask_70 : decode cX12_ask 70 = .ok (.goto 36, 3) := by decide +kernel
theorem dX12_ask_73 : decode cX12_ask 73 = .ok (.aload_n 0, 1) := by decide +kernel
theorem dX12_ask_74 : decode cX12_ask 74 = .ok (.iload 5, 2) := by decide +kernel
theorem dX12_ask_76 : decode cX12_ask 76 = .ok (.iload 6, 2) := by decide +kernel
theorem dX12_ask_78 : decode cX12_ask 78 = .ok (.invokevirtual 400, 3) := by decide +kernel
theorem dX12_ask_81 : decode cX12_ask 81 = .ok (.istore 7, 2) := by decide +kernel
theorem dX12_ask_83 : decode cX12_ask 83 = .ok (.iload 7, 2) := by decide +kernel
theorem dX12_ask_85 : decode cX12_ask 85 = .ok (.iload 4, 2) := by decide +kernel
theorem dX12_ask_87 : decode cX12_ask 87 = .ok (.if_icmp .lt 6, 3) := by decide +kernel
theorem dX12_ask_90 : decode cX12_ask 90 = .ok (.goto 16, 3) := by decide +kernel
theorem dX12_ask_93 : decode cX12_ask 93 = .ok (.iload 7, 2) := by decide +kernel
theorem dX12_ask_95 : decode cX12_ask 95 = .ok (.istore 4, 2) := by decide +kernel
theorem dX12_ask_97 : decode cX12_ask 97 = .ok (.bipush 10, 2) := by decide +kernel
theorem dX12_ask_99 : decode cX12_ask 99 = .ok (.iload 5, 2) := by decide +kernel
theorem dX12_ask_101 : decode cX12_ask 101 = .ok (.imul, 1) := by decide +kernel
theorem dX12_ask_102 : decode cX12_ask 102 = .ok (.iload 6, 2) := by decide +kernel
theorem dX12_ask_104 : decode cX12_ask 104 = .ok (.iadd, 1) := by decide +kernel
theorem dX12_ask_105 : decode cX12_ask 105 = .ok (.istore_n 3, 1) := by decide +kernel

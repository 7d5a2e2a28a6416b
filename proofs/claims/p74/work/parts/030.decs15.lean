theorem dX12_pushes_4 : decode cX12_pushes 4 = .ok (.ifCond .eq 15, 3) := by decide +kernel
theorem dX12_pushes_7 : decode cX12_pushes 7 = .ok (.iload_n 1, 1) := by decide +kernel
theorem dX12_pushes_8 : decode cX12_pushes 8 = .ok (.i2l, 1) := by decide +kernel
theorem dX12_pushes_9 : decode cX12_pushes 9 = .ok (.lconst 0, 1) := by decide +kernel
theorem dX12_pushes_10 : decode cX12_pushes 10 = .ok (.ldc2_w 266, 3) := by decide +kernel
theorem dX12_pushes_13 : decode cX12_pushes 13 = .ok (.invokestatic 70, 3) := by decide +kernel
theorem dX12_pushes_16 : decode cX12_pushes 16 = .ok (.ifCond .ne 6, 3) := by decide +kernel
theorem dX12_pushes_19 : decode cX12_pushes 19 = .ok (.bipush (-2), 2) := by decide +kernel
theorem dX12_pushes_21 : decode cX12_pushes 21 = .ok (.ireturn, 1) := by decide +kernel
theorem dX12_pushes_22 : decode cX12_pushes 22 = .ok (.aload_n 0, 1) := by decide +kernel
theorem dX12_pushes_23 : decode cX12_pushes 23 = .ok (.invokevirtual 259, 3) := by decide +kernel
theorem dX12_pushes_26 : decode cX12_pushes 26 = .ok (.iconst 0, 1) := by decide +kernel
theorem dX12_pushes_27 : decode cX12_pushes 27 = .ok (.istore_n 2, 1) := by decide +kernel
theorem dX12_pushes_28 : decode cX12_pushes 28 = .ok (.iload_n 2, 1) := by decide +kernel
theorem dX12_pushes_29 : decode cX12_pushes 29 = .ok (.aload_n 0, 1) := by decide +kernel
theorem dX12_pushes_30 : decode cX12_pushes 30 = .ok (.getfield 9, 3) := by decide +kernel
theorem dX12_pushes_33 : decode cX12_pushes 33 = .ok (.iconst 0, 1) := by decide +kernel
theorem dX12_pushes_34 : decode cX12_pushes 34 = .ok (.iaload, 1) := by decide +kernel
theorem dX12_pushes_35 : decode cX12_pushes 35 = .ok (.if_icmp .ge 25, 3) := by decide +kernel
theorem dX12_pushes_38 : decode cX12_pushes 38 = .ok (.aload_n 0, 1) := by decide +kernel
theorem dX12_pushes_39 : decode cX12_pushes 39 = .ok (.iload_n 1, 1) := by decide +kernel
theorem dX12_pushes_40 : decode cX12_pushes 40 = .ok (.invokevirtual 253, 3) := by decide +kernel
theorem dX12_pushes_43 : decode cX12_pushes 43 = .ok (.ifCond .eq 5, 3) := by decide +kernel
theorem dX12_pushes_46 : decode cX12_pushes 46 = .ok (.iload_n 2, 1) := by decide +kernel
theorem dX12_pushes_47 : decode cX12_pushes 47 = .ok (.ireturn, 1) := by decide +kernel
theorem dX12_pushes_48 : decode cX12_pushes 48 = .ok (.aload_n 0, 1) := by decide +kernel
theorem dX12_pushes_49 : decode cX12_pushes 49 = .ok (.iconst 0, 1) := by decide +kernel
theorem dX12_pushes_50 : decode cX12_pushes 50 = .ok (.iconst 1, 1) := by decide +kernel
theorem dX12_pushes_51 : decode cX12_pushes 51 = .ok (.invokevirtual 233, 3) := by decide +kernel
theorem dX12_pushes_54 : decode cX12_pushes 54 = .ok (.iinc 2 1, 3) := by decide +kernel
theorem dX12_pushes_57 : decode cX12_pushes 57 = .ok (.goto (-29), 3) := by decide +kernel
theorem dX12_pushes_60 : decode cX12_pushes 60 = .ok (.iconst (-1), 1) := by decide +kernel
theorem dX12_pushes_61 : decode cX12_pushes 61 = .ok (.ireturn, 1) := by decide +kernel
theorem dX12_readClause_0 : decode cX12_readClause 0 = .ok (.bipush 33, 2) := by decide +kernel
theorem dX12_readClause_2 : decode cX12_readClause 2 = .ok (.iconst 3, 1) := by decide +kernel
theorem dX12_readClause_3 : decode cX12_readClause 3 = .ok (.aload_n 0, 1) := by decide +kernel
theorem dX12_readClause_4 : decode cX12_readClause 4 = .ok (.getfield 31, 3) := by decide +kernel
theorem dX12_readClause_7 : decode cX12_readClause 7 = .ok (.iconst 5, 1) := by decide +kernel
theorem dX12_readClause_8 : decode cX12_readClause 8 = .ok (.iaload, 1) := by decide +kernel
theorem dX12_readClause_9 : decode cX12_readClause 9 = .ok (.imul, 1) := by decide +kernel
theorem dX12_readClause_10 : decode cX12_readClause 10 = .ok (.iadd, 1) := by decide +kernel
theorem dX12_readClause_11 : decode cX12_readClause 11 = .ok (.istore_n 1, 1) := by decide +kernel
theorem dX12_readClause_12 : decode cX12_readClause 12 = .ok (.aload_n 0, 1) := by decide +kernel
theorem dX12_readClause_13 : decode cX12_readClause 13 = .ok (.getfield 31, 3) := by decide +kernel
theorem dX12_readClause_16 : decode cX12_readClause 16 = .ok (.iload_n 1, 1) := by decide +kernel
theorem dX12_readClause_17 : decode cX12_readClause 17 = .ok (.iconst 0, 1) := by decide +kernel
theorem dX12_readClause_18 : decode cX12_readClause 18 = .ok (.iadd, 1) := by decide +kernel
theorem dX12_readClause_19 : decode cX12_readClause 19 = .ok (.aload_n 0, 1) := by decide +kernel
theorem dX12_readClause_20 : decode cX12_readClause 20 = .ok (.ldc 165, 2) := by decide +kernel
theorem dX12_readClause_22 : decode cX12_readClause 22 = .ok (.iconst 1, 1) := by decide +kernel
theorem dX12_readClause_23 : decode cX12_readClause 23 = .ok (.bipush 30, 2) := by decide +kernel
theorem dX12_readClause_25 : decode cX12_readClause 25 = .ok (.invokevirtual 157, 3) := by decide +kernel
theorem dX12_readClause_28 : decode cX12_readClause 28 = .ok (.iastore, 1) := by decide +kernel
theorem dX12_readClause_29 : decode cX12_readClause 29 = .ok (.aload_n 0, 1) := by decide +kernel
theorem dX12_readClause_30 : decode cX12_readClause 30 = .ok (.getfield 31, 3) := by decide +kernel
theorem dX12_readClause_33 : decode cX12_readClause 33 = .ok (.iload_n 1, 1) := by decide +kernel
theorem dX12_readClause_34 : decode cX12_readClause 34 = .ok (.iconst 1, 1) := by decide +kernel
theorem dX12_readClause_35 : decode cX12_readClause 35 = .ok (.iadd, 1) := by decide +kernel
theorem dX12_readClause_36 : decode cX12_readClause 36 = .ok (.aload_n 0, 1) := by decide +kernel
theorem dX12_readClause_37 : decode cX12_readClause 37 = .ok (.invokevirtual 167, 3) := by decide +kernel
theorem dX12_readClause_40 : decode cX12_readClause 40 = .ok (.iastore, 1) := by decide +kernel
theorem dX12_readClause_41 : decode cX12_readClause 41 = .ok (.aload_n 0, 1) := by decide +kernel
theorem dX12_readClause_42 : decode cX12_readClause 42 = .ok (.getfield 31, 3) := by decide +kernel
theorem dX12_readClause_45 : decode cX12_readClause 45 = .ok (.iload_n 1, 1) := by decide +kernel
theorem dX12_readClause_46 : decode cX12_readClause 46 = .ok (.iconst 2, 1) := by decide +kernel
theorem dX12_readClause_47 : decode cX12_readClause 47 = .ok (.iadd, 1) := by decide +kernel
theorem dX12_readClause_48 : decode cX12_readClause 48 = .ok (.aload_n 0, 1) := by decide +kernel
theorem dX12_readClause_49 : decode cX12_readClause 49 = .ok (.invokevirtual 167, 3) := by decide +kernel
theorem dX12_readClause_52 : decode cX12_readClause 52 = .ok (.iastore, 1) := by decide +kernel
theorem dX12_readClause_53 : decode cX12_readClause 53 = .ok (.aload_n 0, 1) := by decide +kernel
theorem dX12_readClause_54 : decode cX12_readClause 54 = .ok (.getfield 31, 3) := by decide +kernel
theorem dX12_readClause_57 : decode cX12_readClause 57 = .ok (.iconst 5, 1) := by decide +kernel
theorem dX12_readClause_58 : decode cX12_readClause 58 = .ok (.dup2, 1) := by decide +kernel
theorem dX12_readClause_59 : decode cX12_readClause 59 = .ok (.iaload, 1) := by decide +kernel
theorem dX12_readClause_60 : decode cX12_readClause 60 = .ok (.iconst 1, 1) := by decide +kernel
theorem dX12_readClause_61 : decode cX12_readClause 61 = .ok (.iadd, 1) := by decide +kernel
theorem dX12_readClause_62 : decode cX12_readClause 62 = .ok (.iastore, 1) := by decide +kernel
theorem dX12_readClause_63 : decode cX12_readClause 63 = .ok (.return_, 1) := by decide +kernel
theorem dX12_readLine_0 : decode cX12_readLine 0 = .ok (.aload_n 0, 1) := by decide +kernel
theorem dX12_readLine_1 : decode cX12_readLine 1 = .ok (.getfield 31, 3) := by decide +kernel
theorem dX12_readLine_4 : decode cX12_readLine 4 = .ok (.bipush 8, 2) := by decide +kernel
theorem dX12_readLine_6 : decode cX12_readLine 6 = .ok (.iaload, 1) := by decide +kernel
theorem dX12_readLine_7 : decode cX12_readLine 7 = .ok (.ifCond .ne 57, 3) := by decide +kernel
theorem dX12_readLine_10 : decode cX12_readLine 10 = .ok (.aload_n 0, 1) := by decide +kernel
theorem dX12_readLine_11 : decode cX12_readLine 11 = .ok (.ldc 186, 2) := by decide +kernel
theorem dX12_readLine_13 : decode cX12_readLine 13 = .ok (.invokevirtual 145, 3) := by decide +kernel
theorem dX12_readLine_16 : decode cX12_readLine 16 = .ok (.aload_n 0, 1) := by decide +kernel
theorem dX12_readLine_17 : decode cX12_readLine 17 = .ok (.getfield 31, 3) := by decide +kernel
theorem dX12_readLine_20 : decode cX12_readLine 20 = .ok (.iconst 0, 1) := by decide +kernel
theorem dX12_readLine_21 : decode cX12_readLine 21 = .ok (.aload_n 0, 1) := by decide +kernel
theorem dX12_readLine_22 : decode cX12_readLine 22 = .ok (.ldc 188, 2) := by decide +kernel
theorem dX12_readLine_24 : decode cX12_readLine 24 = .ok (.iconst 1, 1) := by decide +kernel
theorem dX12_readLine_25 : decode cX12_readLine 25 = .ok (.bipush 20, 2) := by decide +kernel
theorem dX12_readLine_27 : decode cX12_readLine 27 = .ok (.invokevirtual 157, 3) := by decide +kernel
theorem dX12_readLine_30 : decode cX12_readLine 30 = .ok (.iastore, 1) := by decide +kernel
theorem dX12_readLine_31 : decode cX12_readLine 31 = .ok (.aload_n 0, 1) := by decide +kernel
theorem dX12_readLine_32 : decode cX12_readLine 32 = .ok (.getfield 31, 3) := by decide +kernel
theorem dX12_readLine_35 : decode cX12_readLine 35 = .ok (.iconst 1, 1) := by decide +kernel
theorem dX12_readLine_36 : decode cX12_readLine 36 = .ok (.aload_n 0, 1) := by decide +kernel
theorem dX12_readLine_37 : decode cX12_readLine 37 = .ok (.ldc 188, 2) := by decide +kernel
theorem dX12_readLine_39 : decode cX12_readLine 39 = .ok (.iconst 1, 1) := by decide +kernel
theorem dX12_readLine_40 : decode cX12_readLine 40 = .ok (.bipush 20, 2) := by decide +kernel
theorem dX12_readLine_42 : decode cX12_readLine 42 = .ok (.invokevirtual 157, 3) := by decide +kernel
theorem dX12_readLine_45 : decode cX12_readLine 45 = .ok (.iastore, 1) := by decide +kernel
theorem dX12_readLine_46 : decode cX12_readLine 46 = .ok (.aload_n 0, 1) := by decide +kernel
theorem dX12_readLine_47 : decode cX12_readLine 47 = .ok (.getfield 31, 3) := by decide +kernel
theorem dX12_readLine_50 : decode cX12_readLine 50 = .ok (.iconst 2, 1) := by decide +kernel
theorem dX12_readLine_51 : decode cX12_readLine 51 = .ok (.aload_n 0, 1) := by decide +kernel
theorem dX12_readLine_52 : decode cX12_readLine 52 = .ok (.ldc 190, 2) := by decide +kernel
theorem dX12_readLine_54 : decode cX12_readLine 54 = .ok (.iconst 0, 1) := by decide +kernel
theorem dX12_readLine_55 : decode cX12_readLine 55 = .ok (.bipush 10, 2) := by decide +kernel
theorem dX12_readLine_57 : decode cX12_readLine 57 = .ok (.invokevirtual 157, 3) := by decide +kernel
theorem dX12_readLine_60 : decode cX12_readLine 60 = .ok (.iastore, 1) := by decide +kernel
theorem dX12_readLine_61 : decode cX12_readLine 61 = .ok (.goto 7, 3) := by decide +kernel
theorem dX12_readLine_64 : decode cX12_readLine 64 = .ok (.aload_n 0, 1) := by decide +kernel
theorem dX12_readLine_65 : decode cX12_readLine 65 = .ok (.invokevirtual 192, 3) := by decide +kernel
theorem dX12_readLine_68 : decode cX12_readLine 68 = .ok (.aload_n 0, 1) := by decide +kernel
theorem dX12_readLine_69 : decode cX12_readLine 69 = .ok (.invokevirtual 118, 3) := by decide +kernel
theorem dX12_readLine_72 : decode cX12_readLine 72 = .ok (.ifCond .eq 16, 3) := by decide +kernel
theorem dX12_readLine_75 : decode cX12_readLine 75 = .ok (.aload_n 0, 1) := by decide +kernel
theorem dX12_readLine_76 : decode cX12_readLine 76 = .ok (.getfield 94, 3) := by decide +kernel
theorem dX12_readLine_79 : decode cX12_readLine 79 = .ok (.iconst 3, 1) := by decide +kernel
theorem dX12_readLine_80 : decode cX12_readLine 80 = .ok (.if_icmp .eq 8, 3) := by decide +kernel
theorem dX12_readLine_83 : decode cX12_readLine 83 = .ok (.aload_n 0, 1) := by decide +kernel
theorem dX12_readLine_84 : decode cX12_readLine 84 = .ok (.iconst 1, 1) := by decide +kernel
theorem dX12_readLine_85 : decode cX12_readLine 85 = .ok (.invokevirtual 141, 3) := by decide +kernel
theorem dX12_readLine_88 : decode cX12_readLine 88 = .ok (.aload_n 0, 1) := by decide +kernel
theorem dX12_readLine_89 : decode cX12_readLine 89 = .ok (.invokevirtual 118, 3) := by decide +kernel
theorem dX12_readLine_92 : decode cX12_readLine 92 = .ok (.ifCond .eq 7, 3) := by decide +kernel
theorem dX12_readLine_95 : decode cX12_readLine 95 = .ok (.aload_n 0, 1) := by decide +kernel
theorem dX12_readLine_96 : decode cX12_readLine 96 = .ok (.invokevirtual 135, 3) := by decide +kernel
theorem dX12_readLine_99 : decode cX12_readLine 99 = .ok (.aload_n 0, 1) := by decide +kernel
theorem dX12_readLine_100 : decode cX12_readLine 100 = .ok (.getfield 31, 3) := by decide +kernel
theorem dX12_readLine_103 : decode cX12_readLine 103 = .ok (.bipush 8, 2) := by decide +kernel
theorem dX12_readLine_105 : decode cX12_readLine 105 = .ok (.dup2, 1) := by decide +kernel
theorem dX12_readLine_106 : decode cX12_readLine 106 = .ok (.iaload, 1) := by decide +kernel
theorem dX12_readLine_107 : decode cX12_readLine 107 = .ok (.iconst 1, 1) := by decide +kernel
theorem dX12_readLine_108 : decode cX12_readLine 108 = .ok (.iadd, 1) := by decide +kernel
theorem dX12_readLine_109 : decode cX12_readLine 109 = .ok (.iastore, 1) := by decide +kernel
theorem dX12_readLine_110 : decode cX12_readLine 110 = .ok (.return_, 1) := by decide +kernel
theorem dX12_readMan_0 : decode cX12_readMan 0 = .ok (.bipush 9, 2) := by decide +kernel
theorem dX12_readMan_2 : decode cX12_readMan 2 = .ok (.iconst 3, 1) := by decide +kernel
theorem dX12_readMan_3 : decode cX12_readMan 3 = .ok (.aload_n 0, 1) := by decide +kernel
theorem dX12_readMan_4 : decode cX12_readMan 4 = .ok (.getfield 31, 3) := by decide +kernel
theorem dX12_readMan_7 : decode cX12_readMan 7 = .ok (.iconst 4, 1) := by decide +kernel
theorem dX12_readMan_8 : decode cX12_readMan 8 = .ok (.iaload, 1) := by decide +kernel
theorem dX12_readMan_9 : decode cX12_readMan 9 = .ok (.imul, 1) := by decide +kernel
theorem dX12_readMan_10 : decode cX12_readMan 10 = .ok (.iadd, 1) := by decide +kernel
theorem dX12_readMan_11 : decode cX12_readMan 11 = .ok (.istore_n 1, 1) := by decide +kernel
theorem dX12_readMan_12 : decode cX12_readMan 12 = .ok (.aload_n 0, 1) := by decide +kernel
theorem dX12_readMan_13 : decode cX12_readMan 13 = .ok (.getfield 31, 3) := by decide +kernel
theorem dX12_readMan_16 : decode cX12_readMan 16 = .ok (.iload_n 1, 1) := by decide +kernel
theorem dX12_readMan_17 : decode cX12_readMan 17 = .ok (.iconst 0, 1) := by decide +kernel
theorem dX12_readMan_18 : decode cX12_readMan 18 = .ok (.iadd, 1) := by decide +kernel
theorem dX12_readMan_19 : decode cX12_readMan 19 = .ok (.aload_n 0, 1) := by decide +kernel
theorem dX12_readMan_20 : decode cX12_readMan 20 = .ok (.ldc 155, 2) := by decide +kernel
theorem dX12_readMan_22 : decode cX12_readMan 22 = .ok (.iconst 0, 1) := by decide +kernel
theorem dX12_readMan_23 : decode cX12_readMan 23 = .ok (.iconst 1, 1) := by decide +kernel
theorem dX12_readMan_24 : decode cX12_readMan 24 = .ok (.invokevirtual 157, 3) := by decide +kernel
theorem dX12_readMan_27 : decode cX12_readMan 27 = .ok (.iastore, 1) := by decide +kernel
theorem dX12_readMan_28 : decode cX12_readMan 28 = .ok (.aload_n 0, 1) := by decide +kernel
theorem dX12_readMan_29 : decode cX12_readMan 29 = .ok (.getfield 31, 3) := by decide +kernel
theorem dX12_readMan_32 : decode cX12_readMan 32 = .ok (.iload_n 1, 1) := by decide +kernel
theorem dX12_readMan_33 : decode cX12_readMan 33 = .ok (.iconst 1, 1) := by decide +kernel
theorem dX12_readMan_34 : decode cX12_readMan 34 = .ok (.iadd, 1) := by decide +kernel
theorem dX12_readMan_35 : decode cX12_readMan 35 = .ok (.aload_n 0, 1) := by decide +kernel
theorem dX12_readMan_36 : decode cX12_readMan 36 = .ok (.ldc 161, 2) := by decide +kernel
theorem dX12_readMan_38 : decode cX12_readMan 38 = .ok (.iconst 1, 1) := by decide +kernel
theorem dX12_readMan_39 : decode cX12_readMan 39 = .ok (.bipush 30, 2) := by decide +kernel
theorem dX12_readMan_41 : decode cX12_readMan 41 = .ok (.invokevirtual 157, 3) := by decide +kernel
theorem dX12_readMan_44 : decode cX12_readMan 44 = .ok (.iastore, 1) := by decide +kernel
theorem dX12_readMan_45 : decode cX12_readMan 45 = .ok (.aload_n 0, 1) := by decide +kernel
theorem dX12_readMan_46 : decode cX12_readMan 46 = .ok (.getfield 31, 3) := by decide +kernel
theorem dX12_readMan_49 : decode cX12_readMan 49 = .ok (.iload_n 1, 1) := by decide +kernel
theorem dX12_readMan_50 : decode cX12_readMan 50 = .ok (.iconst 2, 1) := by decide +kernel
theorem dX12_readMan_51 : decode cX12_readMan 51 = .ok (.iadd, 1) := by decide +kernel
theorem dX12_readMan_52 : decode cX12_readMan 52 = .ok (.aload_n 0, 1) := by decide +kernel
theorem dX12_readMan_53 : decode cX12_readMan 53 = .ok (.ldc 163, 2) := by decide +kernel
theorem dX12_readMan_55 : decode cX12_readMan 55 = .ok (.iconst 0, 1) := by decide +kernel
theorem dX12_readMan_56 : decode cX12_readMan 56 = .ok (.bipush 9, 2) := by decide +kernel
theorem dX12_readMan_58 : decode cX12_readMan 58 = .ok (.invokevirtual 157, 3) := by decide +kernel
theorem dX12_readMan_61 : decode cX12_readMan 61 = .ok (.iastore, 1) := by decide +kernel
theorem dX12_readMan_62 : decode cX12_readMan 62 = .ok (.aload_n 0, 1) := by decide +kernel
theorem dX12_readMan_63 : decode cX12_readMan 63 = .ok (.getfield 31, 3) := by decide +kernel
theorem dX12_readMan_66 : decode cX12_readMan 66 = .ok (.iconst 4, 1) := by decide +kernel
theorem dX12_readMan_67 : decode cX12_readMan 67 = .ok (.dup2, 1) := by decide +kernel
theorem dX12_readMan_68 : decode cX12_readMan 68 = .ok (.iaload, 1) := by decide +kernel
theorem dX12_readMan_69 : decode cX12_readMan 69 = .ok (.iconst 1, 1) := by decide +kernel
theorem dX12_readMan_70 : decode cX12_readMan 70 = .ok (.iadd, 1) := by decide +kernel
theorem dX12_readMan_71 : decode cX12_readMan 71 = .ok (.iastore, 1) := by decide +kernel
theorem dX12_readMan_72 : decode cX12_readMan 72 = .ok (.return_, 1) := by decide +kernel
theorem dX12_readNext_0 : decode cX12_readNext 0 = .ok (.aload_n 0, 1) := by decide +kernel
theorem dX12_readNext_1 : decode cX12_readNext 1 = .ok (.ldc 169, 2) := by decide +kernel
theorem dX12_readNext_3 : decode cX12_readNext 3 = .ok (.invokevirtual 131, 3) := by decide +kernel
theorem dX12_readNext_6 : decode cX12_readNext 6 = .ok (.ifCond .ne 35, 3) := by decide +kernel
theorem dX12_readNext_9 : decode cX12_readNext 9 = .ok (.aload_n 0, 1) := by decide +kernel
theorem dX12_readNext_10 : decode cX12_readNext 10 = .ok (.ldc 171, 2) := by decide +kernel
theorem dX12_readNext_12 : decode cX12_readNext 12 = .ok (.invokevirtual 131, 3) := by decide +kernel
theorem dX12_readNext_15 : decode cX12_readNext 15 = .ok (.ifCond .ne 26, 3) := by decide +kernel
theorem dX12_readNext_18 : decode cX12_readNext 18 = .ok (.aload_n 0, 1) := by decide +kernel
theorem dX12_readNext_19 : decode cX12_readNext 19 = .ok (.ldc 173, 2) := by decide +kernel
theorem dX12_readNext_21 : decode cX12_readNext 21 = .ok (.invokevirtual 131, 3) := by decide +kernel
theorem dX12_readNext_24 : decode cX12_readNext 24 = .ok (.ifCond .ne 17, 3) := by decide +kernel
theorem dX12_readNext_27 : decode cX12_readNext 27 = .ok (.aload_n 0, 1) := by decide +kernel
theorem dX12_readNext_28 : decode cX12_readNext 28 = .ok (.ldc 175, 2) := by decide +kernel
theorem dX12_readNext_30 : decode cX12_readNext 30 = .ok (.invokevirtual 131, 3) := by decide +kernel
theorem dX12_readNext_33 : decode cX12_readNext 33 = .ok (.ifCond .ne 8, 3) := by decide +kernel
theorem dX12_readNext_36 : decode cX12_readNext 36 = .ok (.aload_n 0, 1) := by decide +kernel
theorem dX12_readNext_37 : decode cX12_readNext 37 = .ok (.iconst 1, 1) := by decide +kernel
theorem dX12_readNext_38 : decode cX12_readNext 38 = .ok (.invokevirtual 141, 3) := by decide +kernel
theorem dX12_readNext_41 : decode cX12_readNext 41 = .ok (.aload_n 0, 1) := by decide +kernel
theorem dX12_readNext_42 : decode cX12_readNext 42 = .ok (.ldc 169, 2) := by decide +kernel
theorem dX12_readNext_44 : decode cX12_readNext 44 = .ok (.invokevirtual 131, 3) := by decide +kernel
theorem dX12_readNext_47 : decode cX12_readNext 47 = .ok (.ifCond .eq 14, 3) := by decide +kernel
theorem dX12_readNext_50 : decode cX12_readNext 50 = .ok (.aload_n 0, 1) := by decide +kernel
theorem dX12_readNext_51 : decode cX12_readNext 51 = .ok (.getfield 31, 3) := by decide +kernel
theorem dX12_readNext_54 : decode cX12_readNext 54 = .ok (.iconst 4, 1) := by decide +kernel
theorem dX12_readNext_55 : decode cX12_readNext 55 = .ok (.iaload, 1) := by decide +kernel
theorem dX12_readNext_56 : decode cX12_readNext 56 = .ok (.bipush 8, 2) := by decide +kernel
theorem dX12_readNext_58 : decode cX12_readNext 58 = .ok (.if_icmp .eq 43, 3) := by decide +kernel
theorem dX12_readNext_61 : decode cX12_readNext 61 = .ok (.aload_n 0, 1) := by decide +kernel
theorem dX12_readNext_62 : decode cX12_readNext 62 = .ok (.ldc 171, 2) := by decide +kernel
theorem dX12_readNext_64 : decode cX12_readNext 64 = .ok (.invokevirtual 131, 3) := by decide +kernel
theorem dX12_readNext_67 : decode cX12_readNext 67 = .ok (.ifCond .eq 14, 3) := by decide +kernel
theorem dX12_readNext_70 : decode cX12_readNext 70 = .ok (.aload_n 0, 1) := by decide +kernel
theorem dX12_readNext_71 : decode cX12_readNext 71 = .ok (.getfield 31, 3) := by decide +kernel
theorem dX12_readNext_74 : decode cX12_readNext 74 = .ok (.iconst 5, 1) := by decide +kernel
theorem dX12_readNext_75 : decode cX12_readNext 75 = .ok (.iaload, 1) := by decide +kernel
theorem dX12_readNext_76 : decode cX12_readNext 76 = .ok (.bipush 7, 2) := by decide +kernel
theorem dX12_readNext_78 : decode cX12_readNext 78 = .ok (.if_icmp .eq 23, 3) := by decide +kernel
theorem dX12_readNext_81 : decode cX12_readNext 81 = .ok (.aload_n 0, 1) := by decide +kernel
theorem dX12_readNext_82 : decode cX12_readNext 82 = .ok (.ldc 173, 2) := by decide +kernel
theorem dX12_readNext_84 : decode cX12_readNext 84 = .ok (.invokevirtual 131, 3) := by decide +kernel
theorem dX12_readNext_87 : decode cX12_readNext 87 = .ok (.ifCond .eq 19, 3) := by decide +kernel
theorem dX12_readNext_90 : decode cX12_readNext 90 = .ok (.aload_n 0, 1) := by decide +kernel
theorem dX12_readNext_91 : decode cX12_readNext 91 = .ok (.getfield 31, 3) := by decide +kernel
theorem dX12_readNext_94 : decode cX12_readNext 94 = .ok (.bipush 6, 2) := by decide +kernel
theorem dX12_readNext_96 : decode cX12_readNext 96 = .ok (.iaload, 1) := by decide +kernel
theorem dX12_readNext_97 : decode cX12_readNext 97 = .ok (.iconst 4, 1) := by decide +kernel
theorem dX12_readNext_98 : decode cX12_readNext 98 = .ok (.if_icmp .ne 8, 3) := by decide +kernel
theorem dX12_readNext_101 : decode cX12_readNext 101 = .ok (.aload_n 0, 1) := by decide +kernel
theorem dX12_readNext_102 : decode cX12_readNext 102 = .ok (.iconst 3, 1) := by decide +kernel
theorem dX12_readNext_103 : decode cX12_readNext 103 = .ok (.invokevirtual 141, 3) := by decide +kernel
theorem dX12_readNext_106 : decode cX12_readNext 106 = .ok (.aload_n 0, 1) := by decide +kernel
theorem dX12_readNext_107 : decode cX12_readNext 107 = .ok (.invokevirtual 118, 3) := by decide +kernel
theorem dX12_readNext_110 : decode cX12_readNext 110 = .ok (.ifCond .ne 4, 3) := by decide +kernel
theorem dX12_readNext_113 : decode cX12_readNext 113 = .ok (.return_, 1) := by decide +kernel
theorem dX12_readNext_114 : decode cX12_readNext 114 = .ok (.aload_n 0, 1) := by decide +kernel
theorem dX12_readNext_115 : decode cX12_readNext 115 = .ok (.ldc 169, 2) := by decide +kernel
theorem dX12_readNext_117 : decode cX12_readNext 117 = .ok (.invokevirtual 138, 3) := by decide +kernel
theorem dX12_readNext_120 : decode cX12_readNext 120 = .ok (.ifCond .eq 10, 3) := by decide +kernel
theorem dX12_readNext_123 : decode cX12_readNext 123 = .ok (.aload_n 0, 1) := by decide +kernel
theorem dX12_readNext_124 : decode cX12_readNext 124 = .ok (.invokevirtual 177, 3) := by decide +kernel
theorem dX12_readNext_127 : decode cX12_readNext 127 = .ok (.goto 111, 3) := by decide +kernel
theorem dX12_readNext_130 : decode cX12_readNext 130 = .ok (.aload_n 0, 1) := by decide +kernel
theorem dX12_readNext_131 : decode cX12_readNext 131 = .ok (.ldc 171, 2) := by decide +kernel
theorem dX12_readNext_133 : decode cX12_readNext 133 = .ok (.invokevirtual 138, 3) := by decide +kernel
theorem dX12_readNext_136 : decode cX12_readNext 136 = .ok (.ifCond .eq 10, 3) := by decide +kernel
theorem dX12_readNext_139 : decode cX12_readNext 139 = .ok (.aload_n 0, 1) := by decide +kernel
theorem dX12_readNext_140 : decode cX12_readNext 140 = .ok (.invokevirtual 180, 3) := by decide +kernel
theorem dX12_readNext_143 : decode cX12_readNext 143 = .ok (.goto 95, 3) := by decide +kernel
theorem dX12_readNext_146 : decode cX12_readNext 146 = .ok (.aload_n 0, 1) := by decide +kernel
theorem dX12_readNext_147 : decode cX12_readNext 147 = .ok (.ldc 173, 2) := by decide +kernel
theorem dX12_readNext_149 : decode cX12_readNext 149 = .ok (.invokevirtual 138, 3) := by decide +kernel
theorem dX12_readNext_152 : decode cX12_readNext 152 = .ok (.ifCond .eq 69, 3) := by decide +kernel
theorem dX12_readNext_155 : decode cX12_readNext 155 = .ok (.bipush 54, 2) := by decide +kernel
theorem dX12_readNext_157 : decode cX12_readNext 157 = .ok (.iconst 2, 1) := by decide +kernel
theorem dX12_readNext_158 : decode cX12_readNext 158 = .ok (.aload_n 0, 1) := by decide +kernel
theorem dX12_readNext_159 : decode cX12_readNext 159 = .ok (.getfield 31, 3) := by decide +kernel
theorem dX12_readNext_162 : decode cX12_readNext 162 = .ok (.bipush 6, 2) := by decide +kernel
theorem dX12_readNext_164 : decode cX12_readNext 164 = .ok (.iaload, 1) := by decide +kernel
theorem dX12_readNext_165 : decode cX12_readNext 165 = .ok (.imul, 1) := by decide +kernel
theorem dX12_readNext_166 : decode cX12_readNext 166 = .ok (.iadd, 1) := by decide +kernel
theorem dX12_readNext_167 : decode cX12_readNext 167 = .ok (.istore_n 1, 1) := by decide +kernel
theorem dX12_readNext_168 : decode cX12_readNext 168 = .ok (.aload_n 0, 1) := by decide +kernel
theorem dX12_readNext_169 : decode cX12_readNext 169 = .ok (.getfield 31, 3) := by decide +kernel
theorem dX12_readNext_172 : decode cX12_readNext 172 = .ok (.iload_n 1, 1) := by decide +kernel
theorem dX12_readNext_173 : decode cX12_readNext 173 = .ok (.aload_n 0, 1) := by decide +kernel
theorem dX12_readNext_174 : decode cX12_readNext 174 = .ok (.ldc 183, 2) := by decide +kernel
theorem dX12_readNext_176 : decode cX12_readNext 176 = .ok (.iconst 0, 1) := by decide +kernel
theorem dX12_readNext_177 : decode cX12_readNext 177 = .ok (.sipush 999, 3) := by decide +kernel
theorem dX12_readNext_180 : decode cX12_readNext 180 = .ok (.invokevirtual 157, 3) := by decide +kernel
theorem dX12_readNext_183 : decode cX12_readNext 183 = .ok (.iastore, 1) := by decide +kernel
theorem dX12_readNext_184 : decode cX12_readNext 184 = .ok (.aload_n 0, 1) := by decide +kernel
theorem dX12_readNext_185 : decode cX12_readNext 185 = .ok (.getfield 31, 3) := by decide +kernel
theorem dX12_readNext_188 : decode cX12_readNext 188 = .ok (.iload_n 1, 1) := by decide +kernel
theorem dX12_readNext_189 : decode cX12_readNext 189 = .ok (.iconst 1, 1) := by decide +kernel
theorem dX12_readNext_190 : decode cX12_readNext 190 = .ok (.iadd, 1) := by decide +kernel
theorem dX12_readNext_191 : decode cX12_readNext 191 = .ok (.aload_n 0, 1) := by decide +kernel
theorem dX12_readNext_192 : decode cX12_readNext 192 = .ok (.ldc 184, 2) := by decide +kernel
theorem dX12_readNext_194 : decode cX12_readNext 194 = .ok (.aload_n 0, 1) := by decide +kernel
theorem dX12_readNext_195 : decode cX12_readNext 195 = .ok (.getfield 31, 3) := by decide +kernel
theorem dX12_readNext_198 : decode cX12_readNext 198 = .ok (.iload_n 1, 1) := by decide +kernel
theorem dX12_readNext_199 : decode cX12_readNext 199 = .ok (.iaload, 1) := by decide +kernel
theorem dX12_readNext_200 : decode cX12_readNext 200 = .ok (.sipush 999, 3) := by decide +kernel
theorem dX12_readNext_203 : decode cX12_readNext 203 = .ok (.invokevirtual 157, 3) := by decide +kernel
theorem dX12_readNext_206 : decode cX12_readNext 206 = .ok (.iastore, 1) := by decide +kernel
theorem dX12_readNext_207 : decode cX12_readNext 207 = .ok (.aload_n 0, 1) := by decide +kernel
theorem dX12_readNext_208 : decode cX12_readNext 208 = .ok (.getfield 31, 3) := by decide +kernel
theorem dX12_readNext_211 : decode cX12_readNext 211 = .ok (.bipush 6, 2) := by decide +kernel
theorem dX12_readNext_213 : decode cX12_readNext 213 = .ok (.dup2, 1) := by decide +kernel
theorem dX12_readNext_214 : decode cX12_readNext 214 = .ok (.iaload, 1) := by decide +kernel
theorem dX12_readNext_215 : decode cX12_readNext 215 = .ok (.iconst 1, 1) := by decide +kernel
theorem dX12_readNext_216 : decode cX12_readNext 216 = .ok (.iadd, 1) := by decide +kernel
theorem dX12_readNext_217 : decode cX12_readNext 217 = .ok (.iastore, 1) := by decide +kernel
theorem dX12_readNext_218 : decode cX12_readNext 218 = .ok (.goto 20, 3) := by decide +kernel
theorem dX12_readNext_221 : decode cX12_readNext 221 = .ok (.aload_n 0, 1) := by decide +kernel
theorem dX12_readNext_222 : decode cX12_readNext 222 = .ok (.invokevirtual 135, 3) := by decide +kernel
theorem dX12_readNext_225 : decode cX12_readNext 225 = .ok (.aload_n 0, 1) := by decide +kernel
theorem dX12_readNext_226 : decode cX12_readNext 226 = .ok (.getfield 31, 3) := by decide +kernel
theorem dX12_readNext_229 : decode cX12_readNext 229 = .ok (.iconst 3, 1) := by decide +kernel
theorem dX12_readNext_230 : decode cX12_readNext 230 = .ok (.aload_n 0, 1) := by decide +kernel
theorem dX12_readNext_231 : decode cX12_readNext 231 = .ok (.iconst 0, 1) := by decide +kernel
theorem dX12_readNext_232 : decode cX12_readNext 232 = .ok (.bipush 20, 2) := by decide +kernel
theorem dX12_readNext_234 : decode cX12_readNext 234 = .ok (.invokevirtual 149, 3) := by decide +kernel
theorem dX12_readNext_237 : decode cX12_readNext 237 = .ok (.iastore, 1) := by decide +kernel
theorem dX12_readNext_238 : decode cX12_readNext 238 = .ok (.return_, 1) := by decide +kernel
theorem dX12_resin_0 : decode cX12_resin 0 = .ok (.aload_n 0, 1) := by decide +kernel
theorem dX12_resin_1 : decode cX12_resin 1 = .ok (.iload_n 1, 1) := by decide +kernel
theorem dX12_resin_2 : decode cX12_resin 2 = .ok (.iload_n 2, 1) := by decide +kernel
theorem dX12_resin_3 : decode cX12_resin 3 = .ok (.invokevirtual 290, 3) := by decide +kernel
theorem dX12_resin_6 : decode cX12_resin 6 = .ok (.ifCond .eq 19, 3) := by decide +kernel
theorem dX12_resin_9 : decode cX12_resin 9 = .ok (.iload_n 3, 1) := by decide +kernel
theorem dX12_resin_10 : decode cX12_resin 10 = .ok (.i2l, 1) := by decide +kernel
theorem dX12_resin_11 : decode cX12_resin 11 = .ok (.lconst 0, 1) := by decide +kernel
theorem dX12_resin_12 : decode cX12_resin 12 = .ok (.aload_n 0, 1) := by decide +kernel
theorem dX12_resin_13 : decode cX12_resin 13 = .ok (.getfield 9, 3) := by decide +kernel
theorem dX12_resin_16 : decode cX12_resin 16 = .ok (.iconst 3, 1) := by decide +kernel
theorem dX12_resin_17 : decode cX12_resin 17 = .ok (.iaload, 1) := by decide +kernel
theorem dX12_resin_18 : decode cX12_resin 18 = .ok (.i2l, 1) := by decide +kernel
theorem dX12_resin_19 : decode cX12_resin 19 = .ok (.invokestatic 70, 3) := by decide +kernel
theorem dX12_resin_22 : decode cX12_resin 22 = .ok (.ifCond .ne 6, 3) := by decide +kernel
theorem dX12_resin_25 : decode cX12_resin 25 = .ok (.bipush (-2), 2) := by decide +kernel
theorem dX12_resin_27 : decode cX12_resin 27 = .ok (.ireturn, 1) := by decide +kernel
theorem dX12_resin_28 : decode cX12_resin 28 = .ok (.aload_n 0, 1) := by decide +kernel
theorem dX12_resin_29 : decode cX12_resin 29 = .ok (.iload_n 1, 1) := by decide +kernel
theorem dX12_resin_30 : decode cX12_resin 30 = .ok (.iload_n 2, 1) := by decide +kernel
theorem dX12_resin_31 : decode cX12_resin 31 = .ok (.invokevirtual 293, 3) := by decide +kernel
theorem dX12_resin_34 : decode cX12_resin 34 = .ok (.ifCond .eq 13, 3) := by decide +kernel
theorem dX12_resin_37 : decode cX12_resin 37 = .ok (.aload_n 0, 1) := by decide +kernel
theorem dX12_resin_38 : decode cX12_resin 38 = .ok (.iload_n 1, 1) := by decide +kernel
theorem dX12_resin_39 : decode cX12_resin 39 = .ok (.iload_n 2, 1) := by decide +kernel
theorem dX12_resin_40 : decode cX12_resin 40 = .ok (.iload_n 3, 1) := by decide +kernel
theorem dX12_resin_41 : decode cX12_resin 41 = .ok (.invokevirtual 308, 3) := by decide +kernel
theorem dX12_resin_44 : decode cX12_resin 44 = .ok (.goto 4, 3) := by decide +kernel
theorem dX12_resin_47 : decode cX12_resin 47 = .ok (.iconst (-1), 1) := by decide +kernel
theorem dX12_resin_48 : decode cX12_resin 48 = .ok (.ireturn, 1) := by decide +kernel
theorem dX12_resinOf_0 : decode cX12_resinOf 0 = .ok (.iconst 0, 1) := by decide +kernel
theorem dX12_resinOf_1 : decode cX12_resinOf 1 = .ok (.istore 4, 2) := by decide +kernel
theorem dX12_resinOf_3 : decode cX12_resinOf 3 = .ok (.iconst 0, 1) := by decide +kernel
theorem dX12_resinOf_4 : decode cX12_resinOf 4 = .ok (.istore 5, 2) := by decide +kernel
theorem dX12_resinOf_6 : decode cX12_resinOf 6 = .ok (.iload 5, 2) := by decide +kernel
theorem dX12_resinOf_8 : decode cX12_resinOf 8 = .ok (.iload_n 3, 1) := by decide +kernel
theorem dX12_resinOf_9 : decode cX12_resinOf 9 = .ok (.if_icmp .gt 43, 3) := by decide +kernel
theorem dX12_resinOf_12 : decode cX12_resinOf 12 = .ok (.iload 4, 2) := by decide +kernel
theorem dX12_resinOf_14 : decode cX12_resinOf 14 = .ok (.aload_n 0, 1) := by decide +kernel
theorem dX12_resinOf_15 : decode cX12_resinOf 15 = .ok (.iload_n 1, 1) := by decide +kernel
theorem dX12_resinOf_16 : decode cX12_resinOf 16 = .ok (.iconst 1, 1) := by decide +kernel
theorem dX12_resinOf_17 : decode cX12_resinOf 17 = .ok (.invokevirtual 202, 3) := by decide +kernel
theorem dX12_resinOf_20 : decode cX12_resinOf 20 = .ok (.iconst 2, 1) := by decide +kernel
theorem dX12_resinOf_21 : decode cX12_resinOf 21 = .ok (.iload 5, 2) := by decide +kernel
theorem dX12_resinOf_23 : decode cX12_resinOf 23 = .ok (.imul, 1) := by decide +kernel
theorem dX12_resinOf_24 : decode cX12_resinOf 24 = .ok (.iadd, 1) := by decide +kernel
theorem dX12_resinOf_25 : decode cX12_resinOf 25 = .ok (.aload_n 0, 1) := by decide +kernel
theorem dX12_resinOf_26 : decode cX12_resinOf 26 = .ok (.iload_n 2, 1) := by decide +kernel
theorem dX12_resinOf_27 : decode cX12_resinOf 27 = .ok (.iconst 1, 1) := by decide +kernel
theorem dX12_resinOf_28 : decode cX12_resinOf 28 = .ok (.invokevirtual 202, 3) := by decide +kernel
theorem dX12_resinOf_31 : decode cX12_resinOf 31 = .ok (.iconst 2, 1) := by decide +kernel
theorem dX12_resinOf_32 : decode cX12_resinOf 32 = .ok (.iload_n 3, 1) := by decide +kernel
theorem dX12_resinOf_33 : decode cX12_resinOf 33 = .ok (.iload 5, 2) := by decide +kernel
theorem dX12_resinOf_35 : decode cX12_resinOf 35 = .ok (.isub, 1) := by decide +kernel
theorem dX12_resinOf_36 : decode cX12_resinOf 36 = .ok (.imul, 1) := by decide +kernel
theorem dX12_resinOf_37 : decode cX12_resinOf 37 = .ok (.iadd, 1) := by decide +kernel
theorem dX12_resinOf_38 : decode cX12_resinOf 38 = .ok (.invokestatic 109, 3) := by decide +kernel
theorem dX12_resinOf_41 : decode cX12_resinOf 41 = .ok (.invokestatic 271, 3) := by decide +kernel
theorem dX12_resinOf_44 : decode cX12_resinOf 44 = .ok (.istore 4, 2) := by decide +kernel
theorem dX12_resinOf_46 : decode cX12_resinOf 46 = .ok (.iinc 5 1, 3) := by decide +kernel
theorem dX12_resinOf_49 : decode cX12_resinOf 49 = .ok (.goto (-43), 3) := by decide +kernel
theorem dX12_resinOf_52 : decode cX12_resinOf 52 = .ok (.iload 4, 2) := by decide +kernel
theorem dX12_resinOf_54 : decode cX12_resinOf 54 = .ok (.aload_n 0, 1) := by decide +kernel
theorem dX12_resinOf_55 : decode cX12_resinOf 55 = .ok (.iload_n 1, 1) := by decide +kernel
theorem dX12_resinOf_56 : decode cX12_resinOf 56 = .ok (.iconst 2, 1) := by decide +kernel
theorem dX12_resinOf_57 : decode cX12_resinOf 57 = .ok (.invokevirtual 202, 3) := by decide +kernel
theorem dX12_resinOf_60 : decode cX12_resinOf 60 = .ok (.aload_n 0, 1) := by decide +kernel
theorem dX12_resinOf_61 : decode cX12_resinOf 61 = .ok (.iload_n 2, 1) := by decide +kernel
theorem dX12_resinOf_62 : decode cX12_resinOf 62 = .ok (.iconst 2, 1) := by decide +kernel
theorem dX12_resinOf_63 : decode cX12_resinOf 63 = .ok (.invokevirtual 202, 3) := by decide +kernel
theorem dX12_resinOf_66 : decode cX12_resinOf 66 = .ok (.invokestatic 109, 3) := by decide +kernel
theorem dX12_resinOf_69 : decode cX12_resinOf 69 = .ok (.iadd, 1) := by decide +kernel
theorem dX12_resinOf_70 : decode cX12_resinOf 70 = .ok (.ireturn, 1) := by decide +kernel
theorem dX12_rests_0 : decode cX12_rests 0 = .ok (.aload_n 0, 1) := by decide +kernel
theorem dX12_rests_1 : decode cX12_rests 1 = .ok (.iload_n 1, 1) := by decide +kernel
theorem dX12_rests_2 : decode cX12_rests 2 = .ok (.i2l, 1) := by decide +kernel
theorem dX12_rests_3 : decode cX12_rests 3 = .ok (.invokevirtual 205, 3) := by decide +kernel
theorem dX12_rests_6 : decode cX12_rests 6 = .ok (.ifCond .eq 15, 3) := by decide +kernel
theorem dX12_rests_9 : decode cX12_rests 9 = .ok (.iload_n 2, 1) := by decide +kernel
theorem dX12_rests_10 : decode cX12_rests 10 = .ok (.i2l, 1) := by decide +kernel
theorem dX12_rests_11 : decode cX12_rests 11 = .ok (.lconst 0, 1) := by decide +kernel
theorem dX12_rests_12 : decode cX12_rests 12 = .ok (.ldc2_w 314, 3) := by decide +kernel
theorem dX12_rests_15 : decode cX12_rests 15 = .ok (.invokestatic 70, 3) := by decide +kernel
theorem dX12_rests_18 : decode cX12_rests 18 = .ok (.ifCond .ne 6, 3) := by decide +kernel
theorem dX12_rests_21 : decode cX12_rests 21 = .ok (.bipush (-2), 2) := by decide +kernel
theorem dX12_rests_23 : decode cX12_rests 23 = .ok (.ireturn, 1) := by decide +kernel
theorem dX12_rests_24 : decode cX12_rests 24 = .ok (.iconst 0, 1) := by decide +kernel
theorem dX12_rests_25 : decode cX12_rests 25 = .ok (.istore_n 3, 1) := by decide +kernel
theorem dX12_rests_26 : decode cX12_rests 26 = .ok (.iconst 0, 1) := by decide +kernel
theorem dX12_rests_27 : decode cX12_rests 27 = .ok (.istore 4, 2) := by decide +kernel
theorem dX12_rests_29 : decode cX12_rests 29 = .ok (.iload 4, 2) := by decide +kernel
theorem dX12_rests_31 : decode cX12_rests 31 = .ok (.iconst 4, 1) := by decide +kernel
theorem dX12_rests_32 : decode cX12_rests 32 = .ok (.if_icmp .ge 125, 3) := by decide +kernel
theorem dX12_rests_35 : decode cX12_rests 35 = .ok (.iload 4, 2) := by decide +kernel
theorem dX12_rests_37 : decode cX12_rests 37 = .ok (.iconst 2, 1) := by decide +kernel
theorem dX12_rests_38 : decode cX12_rests 38 = .ok (.irem, 1) := by decide +kernel
theorem dX12_rests_39 : decode cX12_rests 39 = .ok (.iconst 1, 1) := by decide +kernel
theorem dX12_rests_40 : decode cX12_rests 40 = .ok (.if_icmp .ne 7, 3) := by decide +kernel
theorem dX12_rests_43 : decode cX12_rests 43 = .ok (.iconst 1, 1) := by decide +kernel
theorem dX12_rests_44 : decode cX12_rests 44 = .ok (.goto 4, 3) := by decide +kernel
theorem dX12_rests_47 : decode cX12_rests 47 = .ok (.iconst 0, 1) := by decide +kernel
theorem dX12_rests_48 : decode cX12_rests 48 = .ok (.istore 5, 2) := by decide +kernel
theorem dX12_rests_50 : decode cX12_rests 50 = .ok (.iload 4, 2) := by decide +kernel
theorem dX12_rests_52 : decode cX12_rests 52 = .ok (.iconst 2, 1) := by decide +kernel
theorem dX12_rests_53 : decode cX12_rests 53 = .ok (.idiv, 1) := by decide +kernel
theorem dX12_rests_54 : decode cX12_rests 54 = .ok (.iconst 1, 1) := by decide +kernel
theorem dX12_rests_55 : decode cX12_rests 55 = .ok (.if_icmp .ne 7, 3) := by decide +kernel
theorem dX12_rests_58 : decode cX12_rests 58 = .ok (.iconst 1, 1) := by decide +kernel
theorem dX12_rests_59 : decode cX12_rests 59 = .ok (.goto 4, 3) := by decide +kernel
theorem dX12_rests_62 : decode cX12_rests 62 = .ok (.iconst 0, 1) := by decide +kernel
theorem dX12_rests_63 : decode cX12_rests 63 = .ok (.istore 6, 2) := by decide +kernel
theorem dX12_rests_65 : decode cX12_rests 65 = .ok (.aload_n 0, 1) := by decide +kernel
theorem dX12_rests_66 : decode cX12_rests 66 = .ok (.iload_n 1, 1) := by decide +kernel
theorem dX12_rests_67 : decode cX12_rests 67 = .ok (.iconst 0, 1) := by decide +kernel
theorem dX12_rests_68 : decode cX12_rests 68 = .ok (.iload 5, 2) := by decide +kernel
theorem dX12_rests_70 : decode cX12_rests 70 = .ok (.iload 6, 2) := by decide +kernel
theorem dX12_rests_72 : decode cX12_rests 72 = .ok (.iload_n 2, 1) := by decide +kernel
theorem dX12_rests_73 : decode cX12_rests 73 = .ok (.invokevirtual 385, 3) := by decide +kernel
theorem dX12_rests_76 : decode cX12_rests 76 = .ok (.aload_n 0, 1) := by decide +kernel
theorem dX12_rests_77 : decode cX12_rests 77 = .ok (.iload_n 1, 1) := by decide +kernel
theorem dX12_rests_78 : decode cX12_rests 78 = .ok (.iconst 0, 1) := by decide +kernel
theorem dX12_rests_79 : decode cX12_rests 79 = .ok (.iload 5, 2) := by decide +kernel
theorem dX12_rests_81 : decode cX12_rests 81 = .ok (.ifCond .ne 7, 3) := by decide +kernel
theorem dX12_rests_84 : decode cX12_rests 84 = .ok (.iconst 1, 1) := by decide +kernel
theorem dX12_rests_85 : decode cX12_rests 85 = .ok (.goto 4, 3) := by decide +kernel
theorem dX12_rests_88 : decode cX12_rests 88 = .ok (.iconst 0, 1) := by decide +kernel
theorem dX12_rests_89 : decode cX12_rests 89 = .ok (.iload 6, 2) := by decide +kernel
theorem dX12_rests_91 : decode cX12_rests 91 = .ok (.iload_n 2, 1) := by decide +kernel
theorem dX12_rests_92 : decode cX12_rests 92 = .ok (.invokevirtual 385, 3) := by decide +kernel
theorem dX12_rests_95 : decode cX12_rests 95 = .ok (.if_icmp .lt 7, 3) := by decide +kernel
theorem dX12_rests_98 : decode cX12_rests 98 = .ok (.iconst 1, 1) := by decide +kernel
theorem dX12_rests_99 : decode cX12_rests 99 = .ok (.goto 4, 3) := by decide +kernel
theorem dX12_rests_102 : decode cX12_rests 102 = .ok (.iconst 0, 1) := by decide +kernel

theorem dX3_setGrip_1 : decode cX3_setGrip 1 = .ok (.iload_n 1, 1) := by decide +kernel
theorem dX3_setGrip_2 : decode cX3_setGrip 2 = .ok (.invokevirtual 79, 3) := by decide +kernel
theorem dX3_setGrip_5 : decode cX3_setGrip 5 = .ok (.ifCond .eq 10, 3) := by decide +kernel
theorem dX3_setGrip_8 : decode cX3_setGrip 8 = .ok (.aload_n 0, 1) := by decide +kernel
theorem dX3_setGrip_9 : decode cX3_setGrip 9 = .ok (.getfield 15, 3) := by decide +kernel
theorem dX3_setGrip_12 : decode cX3_setGrip 12 = .ok (.iload_n 1, 1) := by decide +kernel
theorem dX3_setGrip_13 : decode cX3_setGrip 13 = .ok (.iload_n 2, 1) := by decide +kernel
theorem dX3_setGrip_14 : decode cX3_setGrip 14 = .ok (.iastore, 1) := by decide +kernel
theorem dX3_setGrip_15 : decode cX3_setGrip 15 = .ok (.return_, 1) := by decide +kernel
theorem dX3_sideOf_0 : decode cX3_sideOf 0 = .ok (.aload_n 0, 1) := by decide +kernel
theorem dX3_sideOf_1 : decode cX3_sideOf 1 = .ok (.iload_n 1, 1) := by decide +kernel
theorem dX3_sideOf_2 : decode cX3_sideOf 2 = .ok (.invokevirtual 79, 3) := by decide +kernel
theorem dX3_sideOf_5 : decode cX3_sideOf 5 = .ok (.ifCond .eq 12, 3) := by decide +kernel
theorem dX3_sideOf_8 : decode cX3_sideOf 8 = .ok (.aload_n 0, 1) := by decide +kernel
theorem dX3_sideOf_9 : decode cX3_sideOf 9 = .ok (.getfield 9, 3) := by decide +kernel
theorem dX3_sideOf_12 : decode cX3_sideOf 12 = .ok (.iload_n 1, 1) := by decide +kernel
theorem dX3_sideOf_13 : decode cX3_sideOf 13 = .ok (.iaload, 1) := by decide +kernel
theorem dX3_sideOf_14 : decode cX3_sideOf 14 = .ok (.goto 4, 3) := by decide +kernel
theorem dX3_sideOf_17 : decode cX3_sideOf 17 = .ok (.iconst (-1), 1) := by decide +kernel
theorem dX3_sideOf_18 : decode cX3_sideOf 18 = .ok (.ireturn, 1) := by decide +kernel
theorem dX3_witsOf_0 : decode cX3_witsOf 0 = .ok (.aload_n 0, 1) := by decide +kernel
theorem dX3_witsOf_1 : decode cX3_witsOf 1 = .ok (.iload_n 1, 1) := by decide +kernel
theorem dX3_witsOf_2 : decode cX3_witsOf 2 = .ok (.invokevirtual 79, 3) := by decide +kernel
theorem dX3_witsOf_5 : decode cX3_witsOf 5 = .ok (.ifCond .eq 12, 3) := by decide +kernel
theorem dX3_witsOf_8 : decode cX3_witsOf 8 = .ok (.aload_n 0, 1) := by decide +kernel
theorem dX3_witsOf_9 : decode cX3_witsOf 9 = .ok (.getfield 18, 3) := by decide +kernel
theorem dX3_witsOf_12 : decode cX3_witsOf 12 = .ok (.iload_n 1, 1) := by decide +kernel
theorem dX3_witsOf_13 : decode cX3_witsOf 13 = .ok (.iaload, 1) := by decide +kernel
theorem dX3_witsOf_14 : decode cX3_witsOf 14 = .ok (.goto 4, 3) := by decide +kernel
theorem dX3_witsOf_17 : decode cX3_witsOf 17 = .ok (.iconst (-1), 1) := by decide +kernel
theorem dX3_witsOf_18 : decode cX3_witsOf 18 = .ok (.ireturn, 1) := by decide +kernel
theorem dX3_worthOf_0 : decode cX3_worthOf 0 = .ok (.iconst 0, 1) := by decide +kernel
theorem dX3_worthOf_1 : decode cX3_worthOf 1 = .ok (.istore_n 3, 1) := by decide +kernel
theorem dX3_worthOf_2 : decode cX3_worthOf 2 = .ok (.iconst 0, 1) := by decide +kernel
theorem dX3_worthOf_3 : decode cX3_worthOf 3 = .ok (.istore 4, 2) := by decide +kernel
theorem dX3_worthOf_5 : decode cX3_worthOf 5 = .ok (.iload 4, 2) := by decide +kernel
theorem dX3_worthOf_7 : decode cX3_worthOf 7 = .ok (.aload_n 0, 1) := by decide +kernel
theorem dX3_worthOf_8 : decode cX3_worthOf 8 = .ok (.getfield 53, 3) := by decide +kernel
theorem dX3_worthOf_11 : decode cX3_worthOf 11 = .ok (.if_icmp .ge 29, 3) := by decide +kernel
theorem dX3_worthOf_14 : decode cX3_worthOf 14 = .ok (.iload_n 1, 1) := by decide +kernel
theorem dX3_worthOf_15 : decode cX3_worthOf 15 = .ok (.iload 4, 2) := by decide +kernel
theorem dX3_worthOf_17 : decode cX3_worthOf 17 = .ok (.ishr, 1) := by decide +kernel
theorem dX3_worthOf_18 : decode cX3_worthOf 18 = .ok (.iconst 1, 1) := by decide +kernel
theorem dX3_worthOf_19 : decode cX3_worthOf 19 = .ok (.iand, 1) := by decide +kernel
theorem dX3_worthOf_20 : decode cX3_worthOf 20 = .ok (.iconst 1, 1) := by decide +kernel
theorem dX3_worthOf_21 : decode cX3_worthOf 21 = .ok (.if_icmp .ne 13, 3) := by decide +kernel
theorem dX3_worthOf_24 : decode cX3_worthOf 24 = .ok (.iload_n 3, 1) := by decide +kernel
theorem dX3_worthOf_25 : decode cX3_worthOf 25 = .ok (.aload_n 0, 1) := by decide +kernel
theorem dX3_worthOf_26 : decode cX3_worthOf 26 = .ok (.iload 4, 2) := by decide +kernel
theorem dX3_worthOf_28 : decode cX3_worthOf 28 = .ok (.iload_n 2, 1) := by decide +kernel
theorem dX3_worthOf_29 : decode cX3_worthOf 29 = .ok (.invokevirtual 102, 3) := by decide +kernel
theorem dX3_worthOf_32 : decode cX3_worthOf 32 = .ok (.iadd, 1) := by decide +kernel
theorem dX3_worthOf_33 : decode cX3_worthOf 33 = .ok (.istore_n 3, 1) := by decide +kernel
theorem dX3_worthOf_34 : decode cX3_worthOf 34 = .ok (.iinc 4 1, 3) := by decide +kernel
theorem dX3_worthOf_37 : decode cX3_worthOf 37 = .ok (.goto (-32), 3) := by decide +kernel
theorem dX3_worthOf_40 : decode cX3_worthOf 40 = .ok (.iload_n 3, 1) := by decide +kernel
theorem dX3_worthOf_41 : decode cX3_worthOf 41 = .ok (.ireturn, 1) := by decide +kernel
theorem dX4_init_0 : decode cX4_init 0 = .ok (.aload_n 0, 1) := by decide +kernel
theorem dX4_init_1 : decode cX4_init 1 = .ok (.invokespecial 1, 3) := by decide +kernel
theorem dX4_init_4 : decode cX4_init 4 = .ok (.aload_n 0, 1) := by decide +kernel
theorem dX4_init_5 : decode cX4_init 5 = .ok (.new 7, 3) := by decide +kernel
theorem dX4_init_8 : decode cX4_init 8 = .ok (.dup, 1) := by decide +kernel
theorem dX4_init_9 : decode cX4_init 9 = .ok (.invokespecial 9, 3) := by decide +kernel
theorem dX4_init_12 : decode cX4_init 12 = .ok (.putfield 10, 3) := by decide +kernel
theorem dX4_init_15 : decode cX4_init 15 = .ok (.aload_n 0, 1) := by decide +kernel
theorem dX4_init_16 : decode cX4_init 16 = .ok (.new 16, 3) := by decide +kernel
theorem dX4_init_19 : decode cX4_init 19 = .ok (.dup, 1) := by decide +kernel
theorem dX4_init_20 : decode cX4_init 20 = .ok (.invokespecial 18, 3) := by decide +kernel
theorem dX4_init_23 : decode cX4_init 23 = .ok (.putfield 19, 3) := by decide +kernel
theorem dX4_init_26 : decode cX4_init 26 = .ok (.return_, 1) := by decide +kernel
theorem dX5_init_0 : decode cX5_init 0 = .ok (.aload_n 0, 1) := by decide +kernel
theorem dX5_init_1 : decode cX5_init 1 = .ok (.invokespecial 3, 3) := by decide +kernel
theorem dX5_init_4 : decode cX5_init 4 = .ok (.aload_n 0, 1) := by decide +kernel
theorem dX5_init_5 : decode cX5_init 5 = .ok (.bipush 8, 2) := by decide +kernel
theorem dX5_init_7 : decode cX5_init 7 = .ok (.newarray .int, 2) := by decide +kernel
theorem dX5_init_9 : decode cX5_init 9 = .ok (.putfield 9, 3) := by decide +kernel
theorem dX5_init_12 : decode cX5_init 12 = .ok (.aload_n 0, 1) := by decide +kernel
theorem dX5_init_13 : decode cX5_init 13 = .ok (.bipush 8, 2) := by decide +kernel
theorem dX5_init_15 : decode cX5_init 15 = .ok (.newarray .int, 2) := by decide +kernel
theorem dX5_init_17 : decode cX5_init 17 = .ok (.putfield 15, 3) := by decide +kernel
theorem dX5_init_20 : decode cX5_init 20 = .ok (.aload_n 0, 1) := by decide +kernel
theorem dX5_init_21 : decode cX5_init 21 = .ok (.aload_n 1, 1) := by decide +kernel
theorem dX5_init_22 : decode cX5_init 22 = .ok (.putfield 18, 3) := by decide +kernel
theorem dX5_init_25 : decode cX5_init 25 = .ok (.return_, 1) := by decide +kernel
theorem dX5_partnerOf_0 : decode cX5_partnerOf 0 = .ok (.iload_n 1, 1) := by decide +kernel
theorem dX5_partnerOf_1 : decode cX5_partnerOf 1 = .ok (.iconst 0, 1) := by decide +kernel
theorem dX5_partnerOf_2 : decode cX5_partnerOf 2 = .ok (.bipush 7, 2) := by decide +kernel
theorem dX5_partnerOf_4 : decode cX5_partnerOf 4 = .ok (.invokestatic 22, 3) := by decide +kernel
theorem dX5_partnerOf_7 : decode cX5_partnerOf 7 = .ok (.ifCond .eq 12, 3) := by decide +kernel
theorem dX5_partnerOf_10 : decode cX5_partnerOf 10 = .ok (.aload_n 0, 1) := by decide +kernel
theorem dX5_partnerOf_11 : decode cX5_partnerOf 11 = .ok (.getfield 9, 3) := by decide +kernel
theorem dX5_partnerOf_14 : decode cX5_partnerOf 14 = .ok (.iload_n 1, 1) := by decide +kernel
theorem dX5_partnerOf_15 : decode cX5_partnerOf 15 = .ok (.iaload, 1) := by decide +kernel
theorem dX5_partnerOf_16 : decode cX5_partnerOf 16 = .ok (.goto 4, 3) := by decide +kernel
theorem dX5_partnerOf_19 : decode cX5_partnerOf 19 = .ok (.iconst (-1), 1) := by decide +kernel
theorem dX5_partnerOf_20 : decode cX5_partnerOf 20 = .ok (.ireturn, 1) := by decide +kernel
theorem dX5_settle_0 : decode cX5_settle 0 = .ok (.aload_n 0, 1) := by decide +kernel
theorem dX5_settle_1 : decode cX5_settle 1 = .ok (.getfield 15, 3) := by decide +kernel
theorem dX5_settle_4 : decode cX5_settle 4 = .ok (.iconst (-1), 1) := by decide +kernel
theorem dX5_settle_5 : decode cX5_settle 5 = .ok (.invokestatic 26, 3) := by decide +kernel
theorem dX5_settle_8 : decode cX5_settle 8 = .ok (.aload_n 0, 1) := by decide +kernel
theorem dX5_settle_9 : decode cX5_settle 9 = .ok (.iconst (-1), 1) := by decide +kernel
theorem dX5_settle_10 : decode cX5_settle 10 = .ok (.putfield 32, 3) := by decide +kernel
theorem dX5_settle_13 : decode cX5_settle 13 = .ok (.aload_n 0, 1) := by decide +kernel
theorem dX5_settle_14 : decode cX5_settle 14 = .ok (.iconst 0, 1) := by decide +kernel
theorem dX5_settle_15 : decode cX5_settle 15 = .ok (.putfield 36, 3) := by decide +kernel
theorem dX5_settle_18 : decode cX5_settle 18 = .ok (.iconst 0, 1) := by decide +kernel
theorem dX5_settle_19 : decode cX5_settle 19 = .ok (.istore_n 1, 1) := by decide +kernel
theorem dX5_settle_20 : decode cX5_settle 20 = .ok (.iconst 0, 1) := by decide +kernel
theorem dX5_settle_21 : decode cX5_settle 21 = .ok (.istore_n 2, 1) := by decide +kernel
theorem dX5_settle_22 : decode cX5_settle 22 = .ok (.iload_n 2, 1) := by decide +kernel
theorem dX5_settle_23 : decode cX5_settle 23 = .ok (.aload_n 0, 1) := by decide +kernel
theorem dX5_settle_24 : decode cX5_settle 24 = .ok (.getfield 18, 3) := by decide +kernel
theorem dX5_settle_27 : decode cX5_settle 27 = .ok (.getfield 39, 3) := by decide +kernel
theorem dX5_settle_30 : decode cX5_settle 30 = .ok (.if_icmp .ge 20, 3) := by decide +kernel
theorem dX5_settle_33 : decode cX5_settle 33 = .ok (.iload_n 1, 1) := by decide +kernel
theorem dX5_settle_34 : decode cX5_settle 34 = .ok (.aload_n 0, 1) := by decide +kernel
theorem dX5_settle_35 : decode cX5_settle 35 = .ok (.getfield 18, 3) := by decide +kernel
theorem dX5_settle_38 : decode cX5_settle 38 = .ok (.iload_n 2, 1) := by decide +kernel
theorem dX5_settle_39 : decode cX5_settle 39 = .ok (.invokevirtual 44, 3) := by decide +kernel
theorem dX5_settle_42 : decode cX5_settle 42 = .ok (.iadd, 1) := by decide +kernel
theorem dX5_settle_43 : decode cX5_settle 43 = .ok (.istore_n 1, 1) := by decide +kernel
theorem dX5_settle_44 : decode cX5_settle 44 = .ok (.iinc 2 1, 3) := by decide +kernel
theorem dX5_settle_47 : decode cX5_settle 47 = .ok (.goto (-25), 3) := by decide +kernel
theorem dX5_settle_50 : decode cX5_settle 50 = .ok (.aload_n 0, 1) := by decide +kernel
theorem dX5_settle_51 : decode cX5_settle 51 = .ok (.iload_n 1, 1) := by decide +kernel
theorem dX5_settle_52 : decode cX5_settle 52 = .ok (.aload_n 0, 1) := by decide +kernel
theorem dX5_settle_53 : decode cX5_settle 53 = .ok (.getfield 18, 3) := by decide +kernel
theorem dX5_settle_56 : decode cX5_settle 56 = .ok (.getfield 39, 3) := by decide +kernel
theorem dX5_settle_59 : decode cX5_settle 59 = .ok (.iload_n 1, 1) := by decide +kernel
theorem dX5_settle_60 : decode cX5_settle 60 = .ok (.isub, 1) := by decide +kernel
theorem dX5_settle_61 : decode cX5_settle 61 = .ok (.invokestatic 48, 3) := by decide +kernel
theorem dX5_settle_64 : decode cX5_settle 64 = .ok (.putfield 54, 3) := by decide +kernel
theorem dX5_settle_67 : decode cX5_settle 67 = .ok (.aload_n 0, 1) := by decide +kernel
theorem dX5_settle_68 : decode cX5_settle 68 = .ok (.iconst 0, 1) := by decide +kernel
theorem dX5_settle_69 : decode cX5_settle 69 = .ok (.iconst 0, 1) := by decide +kernel
theorem dX5_settle_70 : decode cX5_settle 70 = .ok (.iconst 0, 1) := by decide +kernel
theorem dX5_settle_71 : decode cX5_settle 71 = .ok (.sipush 10000, 3) := by decide +kernel
theorem dX5_settle_74 : decode cX5_settle 74 = .ok (.invokevirtual 57, 3) := by decide +kernel
theorem dX5_settle_77 : decode cX5_settle 77 = .ok (.return_, 1) := by decide +kernel
theorem dX5_tryMan_0 : decode cX5_tryMan 0 = .ok (.aload_n 0, 1) := by decide +kernel
theorem dX5_tryMan_1 : decode cX5_tryMan 1 = .ok (.getfield 18, 3) := by decide +kernel
theorem dX5_tryMan_4 : decode cX5_tryMan 4 = .ok (.iload_n 1, 1) := by decide +kernel
theorem dX5_tryMan_5 : decode cX5_tryMan 5 = .ok (.invokevirtual 61, 3) := by decide +kernel
theorem dX5_tryMan_8 : decode cX5_tryMan 8 = .ok (.ifCond .ne 12, 3) := by decide +kernel
theorem dX5_tryMan_11 : decode cX5_tryMan 11 = .ok (.aload_n 0, 1) := by decide +kernel
theorem dX5_tryMan_12 : decode cX5_tryMan 12 = .ok (.iload_n 2, 1) := by decide +kernel
theorem dX5_tryMan_13 : decode cX5_tryMan 13 = .ok (.iload_n 3, 1) := by decide +kernel
theorem dX5_tryMan_14 : decode cX5_tryMan 14 = .ok (.iload 4, 2) := by decide +kernel
theorem dX5_tryMan_16 : decode cX5_tryMan 16 = .ok (.invokevirtual 65, 3) := by decide +kernel
theorem dX5_tryMan_19 : decode cX5_tryMan 19 = .ok (.return_, 1) := by decide +kernel
theorem dX5_tryMan_20 : decode cX5_tryMan 20 = .ok (.aload_n 0, 1) := by decide +kernel
theorem dX5_tryMan_21 : decode cX5_tryMan 21 = .ok (.getfield 18, 3) := by decide +kernel
theorem dX5_tryMan_24 : decode cX5_tryMan 24 = .ok (.iload_n 1, 1) := by decide +kernel
theorem dX5_tryMan_25 : decode cX5_tryMan 25 = .ok (.invokevirtual 44, 3) := by decide +kernel
theorem dX5_tryMan_28 : decode cX5_tryMan 28 = .ok (.ifCond .ne 112, 3) := by decide +kernel
theorem dX5_tryMan_31 : decode cX5_tryMan 31 = .ok (.iconst 0, 1) := by decide +kernel
theorem dX5_tryMan_32 : decode cX5_tryMan 32 = .ok (.istore 5, 2) := by decide +kernel
theorem dX5_tryMan_34 : decode cX5_tryMan 34 = .ok (.iload 5, 2) := by decide +kernel
theorem dX5_tryMan_36 : decode cX5_tryMan 36 = .ok (.aload_n 0, 1) := by decide +kernel
theorem dX5_tryMan_37 : decode cX5_tryMan 37 = .ok (.getfield 18, 3) := by decide +kernel
theorem dX5_tryMan_40 : decode cX5_tryMan 40 = .ok (.getfield 39, 3) := by decide +kernel
theorem dX5_tryMan_43 : decode cX5_tryMan 43 = .ok (.if_icmp .ge 97, 3) := by decide +kernel
theorem dX5_tryMan_46 : decode cX5_tryMan 46 = .ok (.aload_n 0, 1) := by decide +kernel
theorem dX5_tryMan_47 : decode cX5_tryMan 47 = .ok (.getfield 18, 3) := by decide +kernel
theorem dX5_tryMan_50 : decode cX5_tryMan 50 = .ok (.iload 5, 2) := by decide +kernel
theorem dX5_tryMan_52 : decode cX5_tryMan 52 = .ok (.invokevirtual 44, 3) := by decide +kernel
theorem dX5_tryMan_55 : decode cX5_tryMan 55 = .ok (.iconst 1, 1) := by decide +kernel
theorem dX5_tryMan_56 : decode cX5_tryMan 56 = .ok (.if_icmp .ne 78, 3) := by decide +kernel
theorem dX5_tryMan_59 : decode cX5_tryMan 59 = .ok (.aload_n 0, 1) := by decide +kernel
theorem dX5_tryMan_60 : decode cX5_tryMan 60 = .ok (.getfield 15, 3) := by decide +kernel
theorem dX5_tryMan_63 : decode cX5_tryMan 63 = .ok (.iload 5, 2) := by decide +kernel
theorem dX5_tryMan_65 : decode cX5_tryMan 65 = .ok (.iaload, 1) := by decide +kernel
theorem dX5_tryMan_66 : decode cX5_tryMan 66 = .ok (.iconst (-1), 1) := by decide +kernel
theorem dX5_tryMan_67 : decode cX5_tryMan 67 = .ok (.if_icmp .ne 67, 3) := by decide +kernel
theorem dX5_tryMan_70 : decode cX5_tryMan 70 = .ok (.aload_n 0, 1) := by decide +kernel
theorem dX5_tryMan_71 : decode cX5_tryMan 71 = .ok (.getfield 18, 3) := by decide +kernel
theorem dX5_tryMan_74 : decode cX5_tryMan 74 = .ok (.iload_n 1, 1) := by decide +kernel
theorem dX5_tryMan_75 : decode cX5_tryMan 75 = .ok (.iload 5, 2) := by decide +kernel
theorem dX5_tryMan_77 : decode cX5_tryMan 77 = .ok (.invokevirtual 69, 3) := by decide +kernel
theorem dX5_tryMan_80 : decode cX5_tryMan 80 = .ok (.istore 6, 2) := by decide +kernel
theorem dX5_tryMan_82 : decode cX5_tryMan 82 = .ok (.aload_n 0, 1) := by decide +kernel
theorem dX5_tryMan_83 : decode cX5_tryMan 83 = .ok (.getfield 15, 3) := by decide +kernel
theorem dX5_tryMan_86 : decode cX5_tryMan 86 = .ok (.iload_n 1, 1) := by decide +kernel
theorem dX5_tryMan_87 : decode cX5_tryMan 87 = .ok (.iload 5, 2) := by decide +kernel
theorem dX5_tryMan_89 : decode cX5_tryMan 89 = .ok (.iastore, 1) := by decide +kernel
theorem dX5_tryMan_90 : decode cX5_tryMan 90 = .ok (.aload_n 0, 1) := by decide +kernel
theorem dX5_tryMan_91 : decode cX5_tryMan 91 = .ok (.getfield 15, 3) := by decide +kernel
theorem dX5_tryMan_94 : decode cX5_tryMan 94 = .ok (.iload 5, 2) := by decide +kernel
theorem dX5_tryMan_96 : decode cX5_tryMan 96 = .ok (.iload_n 1, 1) := by decide +kernel
theorem dX5_tryMan_97 : decode cX5_tryMan 97 = .ok (.iastore, 1) := by decide +kernel
theorem dX5_tryMan_98 : decode cX5_tryMan 98 = .ok (.aload_n 0, 1) := by decide +kernel
theorem dX5_tryMan_99 : decode cX5_tryMan 99 = .ok (.iload_n 1, 1) := by decide +kernel
theorem dX5_tryMan_100 : decode cX5_tryMan 100 = .ok (.iconst 1, 1) := by decide +kernel
theorem dX5_tryMan_101 : decode cX5_tryMan 101 = .ok (.iadd, 1) := by decide +kernel
theorem dX5_tryMan_102 : decode cX5_tryMan 102 = .ok (.iload_n 2, 1) := by decide +kernel
theorem dX5_tryMan_103 : decode cX5_tryMan 103 = .ok (.iconst 1, 1) := by decide +kernel
theorem dX5_tryMan_104 : decode cX5_tryMan 104 = .ok (.iadd, 1) := by decide +kernel
theorem dX5_tryMan_105 : decode cX5_tryMan 105 = .ok (.iload_n 3, 1) := by decide +kernel
theorem dX5_tryMan_106 : decode cX5_tryMan 106 = .ok (.iload 6, 2) := by decide +kernel
theorem dX5_tryMan_108 : decode cX5_tryMan 108 = .ok (.iadd, 1) := by decide +kernel
theorem dX5_tryMan_109 : decode cX5_tryMan 109 = .ok (.iload 4, 2) := by decide +kernel
theorem dX5_tryMan_111 : decode cX5_tryMan 111 = .ok (.iload 6, 2) := by decide +kernel
theorem dX5_tryMan_113 : decode cX5_tryMan 113 = .ok (.invokestatic 48, 3) := by decide +kernel
theorem dX5_tryMan_116 : decode cX5_tryMan 116 = .ok (.invokevirtual 57, 3) := by decide +kernel
theorem dX5_tryMan_119 : decode cX5_tryMan 119 = .ok (.aload_n 0, 1) := by decide +kernel
theorem dX5_tryMan_120 : decode cX5_tryMan 120 = .ok (.getfield 15, 3) := by decide +kernel
theorem dX5_tryMan_123 : decode cX5_tryMan 123 = .ok (.iload_n 1, 1) := by decide +kernel
theorem dX5_tryMan_124 : decode cX5_tryMan 124 = .ok (.iconst (-1), 1) := by decide +kernel
theorem dX5_tryMan_125 : decode cX5_tryMan 125 = .ok (.iastore, 1) := by decide +kernel
theorem dX5_tryMan_126 : decode cX5_tryMan 126 = .ok (.aload_n 0, 1) := by decide +kernel
theorem dX5_tryMan_127 : decode cX5_tryMan 127 = .ok (.getfield 15, 3) := by decide +kernel
theorem dX5_tryMan_130 : decode cX5_tryMan 130 = .ok (.iload 5, 2) := by decide +kernel
theorem dX5_tryMan_132 : decode cX5_tryMan 132 = .ok (.iconst (-1), 1) := by decide +kernel
theorem dX5_tryMan_133 : decode cX5_tryMan 133 = .ok (.iastore, 1) := by decide +kernel
theorem dX5_tryMan_134 : decode cX5_tryMan 134 = .ok (.iinc 5 1, 3) := by decide +kernel
theorem dX5_tryMan_137 : decode cX5_tryMan 137 = .ok (.goto (-103), 3) := by decide +kernel
theorem dX5_tryMan_140 : decode cX5_tryMan 140 = .ok (.aload_n 0, 1) := by decide +kernel
theorem dX5_tryMan_141 : decode cX5_tryMan 141 = .ok (.iload_n 1, 1) := by decide +kernel
theorem dX5_tryMan_142 : decode cX5_tryMan 142 = .ok (.iconst 1, 1) := by decide +kernel
theorem dX5_tryMan_143 : decode cX5_tryMan 143 = .ok (.iadd, 1) := by decide +kernel
theorem dX5_tryMan_144 : decode cX5_tryMan 144 = .ok (.iload_n 2, 1) := by decide +kernel
theorem dX5_tryMan_145 : decode cX5_tryMan 145 = .ok (.iload_n 3, 1) := by decide +kernel
theorem dX5_tryMan_146 : decode cX5_tryMan 146 = .ok (.iload 4, 2) := by decide +kernel
theorem dX5_tryMan_148 : decode cX5_tryMan 148 = .ok (.invokevirtual 57, 3) := by decide +kernel
theorem dX5_tryMan_151 : decode cX5_tryMan 151 = .ok (.return_, 1) := by decide +kernel
theorem dX5_weigh_0 : decode cX5_weigh 0 = .ok (.iload_n 2, 1) := by decide +kernel
theorem dX5_weigh_1 : decode cX5_weigh 1 = .ok (.aload_n 0, 1) := by decide +kernel
theorem dX5_weigh_2 : decode cX5_weigh 2 = .ok (.getfield 32, 3) := by decide +kernel
theorem dX5_weigh_5 : decode cX5_weigh 5 = .ok (.if_icmp .le 23, 3) := by decide +kernel
theorem dX5_weigh_8 : decode cX5_weigh 8 = .ok (.aload_n 0, 1) := by decide +kernel
theorem dX5_weigh_9 : decode cX5_weigh 9 = .ok (.iload_n 2, 1) := by decide +kernel
theorem dX5_weigh_10 : decode cX5_weigh 10 = .ok (.putfield 32, 3) := by decide +kernel
theorem dX5_weigh_13 : decode cX5_weigh 13 = .ok (.aload_n 0, 1) := by decide +kernel
theorem dX5_weigh_14 : decode cX5_weigh 14 = .ok (.getfield 15, 3) := by decide +kernel
theorem dX5_weigh_17 : decode cX5_weigh 17 = .ok (.iconst 0, 1) := by decide +kernel
theorem dX5_weigh_18 : decode cX5_weigh 18 = .ok (.aload_n 0, 1) := by decide +kernel
theorem dX5_weigh_19 : decode cX5_weigh 19 = .ok (.getfield 9, 3) := by decide +kernel
theorem dX5_weigh_22 : decode cX5_weigh 22 = .ok (.iconst 0, 1) := by decide +kernel
theorem dX5_weigh_23 : decode cX5_weigh 23 = .ok (.bipush 8, 2) := by decide +kernel
theorem dX5_weigh_25 : decode cX5_weigh 25 = .ok (.invokestatic 72, 3) := by decide +kernel
theorem dX5_weigh_28 : decode cX5_weigh 28 = .ok (.iload_n 1, 1) := by decide +kernel
theorem dX5_weigh_29 : decode cX5_weigh 29 = .ok (.ifCond .le 23, 3) := by decide +kernel
theorem dX5_weigh_32 : decode cX5_weigh 32 = .ok (.iload_n 1, 1) := by decide +kernel
theorem dX5_weigh_33 : decode cX5_weigh 33 = .ok (.aload_n 0, 1) := by decide +kernel
theorem dX5_weigh_34 : decode cX5_weigh 34 = .ok (.getfield 54, 3) := by decide +kernel
theorem dX5_weigh_37 : decode cX5_weigh 37 = .ok (.if_icmp .ne 15, 3) := by decide +kernel
theorem dX5_weigh_40 : decode cX5_weigh 40 = .ok (.aload_n 0, 1) := by decide +kernel
theorem dX5_weigh_41 : decode cX5_weigh 41 = .ok (.aload_n 0, 1) := by decide +kernel
theorem dX5_weigh_42 : decode cX5_weigh 42 = .ok (.getfield 36, 3) := by decide +kernel
theorem dX5_weigh_45 : decode cX5_weigh 45 = .ok (.iload_n 3, 1) := by decide +kernel
theorem dX5_weigh_46 : decode cX5_weigh 46 = .ok (.invokestatic 78, 3) := by decide +kernel
theorem dX5_weigh_49 : decode cX5_weigh 49 = .ok (.putfield 36, 3) := by decide +kernel
theorem dX5_weigh_52 : decode cX5_weigh 52 = .ok (.return_, 1) := by decide +kernel
theorem dX6_acceptNumber_0 : decode cX6_acceptNumber 0 = .ok (.aload_n 0, 1) := by decide +kernel
theorem dX6_acceptNumber_1 : decode cX6_acceptNumber 1 = .ok (.getfield 45, 3) := by decide +kernel
theorem dX6_acceptNumber_4 : decode cX6_acceptNumber 4 = .ok (.iconst 2, 1) := by decide +kernel
theorem dX6_acceptNumber_5 : decode cX6_acceptNumber 5 = .ok (.if_icmp .ne 27, 3) := by decide +kernel
theorem dX6_acceptNumber_8 : decode cX6_acceptNumber 8 = .ok (.aload_n 0, 1) := by decide +kernel
theorem dX6_acceptNumber_9 : decode cX6_acceptNumber 9 = .ok (.getfield 39, 3) := by decide +kernel
theorem dX6_acceptNumber_12 : decode cX6_acceptNumber 12 = .ok (.iconst 0, 1) := by decide +kernel
theorem dX6_acceptNumber_13 : decode cX6_acceptNumber 13 = .ok (.iconst 4, 1) := by decide +kernel
theorem dX6_acceptNumber_14 : decode cX6_acceptNumber 14 = .ok (.invokestatic 83, 3) := by decide +kernel
theorem dX6_acceptNumber_17 : decode cX6_acceptNumber 17 = .ok (.ifCond .eq 15, 3) := by decide +kernel
theorem dX6_acceptNumber_20 : decode cX6_acceptNumber 20 = .ok (.aload_n 0, 1) := by decide +kernel
theorem dX6_acceptNumber_21 : decode cX6_acceptNumber 21 = .ok (.getfield 90, 3) := by decide +kernel
theorem dX6_acceptNumber_24 : decode cX6_acceptNumber 24 = .ok (.iconst 0, 1) := by decide +kernel
theorem dX6_acceptNumber_25 : decode cX6_acceptNumber 25 = .ok (.iconst 2, 1) := by decide +kernel
theorem dX6_acceptNumber_26 : decode cX6_acceptNumber 26 = .ok (.invokestatic 83, 3) := by decide +kernel
theorem dX6_acceptNumber_29 : decode cX6_acceptNumber 29 = .ok (.ifCond .ne 9, 3) := by decide +kernel
theorem dX6_acceptNumber_32 : decode cX6_acceptNumber 32 = .ok (.aload_n 0, 1) := by decide +kernel
theorem dX6_acceptNumber_33 : decode cX6_acceptNumber 33 = .ok (.iconst 1, 1) := by decide +kernel
theorem dX6_acceptNumber_34 : decode cX6_acceptNumber 34 = .ok (.invokevirtual 116, 3) := by decide +kernel
theorem dX6_acceptNumber_37 : decode cX6_acceptNumber 37 = .ok (.return_, 1) := by decide +kernel
theorem dX6_acceptNumber_38 : decode cX6_acceptNumber 38 = .ok (.iconst 3, 1) := by decide +kernel
theorem dX6_acceptNumber_39 : decode cX6_acceptNumber 39 = .ok (.aload_n 0, 1) := by decide +kernel
theorem dX6_acceptNumber_40 : decode cX6_acceptNumber 40 = .ok (.getfield 39, 3) := by decide +kernel
theorem dX6_acceptNumber_43 : decode cX6_acceptNumber 43 = .ok (.imul, 1) := by decide +kernel
theorem dX6_acceptNumber_44 : decode cX6_acceptNumber 44 = .ok (.aload_n 0, 1) := by decide +kernel
theorem dX6_acceptNumber_45 : decode cX6_acceptNumber 45 = .ok (.getfield 90, 3) := by decide +kernel
theorem dX6_acceptNumber_48 : decode cX6_acceptNumber 48 = .ok (.iadd, 1) := by decide +kernel
theorem dX6_acceptNumber_49 : decode cX6_acceptNumber 49 = .ok (.istore_n 1, 1) := by decide +kernel
theorem dX6_acceptNumber_50 : decode cX6_acceptNumber 50 = .ok (.aload_n 0, 1) := by decide +kernel
theorem dX6_acceptNumber_51 : decode cX6_acceptNumber 51 = .ok (.getfield 39, 3) := by decide +kernel
theorem dX6_acceptNumber_54 : decode cX6_acceptNumber 54 = .ok (.iconst 3, 1) := by decide +kernel
theorem dX6_acceptNumber_55 : decode cX6_acceptNumber 55 = .ok (.if_icmp .ne 20, 3) := by decide +kernel
theorem dX6_acceptNumber_58 : decode cX6_acceptNumber 58 = .ok (.aload_n 0, 1) := by decide +kernel
theorem dX6_acceptNumber_59 : decode cX6_acceptNumber 59 = .ok (.getfield 90, 3) := by decide +kernel
theorem dX6_acceptNumber_62 : decode cX6_acceptNumber 62 = .ok (.iconst 1, 1) := by decide +kernel
theorem dX6_acceptNumber_63 : decode cX6_acceptNumber 63 = .ok (.if_icmp .ne 12, 3) := by decide +kernel
theorem dX6_acceptNumber_66 : decode cX6_acceptNumber 66 = .ok (.aload_n 0, 1) := by decide +kernel
theorem dX6_acceptNumber_67 : decode cX6_acceptNumber 67 = .ok (.getfield 22, 3) := by decide +kernel
theorem dX6_acceptNumber_70 : decode cX6_acceptNumber 70 = .ok (.iconst 0, 1) := by decide +kernel
theorem dX6_acceptNumber_71 : decode cX6_acceptNumber 71 = .ok (.iaload, 1) := by decide +kernel
theorem dX6_acceptNumber_72 : decode cX6_acceptNumber 72 = .ok (.goto 8, 3) := by decide +kernel
theorem dX6_acceptNumber_75 : decode cX6_acceptNumber 75 = .ok (.getstatic 156, 3) := by decide +kernel
theorem dX6_acceptNumber_78 : decode cX6_acceptNumber 78 = .ok (.iload_n 1, 1) := by decide +kernel
theorem dX6_acceptNumber_79 : decode cX6_acceptNumber 79 = .ok (.iaload, 1) := by decide +kernel
theorem dX6_acceptNumber_80 : decode cX6_acceptNumber 80 = .ok (.istore_n 2, 1) := by decide +kernel
theorem dX6_acceptNumber_81 : decode cX6_acceptNumber 81 = .ok (.aload_n 0, 1) := by decide +kernel
theorem dX6_acceptNumber_82 : decode cX6_acceptNumber 82 = .ok (.getfield 73, 3) := by decide +kernel
theorem dX6_acceptNumber_85 : decode cX6_acceptNumber 85 = .ok (.iload_n 2, 1) := by decide +kernel
theorem dX6_acceptNumber_86 : decode cX6_acceptNumber 86 = .ok (.getstatic 159, 3) := by decide +kernel
theorem dX6_acceptNumber_89 : decode cX6_acceptNumber 89 = .ok (.iload_n 1, 1) := by decide +kernel
theorem dX6_acceptNumber_90 : decode cX6_acceptNumber 90 = .ok (.iaload, 1) := by decide +kernel
theorem dX6_acceptNumber_91 : decode cX6_acceptNumber 91 = .ok (.invokestatic 83, 3) := by decide +kernel
theorem dX6_acceptNumber_94 : decode cX6_acceptNumber 94 = .ok (.ifCond .ne 9, 3) := by decide +kernel
theorem dX6_acceptNumber_97 : decode cX6_acceptNumber 97 = .ok (.aload_n 0, 1) := by decide +kernel
theorem dX6_acceptNumber_98 : decode cX6_acceptNumber 98 = .ok (.iconst 2, 1) := by decide +kernel
theorem dX6_acceptNumber_99 : decode cX6_acceptNumber 99 = .ok (.invokevirtual 116, 3) := by decide +kernel
theorem dX6_acceptNumber_102 : decode cX6_acceptNumber 102 = .ok (.return_, 1) := by decide +kernel
theorem dX6_acceptNumber_103 : decode cX6_acceptNumber 103 = .ok (.aload_n 0, 1) := by decide +kernel
theorem dX6_acceptNumber_104 : decode cX6_acceptNumber 104 = .ok (.getfield 22, 3) := by decide +kernel
theorem dX6_acceptNumber_107 : decode cX6_acceptNumber 107 = .ok (.aload_n 0, 1) := by decide +kernel
theorem dX6_acceptNumber_108 : decode cX6_acceptNumber 108 = .ok (.getfield 90, 3) := by decide +kernel
theorem dX6_acceptNumber_111 : decode cX6_acceptNumber 111 = .ok (.aload_n 0, 1) := by decide +kernel
theorem dX6_acceptNumber_112 : decode cX6_acceptNumber 112 = .ok (.getfield 123, 3) := by decide +kernel
theorem dX6_acceptNumber_115 : decode cX6_acceptNumber 115 = .ok (.ifCond .eq 11, 3) := by decide +kernel
theorem dX6_acceptNumber_118 : decode cX6_acceptNumber 118 = .ok (.aload_n 0, 1) := by decide +kernel
theorem dX6_acceptNumber_119 : decode cX6_acceptNumber 119 = .ok (.getfield 73, 3) := by decide +kernel
theorem dX6_acceptNumber_122 : decode cX6_acceptNumber 122 = .ok (.ineg, 1) := by decide +kernel
theorem dX6_acceptNumber_123 : decode cX6_acceptNumber 123 = .ok (.goto 7, 3) := by decide +kernel
theorem dX6_acceptNumber_126 : decode cX6_acceptNumber 126 = .ok (.aload_n 0, 1) := by decide +kernel
theorem dX6_acceptNumber_127 : decode cX6_acceptNumber 127 = .ok (.getfield 73, 3) := by decide +kernel
theorem dX6_acceptNumber_130 : decode cX6_acceptNumber 130 = .ok (.iastore, 1) := by decide +kernel
theorem dX6_acceptNumber_131 : decode cX6_acceptNumber 131 = .ok (.aload_n 0, 1) := by decide +kernel
theorem dX6_acceptNumber_132 : decode cX6_acceptNumber 132 = .ok (.dup, 1) := by decide +kernel
theorem dX6_acceptNumber_133 : decode cX6_acceptNumber 133 = .ok (.getfield 90, 3) := by decide +kernel
theorem dX6_acceptNumber_136 : decode cX6_acceptNumber 136 = .ok (.iconst 1, 1) := by decide +kernel
theorem dX6_acceptNumber_137 : decode cX6_acceptNumber 137 = .ok (.iadd, 1) := by decide +kernel
theorem dX6_acceptNumber_138 : decode cX6_acceptNumber 138 = .ok (.putfield 90, 3) := by decide +kernel
theorem dX6_acceptNumber_141 : decode cX6_acceptNumber 141 = .ok (.aload_n 0, 1) := by decide +kernel
theorem dX6_acceptNumber_142 : decode cX6_acceptNumber 142 = .ok (.iconst 1, 1) := by decide +kernel
theorem dX6_acceptNumber_143 : decode cX6_acceptNumber 143 = .ok (.putfield 99, 3) := by decide +kernel
theorem dX6_acceptNumber_146 : decode cX6_acceptNumber 146 = .ok (.return_, 1) := by decide +kernel
theorem dX6_acceptToken_0 : decode cX6_acceptToken 0 = .ok (.aload_n 0, 1) := by decide +kernel
theorem dX6_acceptToken_1 : decode cX6_acceptToken 1 = .ok (.getfield 39, 3) := by decide +kernel
theorem dX6_acceptToken_4 : decode cX6_acceptToken 4 = .ok (.iconst 0, 1) := by decide +kernel
theorem dX6_acceptToken_5 : decode cX6_acceptToken 5 = .ok (.iconst 4, 1) := by decide +kernel
theorem dX6_acceptToken_6 : decode cX6_acceptToken 6 = .ok (.invokestatic 83, 3) := by decide +kernel
theorem dX6_acceptToken_9 : decode cX6_acceptToken 9 = .ok (.ifCond .ne 10, 3) := by decide +kernel
theorem dX6_acceptToken_12 : decode cX6_acceptToken 12 = .ok (.aload_n 0, 1) := by decide +kernel
theorem dX6_acceptToken_13 : decode cX6_acceptToken 13 = .ok (.invokevirtual 87, 3) := by decide +kernel
theorem dX6_acceptToken_16 : decode cX6_acceptToken 16 = .ok (.goto 43, 3) := by decide +kernel
theorem dX6_acceptToken_19 : decode cX6_acceptToken 19 = .ok (.aload_n 0, 1) := by decide +kernel
theorem dX6_acceptToken_20 : decode cX6_acceptToken 20 = .ok (.getfield 90, 3) := by decide +kernel
theorem dX6_acceptToken_23 : decode cX6_acceptToken 23 = .ok (.getstatic 93, 3) := by decide +kernel
theorem dX6_acceptToken_26 : decode cX6_acceptToken 26 = .ok (.aload_n 0, 1) := by decide +kernel
theorem dX6_acceptToken_27 : decode cX6_acceptToken 27 = .ok (.getfield 39, 3) := by decide +kernel
theorem dX6_acceptToken_30 : decode cX6_acceptToken 30 = .ok (.iaload, 1) := by decide +kernel
theorem dX6_acceptToken_31 : decode cX6_acceptToken 31 = .ok (.if_icmp .lt 10, 3) := by decide +kernel
theorem dX6_acceptToken_34 : decode cX6_acceptToken 34 = .ok (.aload_n 0, 1) := by decide +kernel
theorem dX6_acceptToken_35 : decode cX6_acceptToken 35 = .ok (.invokevirtual 96, 3) := by decide +kernel
theorem dX6_acceptToken_38 : decode cX6_acceptToken 38 = .ok (.goto 21, 3) := by decide +kernel
theorem dX6_acceptToken_41 : decode cX6_acceptToken 41 = .ok (.aload_n 0, 1) := by decide +kernel
theorem dX6_acceptToken_42 : decode cX6_acceptToken 42 = .ok (.getfield 99, 3) := by decide +kernel
theorem dX6_acceptToken_45 : decode cX6_acceptToken 45 = .ok (.ifCond .eq 10, 3) := by decide +kernel
theorem dX6_acceptToken_48 : decode cX6_acceptToken 48 = .ok (.aload_n 0, 1) := by decide +kernel
theorem dX6_acceptToken_49 : decode cX6_acceptToken 49 = .ok (.invokevirtual 103, 3) := by decide +kernel
theorem dX6_acceptToken_52 : decode cX6_acceptToken 52 = .ok (.goto 7, 3) := by decide +kernel
theorem dX6_acceptToken_55 : decode cX6_acceptToken 55 = .ok (.aload_n 0, 1) := by decide +kernel
theorem dX6_acceptToken_56 : decode cX6_acceptToken 56 = .ok (.invokevirtual 106, 3) := by decide +kernel
theorem dX6_acceptToken_59 : decode cX6_acceptToken 59 = .ok (.return_, 1) := by decide +kernel
theorem dX6_acceptWord_0 : decode cX6_acceptWord 0 = .ok (.aload_n 0, 1) := by decide +kernel
theorem dX6_acceptWord_1 : decode cX6_acceptWord 1 = .ok (.getfield 39, 3) := by decide +kernel
theorem dX6_acceptWord_4 : decode cX6_acceptWord 4 = .ok (.iconst 2, 1) := by decide +kernel
theorem dX6_acceptWord_5 : decode cX6_acceptWord 5 = .ok (.if_icmp .ne 14, 3) := by decide +kernel
theorem dX6_acceptWord_8 : decode cX6_acceptWord 8 = .ok (.aload_n 0, 1) := by decide +kernel
theorem dX6_acceptWord_9 : decode cX6_acceptWord 9 = .ok (.getfield 90, 3) := by decide +kernel
theorem dX6_acceptWord_12 : decode cX6_acceptWord 12 = .ok (.ifCond .le 7, 3) := by decide +kernel
theorem dX6_acceptWord_15 : decode cX6_acceptWord 15 = .ok (.iconst 1, 1) := by decide +kernel
theorem dX6_acceptWord_16 : decode cX6_acceptWord 16 = .ok (.goto 4, 3) := by decide +kernel
theorem dX6_acceptWord_19 : decode cX6_acceptWord 19 = .ok (.iconst 0, 1) := by decide +kernel
theorem dX6_acceptWord_20 : decode cX6_acceptWord 20 = .ok (.istore_n 1, 1) := by decide +kernel
theorem dX6_acceptWord_21 : decode cX6_acceptWord 21 = .ok (.aload_n 0, 1) := by decide +kernel
theorem dX6_acceptWord_22 : decode cX6_acceptWord 22 = .ok (.iload_n 1, 1) := by decide +kernel
theorem dX6_acceptWord_23 : decode cX6_acceptWord 23 = .ok (.ifCond .eq 16, 3) := by decide +kernel
theorem dX6_acceptWord_26 : decode cX6_acceptWord 26 = .ok (.aload_n 0, 1) := by decide +kernel
theorem dX6_acceptWord_27 : decode cX6_acceptWord 27 = .ok (.ldc 146, 2) := by decide +kernel
theorem dX6_acceptWord_29 : decode cX6_acceptWord 29 = .ok (.invokevirtual 148, 3) := by decide +kernel
theorem dX6_acceptWord_32 : decode cX6_acceptWord 32 = .ok (.ifCond .eq 7, 3) := by decide +kernel
theorem dX6_acceptWord_35 : decode cX6_acceptWord 35 = .ok (.iconst 1, 1) := by decide +kernel
theorem dX6_acceptWord_36 : decode cX6_acceptWord 36 = .ok (.goto 4, 3) := by decide +kernel
theorem dX6_acceptWord_39 : decode cX6_acceptWord 39 = .ok (.iconst 0, 1) := by decide +kernel
theorem dX6_acceptWord_40 : decode cX6_acceptWord 40 = .ok (.putfield 123, 3) := by decide +kernel
theorem dX6_acceptWord_43 : decode cX6_acceptWord 43 = .ok (.aload_n 0, 1) := by decide +kernel
theorem dX6_acceptWord_44 : decode cX6_acceptWord 44 = .ok (.getfield 123, 3) := by decide +kernel
theorem dX6_acceptWord_47 : decode cX6_acceptWord 47 = .ok (.ifCond .ne 14, 3) := by decide +kernel
theorem dX6_acceptWord_50 : decode cX6_acceptWord 50 = .ok (.aload_n 0, 1) := by decide +kernel
theorem dX6_acceptWord_51 : decode cX6_acceptWord 51 = .ok (.aload_n 0, 1) := by decide +kernel
theorem dX6_acceptWord_52 : decode cX6_acceptWord 52 = .ok (.invokevirtual 152, 3) := by decide +kernel
theorem dX6_acceptWord_55 : decode cX6_acceptWord 55 = .ok (.invokevirtual 148, 3) := by decide +kernel
theorem dX6_acceptWord_58 : decode cX6_acceptWord 58 = .ok (.ifCond .eq 11, 3) := by decide +kernel
theorem dX6_acceptWord_61 : decode cX6_acceptWord 61 = .ok (.aload_n 0, 1) := by decide +kernel
theorem dX6_acceptWord_62 : decode cX6_acceptWord 62 = .ok (.iconst 0, 1) := by decide +kernel
theorem dX6_acceptWord_63 : decode cX6_acceptWord 63 = .ok (.putfield 99, 3) := by decide +kernel
theorem dX6_acceptWord_66 : decode cX6_acceptWord 66 = .ok (.goto 8, 3) := by decide +kernel
theorem dX6_acceptWord_69 : decode cX6_acceptWord 69 = .ok (.aload_n 0, 1) := by decide +kernel
theorem dX6_acceptWord_70 : decode cX6_acceptWord 70 = .ok (.iconst 1, 1) := by decide +kernel
theorem dX6_acceptWord_71 : decode cX6_acceptWord 71 = .ok (.invokevirtual 116, 3) := by decide +kernel
theorem dX6_acceptWord_74 : decode cX6_acceptWord 74 = .ok (.return_, 1) := by decide +kernel
theorem dX6_closeLine_0 : decode cX6_closeLine 0 = .ok (.aload_n 0, 1) := by decide +kernel
theorem dX6_closeLine_1 : decode cX6_closeLine 1 = .ok (.getfield 45, 3) := by decide +kernel
theorem dX6_closeLine_4 : decode cX6_closeLine 4 = .ok (.iconst 3, 1) := by decide +kernel
theorem dX6_closeLine_5 : decode cX6_closeLine 5 = .ok (.if_icmp .eq 9, 3) := by decide +kernel
theorem dX6_closeLine_8 : decode cX6_closeLine 8 = .ok (.aload_n 0, 1) := by decide +kernel
theorem dX6_closeLine_9 : decode cX6_closeLine 9 = .ok (.iconst 1, 1) := by decide +kernel
theorem dX6_closeLine_10 : decode cX6_closeLine 10 = .ok (.invokevirtual 116, 3) := by decide +kernel
theorem dX6_closeLine_13 : decode cX6_closeLine 13 = .ok (.return_, 1) := by decide +kernel
theorem dX6_closeLine_14 : decode cX6_closeLine 14 = .ok (.aload_n 0, 1) := by decide +kernel
theorem dX6_closeLine_15 : decode cX6_closeLine 15 = .ok (.getfield 39, 3) := by decide +kernel
theorem dX6_closeLine_18 : decode cX6_closeLine 18 = .ok (.tableswitch 143 0 3 #[30, 65, 93, 121], 30) := by decide +kernel
theorem dX6_closeLine_48 : decode cX6_closeLine 48 = .ok (.aload_n 0, 1) := by decide +kernel
theorem dX6_closeLine_49 : decode cX6_closeLine 49 = .ok (.getfield 12, 3) := by decide +kernel
theorem dX6_closeLine_52 : decode cX6_closeLine 52 = .ok (.aload_n 0, 1) := by decide +kernel
theorem dX6_closeLine_53 : decode cX6_closeLine 53 = .ok (.getfield 22, 3) := by decide +kernel
theorem dX6_closeLine_56 : decode cX6_closeLine 56 = .ok (.iconst 0, 1) := by decide +kernel
theorem dX6_closeLine_57 : decode cX6_closeLine 57 = .ok (.iaload, 1) := by decide +kernel
theorem dX6_closeLine_58 : decode cX6_closeLine 58 = .ok (.aload_n 0, 1) := by decide +kernel
theorem dX6_closeLine_59 : decode cX6_closeLine 59 = .ok (.getfield 22, 3) := by decide +kernel
theorem dX6_closeLine_62 : decode cX6_closeLine 62 = .ok (.iconst 1, 1) := by decide +kernel
theorem dX6_closeLine_63 : decode cX6_closeLine 63 = .ok (.iaload, 1) := by decide +kernel
theorem dX6_closeLine_64 : decode cX6_closeLine 64 = .ok (.invokevirtual 126, 3) := by decide +kernel
theorem dX6_closeLine_67 : decode cX6_closeLine 67 = .ok (.aload_n 0, 1) := by decide +kernel
theorem dX6_closeLine_68 : decode cX6_closeLine 68 = .ok (.getfield 12, 3) := by decide +kernel
theorem dX6_closeLine_71 : decode cX6_closeLine 71 = .ok (.aload_n 0, 1) := by decide +kernel
theorem dX6_closeLine_72 : decode cX6_closeLine 72 = .ok (.getfield 22, 3) := by decide +kernel
theorem dX6_closeLine_75 : decode cX6_closeLine 75 = .ok (.iconst 2, 1) := by decide +kernel
theorem dX6_closeLine_76 : decode cX6_closeLine 76 = .ok (.iaload, 1) := by decide +kernel
theorem dX6_closeLine_77 : decode cX6_closeLine 77 = .ok (.putfield 130, 3) := by decide +kernel
theorem dX6_closeLine_80 : decode cX6_closeLine 80 = .ok (.goto 94, 3) := by decide +kernel
theorem dX6_closeLine_83 : decode cX6_closeLine 83 = .ok (.aload_n 0, 1) := by decide +kernel
theorem dX6_closeLine_84 : decode cX6_closeLine 84 = .ok (.getfield 12, 3) := by decide +kernel
theorem dX6_closeLine_87 : decode cX6_closeLine 87 = .ok (.aload_n 0, 1) := by decide +kernel
theorem dX6_closeLine_88 : decode cX6_closeLine 88 = .ok (.getfield 22, 3) := by decide +kernel
theorem dX6_closeLine_91 : decode cX6_closeLine 91 = .ok (.iconst 0, 1) := by decide +kernel
theorem dX6_closeLine_92 : decode cX6_closeLine 92 = .ok (.iaload, 1) := by decide +kernel
theorem dX6_closeLine_93 : decode cX6_closeLine 93 = .ok (.aload_n 0, 1) := by decide +kernel
theorem dX6_closeLine_94 : decode cX6_closeLine 94 = .ok (.getfield 22, 3) := by decide +kernel
theorem dX6_closeLine_97 : decode cX6_closeLine 97 = .ok (.iconst 1, 1) := by decide +kernel
theorem dX6_closeLine_98 : decode cX6_closeLine 98 = .ok (.iaload, 1) := by decide +kernel
theorem dX6_closeLine_99 : decode cX6_closeLine 99 = .ok (.aload_n 0, 1) := by decide +kernel
theorem dX6_closeLine_100 : decode cX6_closeLine 100 = .ok (.getfield 22, 3) := by decide +kernel
theorem dX6_closeLine_103 : decode cX6_closeLine 103 = .ok (.iconst 2, 1) := by decide +kernel
theorem dX6_closeLine_104 : decode cX6_closeLine 104 = .ok (.iaload, 1) := by decide +kernel
theorem dX6_closeLine_105 : decode cX6_closeLine 105 = .ok (.invokevirtual 133, 3) := by decide +kernel
theorem dX6_closeLine_108 : decode cX6_closeLine 108 = .ok (.goto 66, 3) := by decide +kernel
theorem dX6_closeLine_111 : decode cX6_closeLine 111 = .ok (.aload_n 0, 1) := by decide +kernel
theorem dX6_closeLine_112 : decode cX6_closeLine 112 = .ok (.getfield 12, 3) := by decide +kernel
theorem dX6_closeLine_115 : decode cX6_closeLine 115 = .ok (.aload_n 0, 1) := by decide +kernel

theorem dX12_gorge_50 : decode cX12_gorge 50 = .ok (.invokevirtual 135, 3) := by decide +kernel
theorem dX12_gorge_53 : decode cX12_gorge 53 = .ok (.aload_n 0, 1) := by decide +kernel
theorem dX12_gorge_54 : decode cX12_gorge 54 = .ok (.invokevirtual 118, 3) := by decide +kernel
theorem dX12_gorge_57 : decode cX12_gorge 57 = .ok (.ifCond .eq 17, 3) := by decide +kernel
theorem dX12_gorge_60 : decode cX12_gorge 60 = .ok (.aload_n 0, 1) := by decide +kernel
theorem dX12_gorge_61 : decode cX12_gorge 61 = .ok (.getfield 94, 3) := by decide +kernel
theorem dX12_gorge_64 : decode cX12_gorge 64 = .ok (.ifCond .eq 10, 3) := by decide +kernel
theorem dX12_gorge_67 : decode cX12_gorge 67 = .ok (.aload_n 0, 1) := by decide +kernel
theorem dX12_gorge_68 : decode cX12_gorge 68 = .ok (.invokevirtual 195, 3) := by decide +kernel
theorem dX12_gorge_71 : decode cX12_gorge 71 = .ok (.goto (-18), 3) := by decide +kernel
theorem dX12_gorge_74 : decode cX12_gorge 74 = .ok (.aload_n 0, 1) := by decide +kernel
theorem dX12_gorge_75 : decode cX12_gorge 75 = .ok (.invokevirtual 118, 3) := by decide +kernel
theorem dX12_gorge_78 : decode cX12_gorge 78 = .ok (.ifCond .ne 6, 3) := by decide +kernel
theorem dX12_gorge_81 : decode cX12_gorge 81 = .ok (.bipush (-4), 2) := by decide +kernel
theorem dX12_gorge_83 : decode cX12_gorge 83 = .ok (.ireturn, 1) := by decide +kernel
theorem dX12_gorge_84 : decode cX12_gorge 84 = .ok (.iconst 0, 1) := by decide +kernel
theorem dX12_gorge_85 : decode cX12_gorge 85 = .ok (.istore_n 1, 1) := by decide +kernel
theorem dX12_gorge_86 : decode cX12_gorge 86 = .ok (.iload_n 1, 1) := by decide +kernel
theorem dX12_gorge_87 : decode cX12_gorge 87 = .ok (.bipush 122, 2) := by decide +kernel
theorem dX12_gorge_89 : decode cX12_gorge 89 = .ok (.if_icmp .ge 21, 3) := by decide +kernel
theorem dX12_gorge_92 : decode cX12_gorge 92 = .ok (.aload_n 0, 1) := by decide +kernel
theorem dX12_gorge_93 : decode cX12_gorge 93 = .ok (.getfield 9, 3) := by decide +kernel
theorem dX12_gorge_96 : decode cX12_gorge 96 = .ok (.iload_n 1, 1) := by decide +kernel
theorem dX12_gorge_97 : decode cX12_gorge 97 = .ok (.aload_n 0, 1) := by decide +kernel
theorem dX12_gorge_98 : decode cX12_gorge 98 = .ok (.getfield 31, 3) := by decide +kernel
theorem dX12_gorge_101 : decode cX12_gorge 101 = .ok (.iload_n 1, 1) := by decide +kernel
theorem dX12_gorge_102 : decode cX12_gorge 102 = .ok (.iaload, 1) := by decide +kernel
theorem dX12_gorge_103 : decode cX12_gorge 103 = .ok (.iastore, 1) := by decide +kernel
theorem dX12_gorge_104 : decode cX12_gorge 104 = .ok (.iinc 1 1, 3) := by decide +kernel
theorem dX12_gorge_107 : decode cX12_gorge 107 = .ok (.goto (-21), 3) := by decide +kernel
theorem dX12_gorge_110 : decode cX12_gorge 110 = .ok (.aload_n 0, 1) := by decide +kernel
theorem dX12_gorge_111 : decode cX12_gorge 111 = .ok (.getfield 9, 3) := by decide +kernel
theorem dX12_gorge_114 : decode cX12_gorge 114 = .ok (.bipush 8, 2) := by decide +kernel
theorem dX12_gorge_116 : decode cX12_gorge 116 = .ok (.iaload, 1) := by decide +kernel
theorem dX12_gorge_117 : decode cX12_gorge 117 = .ok (.ireturn, 1) := by decide +kernel
theorem dX12_grip_0 : decode cX12_grip 0 = .ok (.aload_n 0, 1) := by decide +kernel
theorem dX12_grip_1 : decode cX12_grip 1 = .ok (.iload_n 1, 1) := by decide +kernel
theorem dX12_grip_2 : decode cX12_grip 2 = .ok (.i2l, 1) := by decide +kernel
theorem dX12_grip_3 : decode cX12_grip 3 = .ok (.invokevirtual 198, 3) := by decide +kernel
theorem dX12_grip_6 : decode cX12_grip 6 = .ok (.ifCond .eq 15, 3) := by decide +kernel
theorem dX12_grip_9 : decode cX12_grip 9 = .ok (.iload_n 2, 1) := by decide +kernel
theorem dX12_grip_10 : decode cX12_grip 10 = .ok (.i2l, 1) := by decide +kernel
theorem dX12_grip_11 : decode cX12_grip 11 = .ok (.lconst 1, 1) := by decide +kernel
theorem dX12_grip_12 : decode cX12_grip 12 = .ok (.ldc2_w 455, 3) := by decide +kernel
theorem dX12_grip_15 : decode cX12_grip 15 = .ok (.invokestatic 70, 3) := by decide +kernel
theorem dX12_grip_18 : decode cX12_grip 18 = .ok (.ifCond .ne 6, 3) := by decide +kernel
theorem dX12_grip_21 : decode cX12_grip 21 = .ok (.bipush (-2), 2) := by decide +kernel
theorem dX12_grip_23 : decode cX12_grip 23 = .ok (.ireturn, 1) := by decide +kernel
theorem dX12_grip_24 : decode cX12_grip 24 = .ok (.aload_n 0, 1) := by decide +kernel
theorem dX12_grip_25 : decode cX12_grip 25 = .ok (.getfield 9, 3) := by decide +kernel
theorem dX12_grip_28 : decode cX12_grip 28 = .ok (.bipush 7, 2) := by decide +kernel
theorem dX12_grip_30 : decode cX12_grip 30 = .ok (.iaload, 1) := by decide +kernel
theorem dX12_grip_31 : decode cX12_grip 31 = .ok (.ifCond .le 6, 3) := by decide +kernel
theorem dX12_grip_34 : decode cX12_grip 34 = .ok (.bipush (-5), 2) := by decide +kernel
theorem dX12_grip_36 : decode cX12_grip 36 = .ok (.ireturn, 1) := by decide +kernel
theorem dX12_grip_37 : decode cX12_grip 37 = .ok (.aload_n 0, 1) := by decide +kernel
theorem dX12_grip_38 : decode cX12_grip 38 = .ok (.iload_n 1, 1) := by decide +kernel
theorem dX12_grip_39 : decode cX12_grip 39 = .ok (.iconst 1, 1) := by decide +kernel
theorem dX12_grip_40 : decode cX12_grip 40 = .ok (.invokevirtual 202, 3) := by decide +kernel
theorem dX12_grip_43 : decode cX12_grip 43 = .ok (.istore_n 3, 1) := by decide +kernel
theorem dX12_grip_44 : decode cX12_grip 44 = .ok (.aload_n 0, 1) := by decide +kernel
theorem dX12_grip_45 : decode cX12_grip 45 = .ok (.getfield 9, 3) := by decide +kernel
theorem dX12_grip_48 : decode cX12_grip 48 = .ok (.bipush 9, 2) := by decide +kernel
theorem dX12_grip_50 : decode cX12_grip 50 = .ok (.iconst 3, 1) := by decide +kernel
theorem dX12_grip_51 : decode cX12_grip 51 = .ok (.iload_n 1, 1) := by decide +kernel
theorem dX12_grip_52 : decode cX12_grip 52 = .ok (.imul, 1) := by decide +kernel
theorem dX12_grip_53 : decode cX12_grip 53 = .ok (.iadd, 1) := by decide +kernel
theorem dX12_grip_54 : decode cX12_grip 54 = .ok (.iconst 1, 1) := by decide +kernel
theorem dX12_grip_55 : decode cX12_grip 55 = .ok (.iadd, 1) := by decide +kernel
theorem dX12_grip_56 : decode cX12_grip 56 = .ok (.iload_n 2, 1) := by decide +kernel
theorem dX12_grip_57 : decode cX12_grip 57 = .ok (.iastore, 1) := by decide +kernel
theorem dX12_grip_58 : decode cX12_grip 58 = .ok (.iload_n 3, 1) := by decide +kernel
theorem dX12_grip_59 : decode cX12_grip 59 = .ok (.ireturn, 1) := by decide +kernel
theorem dX12_gripLess_0 : decode cX12_gripLess 0 = .ok (.aload_n 0, 1) := by decide +kernel
theorem dX12_gripLess_1 : decode cX12_gripLess 1 = .ok (.iload_n 1, 1) := by decide +kernel
theorem dX12_gripLess_2 : decode cX12_gripLess 2 = .ok (.iconst 1, 1) := by decide +kernel
theorem dX12_gripLess_3 : decode cX12_gripLess 3 = .ok (.invokevirtual 202, 3) := by decide +kernel
theorem dX12_gripLess_6 : decode cX12_gripLess 6 = .ok (.iload_n 1, 1) := by decide +kernel
theorem dX12_gripLess_7 : decode cX12_gripLess 7 = .ok (.iload_n 2, 1) := by decide +kernel
theorem dX12_gripLess_8 : decode cX12_gripLess 8 = .ok (.if_icmp .ne 7, 3) := by decide +kernel
theorem dX12_gripLess_11 : decode cX12_gripLess 11 = .ok (.iload_n 3, 1) := by decide +kernel
theorem dX12_gripLess_12 : decode cX12_gripLess 12 = .ok (.goto 4, 3) := by decide +kernel
theorem dX12_gripLess_15 : decode cX12_gripLess 15 = .ok (.iconst 0, 1) := by decide +kernel
theorem dX12_gripLess_16 : decode cX12_gripLess 16 = .ok (.isub, 1) := by decide +kernel
theorem dX12_gripLess_17 : decode cX12_gripLess 17 = .ok (.ireturn, 1) := by decide +kernel
theorem dX12_hasBy_0 : decode cX12_hasBy 0 = .ok (.iload_n 3, 1) := by decide +kernel
theorem dX12_hasBy_1 : decode cX12_hasBy 1 = .ok (.ifCond .ne 5, 3) := by decide +kernel
theorem dX12_hasBy_4 : decode cX12_hasBy 4 = .ok (.iconst 0, 1) := by decide +kernel
theorem dX12_hasBy_5 : decode cX12_hasBy 5 = .ok (.ireturn, 1) := by decide +kernel
theorem dX12_hasBy_6 : decode cX12_hasBy 6 = .ok (.iload 4, 2) := by decide +kernel
theorem dX12_hasBy_8 : decode cX12_hasBy 8 = .ok (.ifCond .eq 14, 3) := by decide +kernel
theorem dX12_hasBy_11 : decode cX12_hasBy 11 = .ok (.aload_n 0, 1) := by decide +kernel
theorem dX12_hasBy_12 : decode cX12_hasBy 12 = .ok (.iload_n 1, 1) := by decide +kernel
theorem dX12_hasBy_13 : decode cX12_hasBy 13 = .ok (.iconst 1, 1) := by decide +kernel
theorem dX12_hasBy_14 : decode cX12_hasBy 14 = .ok (.iload_n 2, 1) := by decide +kernel
theorem dX12_hasBy_15 : decode cX12_hasBy 15 = .ok (.iadd, 1) := by decide +kernel
theorem dX12_hasBy_16 : decode cX12_hasBy 16 = .ok (.invokevirtual 208, 3) := by decide +kernel
theorem dX12_hasBy_19 : decode cX12_hasBy 19 = .ok (.goto 6, 3) := by decide +kernel
theorem dX12_hasBy_22 : decode cX12_hasBy 22 = .ok (.iload 5, 2) := by decide +kernel
theorem dX12_hasBy_24 : decode cX12_hasBy 24 = .ok (.ineg, 1) := by decide +kernel
theorem dX12_hasBy_25 : decode cX12_hasBy 25 = .ok (.ireturn, 1) := by decide +kernel
theorem dX12_hold_0 : decode cX12_hold 0 = .ok (.aload_n 0, 1) := by decide +kernel
theorem dX12_hold_1 : decode cX12_hold 1 = .ok (.iload_n 1, 1) := by decide +kernel
theorem dX12_hold_2 : decode cX12_hold 2 = .ok (.iload_n 2, 1) := by decide +kernel
theorem dX12_hold_3 : decode cX12_hold 3 = .ok (.invokevirtual 290, 3) := by decide +kernel
theorem dX12_hold_6 : decode cX12_hold 6 = .ok (.ifCond .ne 6, 3) := by decide +kernel
theorem dX12_hold_9 : decode cX12_hold 9 = .ok (.bipush (-2), 2) := by decide +kernel
theorem dX12_hold_11 : decode cX12_hold 11 = .ok (.ireturn, 1) := by decide +kernel
theorem dX12_hold_12 : decode cX12_hold 12 = .ok (.aload_n 0, 1) := by decide +kernel
theorem dX12_hold_13 : decode cX12_hold 13 = .ok (.iload_n 1, 1) := by decide +kernel
theorem dX12_hold_14 : decode cX12_hold 14 = .ok (.iload_n 2, 1) := by decide +kernel
theorem dX12_hold_15 : decode cX12_hold 15 = .ok (.invokevirtual 293, 3) := by decide +kernel
theorem dX12_hold_18 : decode cX12_hold 18 = .ok (.ifCond .eq 12, 3) := by decide +kernel
theorem dX12_hold_21 : decode cX12_hold 21 = .ok (.aload_n 0, 1) := by decide +kernel
theorem dX12_hold_22 : decode cX12_hold 22 = .ok (.iload_n 1, 1) := by decide +kernel
theorem dX12_hold_23 : decode cX12_hold 23 = .ok (.iload_n 2, 1) := by decide +kernel
theorem dX12_hold_24 : decode cX12_hold 24 = .ok (.invokevirtual 239, 3) := by decide +kernel
theorem dX12_hold_27 : decode cX12_hold 27 = .ok (.goto 4, 3) := by decide +kernel
theorem dX12_hold_30 : decode cX12_hold 30 = .ok (.iconst (-1), 1) := by decide +kernel
theorem dX12_hold_31 : decode cX12_hold 31 = .ok (.ireturn, 1) := by decide +kernel
theorem dX12_holdBy_0 : decode cX12_holdBy 0 = .ok (.aload_n 0, 1) := by decide +kernel
theorem dX12_holdBy_1 : decode cX12_holdBy 1 = .ok (.iload_n 1, 1) := by decide +kernel
theorem dX12_holdBy_2 : decode cX12_holdBy 2 = .ok (.iload_n 3, 1) := by decide +kernel
theorem dX12_holdBy_3 : decode cX12_holdBy 3 = .ok (.iload 4, 2) := by decide +kernel
theorem dX12_holdBy_5 : decode cX12_holdBy 5 = .ok (.invokevirtual 282, 3) := by decide +kernel
theorem dX12_holdBy_8 : decode cX12_holdBy 8 = .ok (.aload_n 0, 1) := by decide +kernel
theorem dX12_holdBy_9 : decode cX12_holdBy 9 = .ok (.iload_n 2, 1) := by decide +kernel
theorem dX12_holdBy_10 : decode cX12_holdBy 10 = .ok (.iload_n 3, 1) := by decide +kernel
theorem dX12_holdBy_11 : decode cX12_holdBy 11 = .ok (.iload 4, 2) := by decide +kernel
theorem dX12_holdBy_13 : decode cX12_holdBy 13 = .ok (.invokevirtual 282, 3) := by decide +kernel
theorem dX12_holdBy_16 : decode cX12_holdBy 16 = .ok (.invokestatic 109, 3) := by decide +kernel
theorem dX12_holdBy_19 : decode cX12_holdBy 19 = .ok (.aload_n 0, 1) := by decide +kernel
theorem dX12_holdBy_20 : decode cX12_holdBy 20 = .ok (.iload_n 1, 1) := by decide +kernel
theorem dX12_holdBy_21 : decode cX12_holdBy 21 = .ok (.iconst 2, 1) := by decide +kernel
theorem dX12_holdBy_22 : decode cX12_holdBy 22 = .ok (.invokevirtual 202, 3) := by decide +kernel
theorem dX12_holdBy_25 : decode cX12_holdBy 25 = .ok (.aload_n 0, 1) := by decide +kernel
theorem dX12_holdBy_26 : decode cX12_holdBy 26 = .ok (.iload_n 2, 1) := by decide +kernel
theorem dX12_holdBy_27 : decode cX12_holdBy 27 = .ok (.iconst 2, 1) := by decide +kernel
theorem dX12_holdBy_28 : decode cX12_holdBy 28 = .ok (.invokevirtual 202, 3) := by decide +kernel
theorem dX12_holdBy_31 : decode cX12_holdBy 31 = .ok (.invokestatic 109, 3) := by decide +kernel
theorem dX12_holdBy_34 : decode cX12_holdBy 34 = .ok (.iadd, 1) := by decide +kernel
theorem dX12_holdBy_35 : decode cX12_holdBy 35 = .ok (.ireturn, 1) := by decide +kernel
theorem dX12_holdOf_0 : decode cX12_holdOf 0 = .ok (.aload_n 0, 1) := by decide +kernel
theorem dX12_holdOf_1 : decode cX12_holdOf 1 = .ok (.iload_n 1, 1) := by decide +kernel
theorem dX12_holdOf_2 : decode cX12_holdOf 2 = .ok (.iload_n 2, 1) := by decide +kernel
theorem dX12_holdOf_3 : decode cX12_holdOf 3 = .ok (.iconst (-1), 1) := by decide +kernel
theorem dX12_holdOf_4 : decode cX12_holdOf 4 = .ok (.iconst 0, 1) := by decide +kernel
theorem dX12_holdOf_5 : decode cX12_holdOf 5 = .ok (.invokevirtual 286, 3) := by decide +kernel
theorem dX12_holdOf_8 : decode cX12_holdOf 8 = .ok (.ireturn, 1) := by decide +kernel
theorem dX12_image_0 : decode cX12_image 0 = .ok (.iload_n 1, 1) := by decide +kernel
theorem dX12_image_1 : decode cX12_image 1 = .ok (.i2l, 1) := by decide +kernel
theorem dX12_image_2 : decode cX12_image 2 = .ok (.lconst 0, 1) := by decide +kernel
theorem dX12_image_3 : decode cX12_image 3 = .ok (.ldc2_w 68, 3) := by decide +kernel
theorem dX12_image_6 : decode cX12_image 6 = .ok (.invokestatic 70, 3) := by decide +kernel
theorem dX12_image_9 : decode cX12_image 9 = .ok (.ifCond .ne 6, 3) := by decide +kernel
theorem dX12_image_12 : decode cX12_image 12 = .ok (.bipush (-2), 2) := by decide +kernel
theorem dX12_image_14 : decode cX12_image 14 = .ok (.ireturn, 1) := by decide +kernel
theorem dX12_image_15 : decode cX12_image 15 = .ok (.iconst 0, 1) := by decide +kernel
theorem dX12_image_16 : decode cX12_image 16 = .ok (.istore_n 2, 1) := by decide +kernel
theorem dX12_image_17 : decode cX12_image 17 = .ok (.iload_n 2, 1) := by decide +kernel
theorem dX12_image_18 : decode cX12_image 18 = .ok (.bipush 122, 2) := by decide +kernel
theorem dX12_image_20 : decode cX12_image 20 = .ok (.if_icmp .ge 26, 3) := by decide +kernel
theorem dX12_image_23 : decode cX12_image 23 = .ok (.aload_n 0, 1) := by decide +kernel
theorem dX12_image_24 : decode cX12_image 24 = .ok (.getfield 13, 3) := by decide +kernel
theorem dX12_image_27 : decode cX12_image 27 = .ok (.bipush 122, 2) := by decide +kernel
theorem dX12_image_29 : decode cX12_image 29 = .ok (.iload_n 1, 1) := by decide +kernel
theorem dX12_image_30 : decode cX12_image 30 = .ok (.imul, 1) := by decide +kernel
theorem dX12_image_31 : decode cX12_image 31 = .ok (.iload_n 2, 1) := by decide +kernel
theorem dX12_image_32 : decode cX12_image 32 = .ok (.iadd, 1) := by decide +kernel
theorem dX12_image_33 : decode cX12_image 33 = .ok (.aload_n 0, 1) := by decide +kernel
theorem dX12_image_34 : decode cX12_image 34 = .ok (.getfield 9, 3) := by decide +kernel
theorem dX12_image_37 : decode cX12_image 37 = .ok (.iload_n 2, 1) := by decide +kernel
theorem dX12_image_38 : decode cX12_image 38 = .ok (.iaload, 1) := by decide +kernel
theorem dX12_image_39 : decode cX12_image 39 = .ok (.iastore, 1) := by decide +kernel
theorem dX12_image_40 : decode cX12_image 40 = .ok (.iinc 2 1, 3) := by decide +kernel
theorem dX12_image_43 : decode cX12_image 43 = .ok (.goto (-26), 3) := by decide +kernel
theorem dX12_image_46 : decode cX12_image 46 = .ok (.aload_n 0, 1) := by decide +kernel
theorem dX12_image_47 : decode cX12_image 47 = .ok (.getfield 16, 3) := by decide +kernel
theorem dX12_image_50 : decode cX12_image 50 = .ok (.iload_n 1, 1) := by decide +kernel
theorem dX12_image_51 : decode cX12_image 51 = .ok (.iconst 1, 1) := by decide +kernel
theorem dX12_image_52 : decode cX12_image 52 = .ok (.bastore, 1) := by decide +kernel
theorem dX12_image_53 : decode cX12_image 53 = .ok (.iconst 0, 1) := by decide +kernel
theorem dX12_image_54 : decode cX12_image 54 = .ok (.ireturn, 1) := by decide +kernel
theorem dX12_in_0 : decode cX12_in 0 = .ok (.lload_n 0, 1) := by decide +kernel
theorem dX12_in_1 : decode cX12_in 1 = .ok (.lload_n 2, 1) := by decide +kernel
theorem dX12_in_2 : decode cX12_in 2 = .ok (.lcmp, 1) := by decide +kernel
theorem dX12_in_3 : decode cX12_in 3 = .ok (.ifCond .lt 14, 3) := by decide +kernel
theorem dX12_in_6 : decode cX12_in 6 = .ok (.lload_n 0, 1) := by decide +kernel
theorem dX12_in_7 : decode cX12_in 7 = .ok (.lload 4, 2) := by decide +kernel
theorem dX12_in_9 : decode cX12_in 9 = .ok (.lcmp, 1) := by decide +kernel
theorem dX12_in_10 : decode cX12_in 10 = .ok (.ifCond .gt 7, 3) := by decide +kernel
theorem dX12_in_13 : decode cX12_in 13 = .ok (.iconst 1, 1) := by decide +kernel
theorem dX12_in_14 : decode cX12_in 14 = .ok (.goto 4, 3) := by decide +kernel
theorem dX12_in_17 : decode cX12_in 17 = .ok (.iconst 0, 1) := by decide +kernel
theorem dX12_in_18 : decode cX12_in 18 = .ok (.ireturn, 1) := by decide +kernel
theorem dX12_init_0 : decode cX12_init 0 = .ok (.aload_n 0, 1) := by decide +kernel
theorem dX12_init_1 : decode cX12_init 1 = .ok (.invokespecial 3, 3) := by decide +kernel
theorem dX12_init_4 : decode cX12_init 4 = .ok (.aload_n 0, 1) := by decide +kernel
theorem dX12_init_5 : decode cX12_init 5 = .ok (.bipush 122, 2) := by decide +kernel
theorem dX12_init_7 : decode cX12_init 7 = .ok (.newarray .int, 2) := by decide +kernel
theorem dX12_init_9 : decode cX12_init 9 = .ok (.putfield 9, 3) := by decide +kernel
theorem dX12_init_12 : decode cX12_init 12 = .ok (.aload_n 0, 1) := by decide +kernel
theorem dX12_init_13 : decode cX12_init 13 = .ok (.sipush 366, 3) := by decide +kernel
theorem dX12_init_16 : decode cX12_init 16 = .ok (.newarray .int, 2) := by decide +kernel
theorem dX12_init_18 : decode cX12_init 18 = .ok (.putfield 13, 3) := by decide +kernel
theorem dX12_init_21 : decode cX12_init 21 = .ok (.aload_n 0, 1) := by decide +kernel
theorem dX12_init_22 : decode cX12_init 22 = .ok (.iconst 3, 1) := by decide +kernel
theorem dX12_init_23 : decode cX12_init 23 = .ok (.newarray .boolean, 2) := by decide +kernel
theorem dX12_init_25 : decode cX12_init 25 = .ok (.putfield 16, 3) := by decide +kernel
theorem dX12_init_28 : decode cX12_init 28 = .ok (.aload_n 0, 1) := by decide +kernel
theorem dX12_init_29 : decode cX12_init 29 = .ok (.sipush 800, 3) := by decide +kernel
theorem dX12_init_32 : decode cX12_init 32 = .ok (.newarray .byte, 2) := by decide +kernel
theorem dX12_init_34 : decode cX12_init 34 = .ok (.putfield 20, 3) := by decide +kernel
theorem dX12_init_37 : decode cX12_init 37 = .ok (.aload_n 0, 1) := by decide +kernel
theorem dX12_init_38 : decode cX12_init 38 = .ok (.iconst 5, 1) := by decide +kernel
theorem dX12_init_39 : decode cX12_init 39 = .ok (.newarray .int, 2) := by decide +kernel
theorem dX12_init_41 : decode cX12_init 41 = .ok (.putfield 24, 3) := by decide +kernel
theorem dX12_init_44 : decode cX12_init 44 = .ok (.aload_n 0, 1) := by decide +kernel
theorem dX12_init_45 : decode cX12_init 45 = .ok (.iconst (-1), 1) := by decide +kernel
theorem dX12_init_46 : decode cX12_init 46 = .ok (.putfield 27, 3) := by decide +kernel
theorem dX12_init_49 : decode cX12_init 49 = .ok (.aload_n 0, 1) := by decide +kernel
theorem dX12_init_50 : decode cX12_init 50 = .ok (.bipush 122, 2) := by decide +kernel
theorem dX12_init_52 : decode cX12_init 52 = .ok (.newarray .int, 2) := by decide +kernel
theorem dX12_init_54 : decode cX12_init 54 = .ok (.putfield 31, 3) := by decide +kernel
theorem dX12_init_57 : decode cX12_init 57 = .ok (.aload_n 0, 1) := by decide +kernel
theorem dX12_init_58 : decode cX12_init 58 = .ok (.sipush 2304, 3) := by decide +kernel
theorem dX12_init_61 : decode cX12_init 61 = .ok (.newarray .int, 2) := by decide +kernel
theorem dX12_init_63 : decode cX12_init 63 = .ok (.putfield 34, 3) := by decide +kernel
theorem dX12_init_66 : decode cX12_init 66 = .ok (.aload_n 0, 1) := by decide +kernel
theorem dX12_init_67 : decode cX12_init 67 = .ok (.sipush 2304, 3) := by decide +kernel
theorem dX12_init_70 : decode cX12_init 70 = .ok (.newarray .int, 2) := by decide +kernel
theorem dX12_init_72 : decode cX12_init 72 = .ok (.putfield 37, 3) := by decide +kernel
theorem dX12_init_75 : decode cX12_init 75 = .ok (.aload_n 0, 1) := by decide +kernel
theorem dX12_init_76 : decode cX12_init 76 = .ok (.bipush 8, 2) := by decide +kernel
theorem dX12_init_78 : decode cX12_init 78 = .ok (.newarray .int, 2) := by decide +kernel
theorem dX12_init_80 : decode cX12_init 80 = .ok (.putfield 40, 3) := by decide +kernel
theorem dX12_init_83 : decode cX12_init 83 = .ok (.aload_n 0, 1) := by decide +kernel
theorem dX12_init_84 : decode cX12_init 84 = .ok (.bipush 60, 2) := by decide +kernel
theorem dX12_init_86 : decode cX12_init 86 = .ok (.newarray .int, 2) := by decide +kernel
theorem dX12_init_88 : decode cX12_init 88 = .ok (.putfield 43, 3) := by decide +kernel
theorem dX12_init_91 : decode cX12_init 91 = .ok (.aload_n 0, 1) := by decide +kernel
theorem dX12_init_92 : decode cX12_init 92 = .ok (.bipush 7, 2) := by decide +kernel
theorem dX12_init_94 : decode cX12_init 94 = .ok (.newarray .int, 2) := by decide +kernel
theorem dX12_init_96 : decode cX12_init 96 = .ok (.putfield 46, 3) := by decide +kernel
theorem dX12_init_99 : decode cX12_init 99 = .ok (.aload_n 0, 1) := by decide +kernel
theorem dX12_init_100 : decode cX12_init 100 = .ok (.sipush 240, 3) := by decide +kernel
theorem dX12_init_103 : decode cX12_init 103 = .ok (.newarray .int, 2) := by decide +kernel
theorem dX12_init_105 : decode cX12_init 105 = .ok (.putfield 49, 3) := by decide +kernel
theorem dX12_init_108 : decode cX12_init 108 = .ok (.aload_n 0, 1) := by decide +kernel
theorem dX12_init_109 : decode cX12_init 109 = .ok (.iconst 4, 1) := by decide +kernel
theorem dX12_init_110 : decode cX12_init 110 = .ok (.newarray .int, 2) := by decide +kernel
theorem dX12_init_112 : decode cX12_init 112 = .ok (.dup, 1) := by decide +kernel
theorem dX12_init_113 : decode cX12_init 113 = .ok (.iconst 0, 1) := by decide +kernel
theorem dX12_init_114 : decode cX12_init 114 = .ok (.iconst (-1), 1) := by decide +kernel
theorem dX12_init_115 : decode cX12_init 115 = .ok (.iastore, 1) := by decide +kernel
theorem dX12_init_116 : decode cX12_init 116 = .ok (.dup, 1) := by decide +kernel
theorem dX12_init_117 : decode cX12_init 117 = .ok (.iconst 1, 1) := by decide +kernel
theorem dX12_init_118 : decode cX12_init 118 = .ok (.iconst (-1), 1) := by decide +kernel
theorem dX12_init_119 : decode cX12_init 119 = .ok (.iastore, 1) := by decide +kernel
theorem dX12_init_120 : decode cX12_init 120 = .ok (.dup, 1) := by decide +kernel
theorem dX12_init_121 : decode cX12_init 121 = .ok (.iconst 2, 1) := by decide +kernel
theorem dX12_init_122 : decode cX12_init 122 = .ok (.iconst (-1), 1) := by decide +kernel
theorem dX12_init_123 : decode cX12_init 123 = .ok (.iastore, 1) := by decide +kernel
theorem dX12_init_124 : decode cX12_init 124 = .ok (.dup, 1) := by decide +kernel
theorem dX12_init_125 : decode cX12_init 125 = .ok (.iconst 3, 1) := by decide +kernel
theorem dX12_init_126 : decode cX12_init 126 = .ok (.iconst (-1), 1) := by decide +kernel
theorem dX12_init_127 : decode cX12_init 127 = .ok (.iastore, 1) := by decide +kernel
theorem dX12_init_128 : decode cX12_init 128 = .ok (.putfield 52, 3) := by decide +kernel
theorem dX12_init_131 : decode cX12_init 131 = .ok (.aload_n 0, 1) := by decide +kernel
theorem dX12_init_132 : decode cX12_init 132 = .ok (.iconst 4, 1) := by decide +kernel
theorem dX12_init_133 : decode cX12_init 133 = .ok (.newarray .int, 2) := by decide +kernel
theorem dX12_init_135 : decode cX12_init 135 = .ok (.putfield 55, 3) := by decide +kernel
theorem dX12_init_138 : decode cX12_init 138 = .ok (.aload_n 0, 1) := by decide +kernel
theorem dX12_init_139 : decode cX12_init 139 = .ok (.sipush 240, 3) := by decide +kernel
theorem dX12_init_142 : decode cX12_init 142 = .ok (.newarray .long, 2) := by decide +kernel
theorem dX12_init_144 : decode cX12_init 144 = .ok (.putfield 58, 3) := by decide +kernel
theorem dX12_init_147 : decode cX12_init 147 = .ok (.aload_n 0, 1) := by decide +kernel
theorem dX12_init_148 : decode cX12_init 148 = .ok (.bipush 60, 2) := by decide +kernel
theorem dX12_init_150 : decode cX12_init 150 = .ok (.newarray .long, 2) := by decide +kernel
theorem dX12_init_152 : decode cX12_init 152 = .ok (.putfield 62, 3) := by decide +kernel
theorem dX12_init_155 : decode cX12_init 155 = .ok (.return_, 1) := by decide +kernel
theorem dX12_is_0 : decode cX12_is 0 = .ok (.aload_n 0, 1) := by decide +kernel
theorem dX12_is_1 : decode cX12_is 1 = .ok (.invokevirtual 118, 3) := by decide +kernel
theorem dX12_is_4 : decode cX12_is 4 = .ok (.ifCond .eq 31, 3) := by decide +kernel
theorem dX12_is_7 : decode cX12_is 7 = .ok (.aload_n 0, 1) := by decide +kernel
theorem dX12_is_8 : decode cX12_is 8 = .ok (.getfield 94, 3) := by decide +kernel
theorem dX12_is_11 : decode cX12_is 11 = .ok (.iconst 1, 1) := by decide +kernel
theorem dX12_is_12 : decode cX12_is 12 = .ok (.if_icmp .ne 23, 3) := by decide +kernel
theorem dX12_is_15 : decode cX12_is 15 = .ok (.aload_n 0, 1) := by decide +kernel
theorem dX12_is_16 : decode cX12_is 16 = .ok (.getfield 84, 3) := by decide +kernel
theorem dX12_is_19 : decode cX12_is 19 = .ok (.aload_n 0, 1) := by decide +kernel
theorem dX12_is_20 : decode cX12_is 20 = .ok (.getfield 91, 3) := by decide +kernel
theorem dX12_is_23 : decode cX12_is 23 = .ok (.isub, 1) := by decide +kernel
theorem dX12_is_24 : decode cX12_is 24 = .ok (.aload_n 1, 1) := by decide +kernel
theorem dX12_is_25 : decode cX12_is 25 = .ok (.invokevirtual 121, 3) := by decide +kernel
theorem dX12_is_28 : decode cX12_is 28 = .ok (.if_icmp .ne 7, 3) := by decide +kernel
theorem dX12_is_31 : decode cX12_is 31 = .ok (.iconst 1, 1) := by decide +kernel
theorem dX12_is_32 : decode cX12_is 32 = .ok (.goto 4, 3) := by decide +kernel
theorem dX12_is_35 : decode cX12_is 35 = .ok (.iconst 0, 1) := by decide +kernel
theorem dX12_is_36 : decode cX12_is 36 = .ok (.istore_n 2, 1) := by decide +kernel
theorem dX12_is_37 : decode cX12_is 37 = .ok (.iconst 0, 1) := by decide +kernel
theorem dX12_is_38 : decode cX12_is 38 = .ok (.istore_n 3, 1) := by decide +kernel
theorem dX12_is_39 : decode cX12_is 39 = .ok (.iload_n 3, 1) := by decide +kernel
theorem dX12_is_40 : decode cX12_is 40 = .ok (.aload_n 1, 1) := by decide +kernel
theorem dX12_is_41 : decode cX12_is 41 = .ok (.invokevirtual 121, 3) := by decide +kernel
theorem dX12_is_44 : decode cX12_is 44 = .ok (.if_icmp .ge 38, 3) := by decide +kernel
theorem dX12_is_47 : decode cX12_is 47 = .ok (.iload_n 2, 1) := by decide +kernel
theorem dX12_is_48 : decode cX12_is 48 = .ok (.ifCond .eq 34, 3) := by decide +kernel
theorem dX12_is_51 : decode cX12_is 51 = .ok (.aload_n 0, 1) := by decide +kernel
theorem dX12_is_52 : decode cX12_is 52 = .ok (.getfield 20, 3) := by decide +kernel
theorem dX12_is_55 : decode cX12_is 55 = .ok (.aload_n 0, 1) := by decide +kernel
theorem dX12_is_56 : decode cX12_is 56 = .ok (.getfield 91, 3) := by decide +kernel
theorem dX12_is_59 : decode cX12_is 59 = .ok (.iload_n 3, 1) := by decide +kernel
theorem dX12_is_60 : decode cX12_is 60 = .ok (.iadd, 1) := by decide +kernel
theorem dX12_is_61 : decode cX12_is 61 = .ok (.baload, 1) := by decide +kernel
theorem dX12_is_62 : decode cX12_is 62 = .ok (.aload_n 1, 1) := by decide +kernel
theorem dX12_is_63 : decode cX12_is 63 = .ok (.iload_n 3, 1) := by decide +kernel
theorem dX12_is_64 : decode cX12_is 64 = .ok (.invokevirtual 127, 3) := by decide +kernel
theorem dX12_is_67 : decode cX12_is 67 = .ok (.if_icmp .ne 7, 3) := by decide +kernel
theorem dX12_is_70 : decode cX12_is 70 = .ok (.iconst 1, 1) := by decide +kernel
theorem dX12_is_71 : decode cX12_is 71 = .ok (.goto 4, 3) := by decide +kernel
theorem dX12_is_74 : decode cX12_is 74 = .ok (.iconst 0, 1) := by decide +kernel
theorem dX12_is_75 : decode cX12_is 75 = .ok (.istore_n 2, 1) := by decide +kernel
theorem dX12_is_76 : decode cX12_is 76 = .ok (.iinc 3 1, 3) := by decide +kernel
theorem dX12_is_79 : decode cX12_is 79 = .ok (.goto (-40), 3) := by decide +kernel
theorem dX12_is_82 : decode cX12_is 82 = .ok (.iload_n 2, 1) := by decide +kernel
theorem dX12_is_83 : decode cX12_is 83 = .ok (.ireturn, 1) := by decide +kernel
theorem dX12_isClause_0 : decode cX12_isClause 0 = .ok (.lload_n 1, 1) := by decide +kernel
theorem dX12_isClause_1 : decode cX12_isClause 1 = .ok (.lconst 0, 1) := by decide +kernel
theorem dX12_isClause_2 : decode cX12_isClause 2 = .ok (.aload_n 0, 1) := by decide +kernel
theorem dX12_isClause_3 : decode cX12_isClause 3 = .ok (.getfield 9, 3) := by decide +kernel
theorem dX12_isClause_6 : decode cX12_isClause 6 = .ok (.iconst 5, 1) := by decide +kernel
theorem dX12_isClause_7 : decode cX12_isClause 7 = .ok (.iaload, 1) := by decide +kernel
theorem dX12_isClause_8 : decode cX12_isClause 8 = .ok (.iconst 1, 1) := by decide +kernel
theorem dX12_isClause_9 : decode cX12_isClause 9 = .ok (.isub, 1) := by decide +kernel
theorem dX12_isClause_10 : decode cX12_isClause 10 = .ok (.i2l, 1) := by decide +kernel
theorem dX12_isClause_11 : decode cX12_isClause 11 = .ok (.invokestatic 70, 3) := by decide +kernel
theorem dX12_isClause_14 : decode cX12_isClause 14 = .ok (.ireturn, 1) := by decide +kernel
theorem dX12_isFirm_0 : decode cX12_isFirm 0 = .ok (.aload_n 0, 1) := by decide +kernel
theorem dX12_isFirm_1 : decode cX12_isFirm 1 = .ok (.iload_n 1, 1) := by decide +kernel
theorem dX12_isFirm_2 : decode cX12_isFirm 2 = .ok (.iconst 0, 1) := by decide +kernel
theorem dX12_isFirm_3 : decode cX12_isFirm 3 = .ok (.invokevirtual 361, 3) := by decide +kernel
theorem dX12_isFirm_6 : decode cX12_isFirm 6 = .ok (.istore_n 2, 1) := by decide +kernel
theorem dX12_isFirm_7 : decode cX12_isFirm 7 = .ok (.aload_n 0, 1) := by decide +kernel
theorem dX12_isFirm_8 : decode cX12_isFirm 8 = .ok (.iload_n 1, 1) := by decide +kernel
theorem dX12_isFirm_9 : decode cX12_isFirm 9 = .ok (.iconst 1, 1) := by decide +kernel
theorem dX12_isFirm_10 : decode cX12_isFirm 10 = .ok (.invokevirtual 361, 3) := by decide +kernel
theorem dX12_isFirm_13 : decode cX12_isFirm 13 = .ok (.istore_n 3, 1) := by decide +kernel
theorem dX12_isFirm_14 : decode cX12_isFirm 14 = .ok (.iconst 0, 1) := by decide +kernel
theorem dX12_isFirm_15 : decode cX12_isFirm 15 = .ok (.istore 4, 2) := by decide +kernel
theorem dX12_isFirm_17 : decode cX12_isFirm 17 = .ok (.iload 4, 2) := by decide +kernel
theorem dX12_isFirm_19 : decode cX12_isFirm 19 = .ok (.aload_n 0, 1) := by decide +kernel
theorem dX12_isFirm_20 : decode cX12_isFirm 20 = .ok (.invokevirtual 349, 3) := by decide +kernel
theorem dX12_isFirm_23 : decode cX12_isFirm 23 = .ok (.if_icmp .gt 53, 3) := by decide +kernel
theorem dX12_isFirm_26 : decode cX12_isFirm 26 = .ok (.aload_n 0, 1) := by decide +kernel
theorem dX12_isFirm_27 : decode cX12_isFirm 27 = .ok (.iload 4, 2) := by decide +kernel
theorem dX12_isFirm_29 : decode cX12_isFirm 29 = .ok (.iconst 0, 1) := by decide +kernel
theorem dX12_isFirm_30 : decode cX12_isFirm 30 = .ok (.invokevirtual 361, 3) := by decide +kernel
theorem dX12_isFirm_33 : decode cX12_isFirm 33 = .ok (.istore 5, 2) := by decide +kernel
theorem dX12_isFirm_35 : decode cX12_isFirm 35 = .ok (.aload_n 0, 1) := by decide +kernel
theorem dX12_isFirm_36 : decode cX12_isFirm 36 = .ok (.iload 4, 2) := by decide +kernel
theorem dX12_isFirm_38 : decode cX12_isFirm 38 = .ok (.iconst 1, 1) := by decide +kernel
theorem dX12_isFirm_39 : decode cX12_isFirm 39 = .ok (.invokevirtual 361, 3) := by decide +kernel
theorem dX12_isFirm_42 : decode cX12_isFirm 42 = .ok (.istore 6, 2) := by decide +kernel
theorem dX12_isFirm_44 : decode cX12_isFirm 44 = .ok (.iload 5, 2) := by decide +kernel
theorem dX12_isFirm_46 : decode cX12_isFirm 46 = .ok (.iload_n 2, 1) := by decide +kernel
theorem dX12_isFirm_47 : decode cX12_isFirm 47 = .ok (.if_icmp .lt 23, 3) := by decide +kernel
theorem dX12_isFirm_50 : decode cX12_isFirm 50 = .ok (.iload 6, 2) := by decide +kernel
theorem dX12_isFirm_52 : decode cX12_isFirm 52 = .ok (.iload_n 3, 1) := by decide +kernel
theorem dX12_isFirm_53 : decode cX12_isFirm 53 = .ok (.if_icmp .lt 17, 3) := by decide +kernel
theorem dX12_isFirm_56 : decode cX12_isFirm 56 = .ok (.iload 5, 2) := by decide +kernel
theorem dX12_isFirm_58 : decode cX12_isFirm 58 = .ok (.iload_n 2, 1) := by decide +kernel
theorem dX12_isFirm_59 : decode cX12_isFirm 59 = .ok (.if_icmp .gt 9, 3) := by decide +kernel
theorem dX12_isFirm_62 : decode cX12_isFirm 62 = .ok (.iload 6, 2) := by decide +kernel
theorem dX12_isFirm_64 : decode cX12_isFirm 64 = .ok (.iload_n 3, 1) := by decide +kernel
theorem dX12_isFirm_65 : decode cX12_isFirm 65 = .ok (.if_icmp .le 5, 3) := by decide +kernel
theorem dX12_isFirm_68 : decode cX12_isFirm 68 = .ok (.iconst 0, 1) := by decide +kernel
theorem dX12_isFirm_69 : decode cX12_isFirm 69 = .ok (.ireturn, 1) := by decide +kernel
theorem dX12_isFirm_70 : decode cX12_isFirm 70 = .ok (.iinc 4 1, 3) := by decide +kernel
theorem dX12_isFirm_73 : decode cX12_isFirm 73 = .ok (.goto (-56), 3) := by decide +kernel
theorem dX12_isFirm_76 : decode cX12_isFirm 76 = .ok (.iconst 1, 1) := by decide +kernel
theorem dX12_isFirm_77 : decode cX12_isFirm 77 = .ok (.ireturn, 1) := by decide +kernel
theorem dX12_isGorge_0 : decode cX12_isGorge 0 = .ok (.aload_n 0, 1) := by decide +kernel
theorem dX12_isGorge_1 : decode cX12_isGorge 1 = .ok (.getfield 9, 3) := by decide +kernel
theorem dX12_isGorge_4 : decode cX12_isGorge 4 = .ok (.bipush 8, 2) := by decide +kernel
theorem dX12_isGorge_6 : decode cX12_isGorge 6 = .ok (.iaload, 1) := by decide +kernel
theorem dX12_isGorge_7 : decode cX12_isGorge 7 = .ok (.ifCond .le 7, 3) := by decide +kernel
theorem dX12_isGorge_10 : decode cX12_isGorge 10 = .ok (.iconst 1, 1) := by decide +kernel
theorem dX12_isGorge_11 : decode cX12_isGorge 11 = .ok (.goto 4, 3) := by decide +kernel
theorem dX12_isGorge_14 : decode cX12_isGorge 14 = .ok (.iconst 0, 1) := by decide +kernel
theorem dX12_isGorge_15 : decode cX12_isGorge 15 = .ok (.ireturn, 1) := by decide +kernel
theorem dX12_isHeld_0 : decode cX12_isHeld 0 = .ok (.iconst 0, 1) := by decide +kernel
theorem dX12_isHeld_1 : decode cX12_isHeld 1 = .ok (.istore 4, 2) := by decide +kernel
theorem dX12_isHeld_3 : decode cX12_isHeld 3 = .ok (.iload 4, 2) := by decide +kernel
theorem dX12_isHeld_5 : decode cX12_isHeld 5 = .ok (.aload_n 0, 1) := by decide +kernel
theorem dX12_isHeld_6 : decode cX12_isHeld 6 = .ok (.getfield 52, 3) := by decide +kernel
theorem dX12_isHeld_9 : decode cX12_isHeld 9 = .ok (.iload_n 1, 1) := by decide +kernel
theorem dX12_isHeld_10 : decode cX12_isHeld 10 = .ok (.iaload, 1) := by decide +kernel
theorem dX12_isHeld_11 : decode cX12_isHeld 11 = .ok (.if_icmp .ge 49, 3) := by decide +kernel
theorem dX12_isHeld_14 : decode cX12_isHeld 14 = .ok (.aload_n 0, 1) := by decide +kernel
theorem dX12_isHeld_15 : decode cX12_isHeld 15 = .ok (.aload_n 0, 1) := by decide +kernel
theorem dX12_isHeld_16 : decode cX12_isHeld 16 = .ok (.iload_n 1, 1) := by decide +kernel
theorem dX12_isHeld_17 : decode cX12_isHeld 17 = .ok (.iload 4, 2) := by decide +kernel
theorem dX12_isHeld_19 : decode cX12_isHeld 19 = .ok (.invokevirtual 316, 3) := by decide +kernel
theorem dX12_isHeld_22 : decode cX12_isHeld 22 = .ok (.l2i, 1) := by decide +kernel
theorem dX12_isHeld_23 : decode cX12_isHeld 23 = .ok (.aload_n 0, 1) := by decide +kernel
theorem dX12_isHeld_24 : decode cX12_isHeld 24 = .ok (.iload_n 1, 1) := by decide +kernel
theorem dX12_isHeld_25 : decode cX12_isHeld 25 = .ok (.iload 4, 2) := by decide +kernel
theorem dX12_isHeld_27 : decode cX12_isHeld 27 = .ok (.iconst 1, 1) := by decide +kernel
theorem dX12_isHeld_28 : decode cX12_isHeld 28 = .ok (.iadd, 1) := by decide +kernel
theorem dX12_isHeld_29 : decode cX12_isHeld 29 = .ok (.invokevirtual 316, 3) := by decide +kernel
theorem dX12_isHeld_32 : decode cX12_isHeld 32 = .ok (.l2i, 1) := by decide +kernel
theorem dX12_isHeld_33 : decode cX12_isHeld 33 = .ok (.iload_n 2, 1) := by decide +kernel
theorem dX12_isHeld_34 : decode cX12_isHeld 34 = .ok (.iload_n 3, 1) := by decide +kernel
theorem dX12_isHeld_35 : decode cX12_isHeld 35 = .ok (.invokevirtual 286, 3) := by decide +kernel
theorem dX12_isHeld_38 : decode cX12_isHeld 38 = .ok (.i2l, 1) := by decide +kernel
theorem dX12_isHeld_39 : decode cX12_isHeld 39 = .ok (.aload_n 0, 1) := by decide +kernel
theorem dX12_isHeld_40 : decode cX12_isHeld 40 = .ok (.iload_n 1, 1) := by decide +kernel
theorem dX12_isHeld_41 : decode cX12_isHeld 41 = .ok (.iload 4, 2) := by decide +kernel
theorem dX12_isHeld_43 : decode cX12_isHeld 43 = .ok (.iconst 2, 1) := by decide +kernel
theorem dX12_isHeld_44 : decode cX12_isHeld 44 = .ok (.iadd, 1) := by decide +kernel
theorem dX12_isHeld_45 : decode cX12_isHeld 45 = .ok (.invokevirtual 316, 3) := by decide +kernel
theorem dX12_isHeld_48 : decode cX12_isHeld 48 = .ok (.lcmp, 1) := by decide +kernel
theorem dX12_isHeld_49 : decode cX12_isHeld 49 = .ok (.ifCond .eq 5, 3) := by decide +kernel
theorem dX12_isHeld_52 : decode cX12_isHeld 52 = .ok (.iconst 0, 1) := by decide +kernel
theorem dX12_isHeld_53 : decode cX12_isHeld 53 = .ok (.ireturn, 1) := by decide +kernel
theorem dX12_isHeld_54 : decode cX12_isHeld 54 = .ok (.iinc 4 3, 3) := by decide +kernel
theorem dX12_isHeld_57 : decode cX12_isHeld 57 = .ok (.goto (-54), 3) := by decide +kernel
theorem dX12_isHeld_60 : decode cX12_isHeld 60 = .ok (.iconst 1, 1) := by decide +kernel
theorem dX12_isHeld_61 : decode cX12_isHeld 61 = .ok (.ireturn, 1) := by decide +kernel
theorem dX12_isHold_0 : decode cX12_isHold 0 = .ok (.aload_n 0, 1) := by decide +kernel
theorem dX12_isHold_1 : decode cX12_isHold 1 = .ok (.invokevirtual 74, 3) := by decide +kernel
theorem dX12_isHold_4 : decode cX12_isHold 4 = .ok (.ifCond .eq 20, 3) := by decide +kernel
theorem dX12_isHold_7 : decode cX12_isHold 7 = .ok (.iload_n 1, 1) := by decide +kernel
theorem dX12_isHold_8 : decode cX12_isHold 8 = .ok (.i2l, 1) := by decide +kernel
theorem dX12_isHold_9 : decode cX12_isHold 9 = .ok (.iload_n 2, 1) := by decide +kernel
theorem dX12_isHold_10 : decode cX12_isHold 10 = .ok (.i2l, 1) := by decide +kernel
theorem dX12_isHold_11 : decode cX12_isHold 11 = .ok (.ldc2_w 314, 3) := by decide +kernel
theorem dX12_isHold_14 : decode cX12_isHold 14 = .ok (.invokestatic 70, 3) := by decide +kernel
theorem dX12_isHold_17 : decode cX12_isHold 17 = .ok (.ifCond .eq 7, 3) := by decide +kernel
theorem dX12_isHold_20 : decode cX12_isHold 20 = .ok (.iconst 1, 1) := by decide +kernel
theorem dX12_isHold_21 : decode cX12_isHold 21 = .ok (.goto 4, 3) := by decide +kernel
theorem dX12_isHold_24 : decode cX12_isHold 24 = .ok (.iconst 0, 1) := by decide +kernel
theorem dX12_isHold_25 : decode cX12_isHold 25 = .ok (.ireturn, 1) := by decide +kernel
theorem dX12_isMan_0 : decode cX12_isMan 0 = .ok (.lload_n 1, 1) := by decide +kernel
theorem dX12_isMan_1 : decode cX12_isMan 1 = .ok (.lconst 0, 1) := by decide +kernel
theorem dX12_isMan_2 : decode cX12_isMan 2 = .ok (.aload_n 0, 1) := by decide +kernel
theorem dX12_isMan_3 : decode cX12_isMan 3 = .ok (.getfield 9, 3) := by decide +kernel
theorem dX12_isMan_6 : decode cX12_isMan 6 = .ok (.iconst 4, 1) := by decide +kernel
theorem dX12_isMan_7 : decode cX12_isMan 7 = .ok (.iaload, 1) := by decide +kernel

theorem dX11_sign_42 : decode cX11_sign 42 = .ok (.ifCond .ne 21, 3) := by decide +kernel
theorem dX11_sign_45 : decode cX11_sign 45 = .ok (.aload_n 0, 1) := by decide +kernel
theorem dX11_sign_46 : decode cX11_sign 46 = .ok (.getfield 28, 3) := by decide +kernel
theorem dX11_sign_49 : decode cX11_sign 49 = .ok (.iload_n 1, 1) := by decide +kernel
theorem dX11_sign_50 : decode cX11_sign 50 = .ok (.invokevirtual 146, 3) := by decide +kernel
theorem dX11_sign_53 : decode cX11_sign 53 = .ok (.aload_n 0, 1) := by decide +kernel
theorem dX11_sign_54 : decode cX11_sign 54 = .ok (.getfield 35, 3) := by decide +kernel
theorem dX11_sign_57 : decode cX11_sign 57 = .ok (.getfield 356, 3) := by decide +kernel
theorem dX11_sign_60 : decode cX11_sign 60 = .ok (.if_icmp .le 6, 3) := by decide +kernel
theorem dX11_sign_63 : decode cX11_sign 63 = .ok (.bipush (-5), 2) := by decide +kernel
theorem dX11_sign_65 : decode cX11_sign 65 = .ok (.ireturn, 1) := by decide +kernel
theorem dX11_sign_66 : decode cX11_sign 66 = .ok (.aload_n 0, 1) := by decide +kernel
theorem dX11_sign_67 : decode cX11_sign 67 = .ok (.getfield 35, 3) := by decide +kernel
theorem dX11_sign_70 : decode cX11_sign 70 = .ok (.iload_n 1, 1) := by decide +kernel
theorem dX11_sign_71 : decode cX11_sign 71 = .ok (.aload_n 0, 1) := by decide +kernel
theorem dX11_sign_72 : decode cX11_sign 72 = .ok (.getfield 28, 3) := by decide +kernel
theorem dX11_sign_75 : decode cX11_sign 75 = .ok (.iload_n 1, 1) := by decide +kernel
theorem dX11_sign_76 : decode cX11_sign 76 = .ok (.invokevirtual 146, 3) := by decide +kernel
theorem dX11_sign_79 : decode cX11_sign 79 = .ok (.invokevirtual 359, 3) := by decide +kernel
theorem dX11_sign_82 : decode cX11_sign 82 = .ok (.aload_n 0, 1) := by decide +kernel
theorem dX11_sign_83 : decode cX11_sign 83 = .ok (.getfield 35, 3) := by decide +kernel
theorem dX11_sign_86 : decode cX11_sign 86 = .ok (.getfield 356, 3) := by decide +kernel
theorem dX11_sign_89 : decode cX11_sign 89 = .ok (.ireturn, 1) := by decide +kernel
theorem dX11_signs_0 : decode cX11_signs 0 = .ok (.aload_n 0, 1) := by decide +kernel
theorem dX11_signs_1 : decode cX11_signs 1 = .ok (.getfield 28, 3) := by decide +kernel
theorem dX11_signs_4 : decode cX11_signs 4 = .ok (.invokevirtual 166, 3) := by decide +kernel
theorem dX11_signs_7 : decode cX11_signs 7 = .ok (.ifCond .eq 13, 3) := by decide +kernel
theorem dX11_signs_10 : decode cX11_signs 10 = .ok (.aload_n 0, 1) := by decide +kernel
theorem dX11_signs_11 : decode cX11_signs 11 = .ok (.getfield 79, 3) := by decide +kernel
theorem dX11_signs_14 : decode cX11_signs 14 = .ok (.invokevirtual 270, 3) := by decide +kernel
theorem dX11_signs_17 : decode cX11_signs 17 = .ok (.goto 5, 3) := by decide +kernel
theorem dX11_signs_20 : decode cX11_signs 20 = .ok (.bipush (-2), 2) := by decide +kernel
theorem dX11_signs_22 : decode cX11_signs 22 = .ok (.ireturn, 1) := by decide +kernel
theorem dX11_soonest_0 : decode cX11_soonest 0 = .ok (.aload_n 0, 1) := by decide +kernel
theorem dX11_soonest_1 : decode cX11_soonest 1 = .ok (.getfield 28, 3) := by decide +kernel
theorem dX11_soonest_4 : decode cX11_soonest 4 = .ok (.invokevirtual 166, 3) := by decide +kernel
theorem dX11_soonest_7 : decode cX11_soonest 7 = .ok (.ifCond .ne 6, 3) := by decide +kernel
theorem dX11_soonest_10 : decode cX11_soonest 10 = .ok (.bipush (-2), 2) := by decide +kernel
theorem dX11_soonest_12 : decode cX11_soonest 12 = .ok (.ireturn, 1) := by decide +kernel
theorem dX11_soonest_13 : decode cX11_soonest 13 = .ok (.iconst (-1), 1) := by decide +kernel
theorem dX11_soonest_14 : decode cX11_soonest 14 = .ok (.istore_n 1, 1) := by decide +kernel
theorem dX11_soonest_15 : decode cX11_soonest 15 = .ok (.sipush 10001, 3) := by decide +kernel
theorem dX11_soonest_18 : decode cX11_soonest 18 = .ok (.istore_n 2, 1) := by decide +kernel
theorem dX11_soonest_19 : decode cX11_soonest 19 = .ok (.iconst 0, 1) := by decide +kernel
theorem dX11_soonest_20 : decode cX11_soonest 20 = .ok (.istore_n 3, 1) := by decide +kernel
theorem dX11_soonest_21 : decode cX11_soonest 21 = .ok (.iload_n 3, 1) := by decide +kernel
theorem dX11_soonest_22 : decode cX11_soonest 22 = .ok (.aload_n 0, 1) := by decide +kernel
theorem dX11_soonest_23 : decode cX11_soonest 23 = .ok (.getfield 28, 3) := by decide +kernel
theorem dX11_soonest_26 : decode cX11_soonest 26 = .ok (.iconst 0, 1) := by decide +kernel
theorem dX11_soonest_27 : decode cX11_soonest 27 = .ok (.invokevirtual 160, 3) := by decide +kernel
theorem dX11_soonest_30 : decode cX11_soonest 30 = .ok (.if_icmp .ge 52, 3) := by decide +kernel
theorem dX11_soonest_33 : decode cX11_soonest 33 = .ok (.aload_n 0, 1) := by decide +kernel
theorem dX11_soonest_34 : decode cX11_soonest 34 = .ok (.getfield 58, 3) := by decide +kernel
theorem dX11_soonest_37 : decode cX11_soonest 37 = .ok (.iload_n 3, 1) := by decide +kernel
theorem dX11_soonest_38 : decode cX11_soonest 38 = .ok (.aload_n 0, 1) := by decide +kernel
theorem dX11_soonest_39 : decode cX11_soonest 39 = .ok (.getfield 35, 3) := by decide +kernel
theorem dX11_soonest_42 : decode cX11_soonest 42 = .ok (.iconst 1, 1) := by decide +kernel
theorem dX11_soonest_43 : decode cX11_soonest 43 = .ok (.invokevirtual 156, 3) := by decide +kernel
theorem dX11_soonest_46 : decode cX11_soonest 46 = .ok (.invokevirtual 182, 3) := by decide +kernel
theorem dX11_soonest_49 : decode cX11_soonest 49 = .ok (.aload_n 0, 1) := by decide +kernel
theorem dX11_soonest_50 : decode cX11_soonest 50 = .ok (.getfield 58, 3) := by decide +kernel
theorem dX11_soonest_53 : decode cX11_soonest 53 = .ok (.iconst 0, 1) := by decide +kernel
theorem dX11_soonest_54 : decode cX11_soonest 54 = .ok (.invokevirtual 173, 3) := by decide +kernel
theorem dX11_soonest_57 : decode cX11_soonest 57 = .ok (.istore 4, 2) := by decide +kernel
theorem dX11_soonest_59 : decode cX11_soonest 59 = .ok (.iload 4, 2) := by decide +kernel
theorem dX11_soonest_61 : decode cX11_soonest 61 = .ok (.iconst (-1), 1) := by decide +kernel
theorem dX11_soonest_62 : decode cX11_soonest 62 = .ok (.if_icmp .eq 14, 3) := by decide +kernel
theorem dX11_soonest_65 : decode cX11_soonest 65 = .ok (.iload 4, 2) := by decide +kernel
theorem dX11_soonest_67 : decode cX11_soonest 67 = .ok (.iload_n 2, 1) := by decide +kernel
theorem dX11_soonest_68 : decode cX11_soonest 68 = .ok (.if_icmp .ge 8, 3) := by decide +kernel
theorem dX11_soonest_71 : decode cX11_soonest 71 = .ok (.iload_n 3, 1) := by decide +kernel
theorem dX11_soonest_72 : decode cX11_soonest 72 = .ok (.istore_n 1, 1) := by decide +kernel
theorem dX11_soonest_73 : decode cX11_soonest 73 = .ok (.iload 4, 2) := by decide +kernel
theorem dX11_soonest_75 : decode cX11_soonest 75 = .ok (.istore_n 2, 1) := by decide +kernel
theorem dX11_soonest_76 : decode cX11_soonest 76 = .ok (.iinc 3 1, 3) := by decide +kernel
theorem dX11_soonest_79 : decode cX11_soonest 79 = .ok (.goto (-58), 3) := by decide +kernel
theorem dX11_soonest_82 : decode cX11_soonest 82 = .ok (.iload_n 1, 1) := by decide +kernel
theorem dX11_soonest_83 : decode cX11_soonest 83 = .ok (.ireturn, 1) := by decide +kernel
theorem dX11_spare_0 : decode cX11_spare 0 = .ok (.aload_n 0, 1) := by decide +kernel
theorem dX11_spare_1 : decode cX11_spare 1 = .ok (.getfield 28, 3) := by decide +kernel
theorem dX11_spare_4 : decode cX11_spare 4 = .ok (.iload_n 1, 1) := by decide +kernel
theorem dX11_spare_5 : decode cX11_spare 5 = .ok (.iload_n 2, 1) := by decide +kernel
theorem dX11_spare_6 : decode cX11_spare 6 = .ok (.invokevirtual 199, 3) := by decide +kernel
theorem dX11_spare_9 : decode cX11_spare 9 = .ok (.istore_n 3, 1) := by decide +kernel
theorem dX11_spare_10 : decode cX11_spare 10 = .ok (.iload_n 3, 1) := by decide +kernel
theorem dX11_spare_11 : decode cX11_spare 11 = .ok (.ifCond .ge 5, 3) := by decide +kernel
theorem dX11_spare_14 : decode cX11_spare 14 = .ok (.iload_n 3, 1) := by decide +kernel
theorem dX11_spare_15 : decode cX11_spare 15 = .ok (.ireturn, 1) := by decide +kernel
theorem dX11_spare_16 : decode cX11_spare 16 = .ok (.aload_n 0, 1) := by decide +kernel
theorem dX11_spare_17 : decode cX11_spare 17 = .ok (.getfield 28, 3) := by decide +kernel
theorem dX11_spare_20 : decode cX11_spare 20 = .ok (.iload_n 1, 1) := by decide +kernel
theorem dX11_spare_21 : decode cX11_spare 21 = .ok (.iload_n 2, 1) := by decide +kernel
theorem dX11_spare_22 : decode cX11_spare 22 = .ok (.aload_n 0, 1) := by decide +kernel
theorem dX11_spare_23 : decode cX11_spare 23 = .ok (.getfield 28, 3) := by decide +kernel
theorem dX11_spare_26 : decode cX11_spare 26 = .ok (.getfield 220, 3) := by decide +kernel
theorem dX11_spare_29 : decode cX11_spare 29 = .ok (.invokevirtual 223, 3) := by decide +kernel
theorem dX11_spare_32 : decode cX11_spare 32 = .ok (.istore 4, 2) := by decide +kernel
theorem dX11_spare_34 : decode cX11_spare 34 = .ok (.iconst 0, 1) := by decide +kernel
theorem dX11_spare_35 : decode cX11_spare 35 = .ok (.istore 5, 2) := by decide +kernel
theorem dX11_spare_37 : decode cX11_spare 37 = .ok (.iload 5, 2) := by decide +kernel
theorem dX11_spare_39 : decode cX11_spare 39 = .ok (.aload_n 0, 1) := by decide +kernel
theorem dX11_spare_40 : decode cX11_spare 40 = .ok (.getfield 28, 3) := by decide +kernel
theorem dX11_spare_43 : decode cX11_spare 43 = .ok (.getfield 220, 3) := by decide +kernel
theorem dX11_spare_46 : decode cX11_spare 46 = .ok (.if_icmp .ge 28, 3) := by decide +kernel
theorem dX11_spare_49 : decode cX11_spare 49 = .ok (.aload_n 0, 1) := by decide +kernel
theorem dX11_spare_50 : decode cX11_spare 50 = .ok (.getfield 28, 3) := by decide +kernel
theorem dX11_spare_53 : decode cX11_spare 53 = .ok (.iload_n 1, 1) := by decide +kernel
theorem dX11_spare_54 : decode cX11_spare 54 = .ok (.iload_n 2, 1) := by decide +kernel
theorem dX11_spare_55 : decode cX11_spare 55 = .ok (.iload 5, 2) := by decide +kernel
theorem dX11_spare_57 : decode cX11_spare 57 = .ok (.invokevirtual 223, 3) := by decide +kernel
theorem dX11_spare_60 : decode cX11_spare 60 = .ok (.iload 4, 2) := by decide +kernel
theorem dX11_spare_62 : decode cX11_spare 62 = .ok (.if_icmp .ne 6, 3) := by decide +kernel
theorem dX11_spare_65 : decode cX11_spare 65 = .ok (.iload 5, 2) := by decide +kernel
theorem dX11_spare_67 : decode cX11_spare 67 = .ok (.ireturn, 1) := by decide +kernel
theorem dX11_spare_68 : decode cX11_spare 68 = .ok (.iinc 5 1, 3) := by decide +kernel
theorem dX11_spare_71 : decode cX11_spare 71 = .ok (.goto (-34), 3) := by decide +kernel
theorem dX11_spare_74 : decode cX11_spare 74 = .ok (.aload_n 0, 1) := by decide +kernel
theorem dX11_spare_75 : decode cX11_spare 75 = .ok (.getfield 28, 3) := by decide +kernel
theorem dX11_spare_78 : decode cX11_spare 78 = .ok (.getfield 220, 3) := by decide +kernel
theorem dX11_spare_81 : decode cX11_spare 81 = .ok (.ireturn, 1) := by decide +kernel
theorem dX11_stands_0 : decode cX11_stands 0 = .ok (.aload_n 0, 1) := by decide +kernel
theorem dX11_stands_1 : decode cX11_stands 1 = .ok (.getfield 28, 3) := by decide +kernel
theorem dX11_stands_4 : decode cX11_stands 4 = .ok (.invokevirtual 166, 3) := by decide +kernel
theorem dX11_stands_7 : decode cX11_stands 7 = .ok (.ifCond .ne 6, 3) := by decide +kernel
theorem dX11_stands_10 : decode cX11_stands 10 = .ok (.bipush (-2), 2) := by decide +kernel
theorem dX11_stands_12 : decode cX11_stands 12 = .ok (.ireturn, 1) := by decide +kernel
theorem dX11_stands_13 : decode cX11_stands 13 = .ok (.iconst 0, 1) := by decide +kernel
theorem dX11_stands_14 : decode cX11_stands 14 = .ok (.istore_n 1, 1) := by decide +kernel
theorem dX11_stands_15 : decode cX11_stands 15 = .ok (.iconst 0, 1) := by decide +kernel
theorem dX11_stands_16 : decode cX11_stands 16 = .ok (.istore_n 2, 1) := by decide +kernel
theorem dX11_stands_17 : decode cX11_stands 17 = .ok (.iload_n 2, 1) := by decide +kernel
theorem dX11_stands_18 : decode cX11_stands 18 = .ok (.aload_n 0, 1) := by decide +kernel
theorem dX11_stands_19 : decode cX11_stands 19 = .ok (.getfield 28, 3) := by decide +kernel
theorem dX11_stands_22 : decode cX11_stands 22 = .ok (.getfield 279, 3) := by decide +kernel
theorem dX11_stands_25 : decode cX11_stands 25 = .ok (.if_icmp .ge 23, 3) := by decide +kernel
theorem dX11_stands_28 : decode cX11_stands 28 = .ok (.aload_n 0, 1) := by decide +kernel
theorem dX11_stands_29 : decode cX11_stands 29 = .ok (.iload_n 2, 1) := by decide +kernel
theorem dX11_stands_30 : decode cX11_stands 30 = .ok (.invokevirtual 297, 3) := by decide +kernel
theorem dX11_stands_33 : decode cX11_stands 33 = .ok (.ifCond .eq 9, 3) := by decide +kernel
theorem dX11_stands_36 : decode cX11_stands 36 = .ok (.iload_n 1, 1) := by decide +kernel
theorem dX11_stands_37 : decode cX11_stands 37 = .ok (.iconst 1, 1) := by decide +kernel
theorem dX11_stands_38 : decode cX11_stands 38 = .ok (.iload_n 2, 1) := by decide +kernel
theorem dX11_stands_39 : decode cX11_stands 39 = .ok (.ishl, 1) := by decide +kernel
theorem dX11_stands_40 : decode cX11_stands 40 = .ok (.ior, 1) := by decide +kernel
theorem dX11_stands_41 : decode cX11_stands 41 = .ok (.istore_n 1, 1) := by decide +kernel
theorem dX11_stands_42 : decode cX11_stands 42 = .ok (.iinc 2 1, 3) := by decide +kernel
theorem dX11_stands_45 : decode cX11_stands 45 = .ok (.goto (-28), 3) := by decide +kernel
theorem dX11_stands_48 : decode cX11_stands 48 = .ok (.iload_n 1, 1) := by decide +kernel
theorem dX11_stands_49 : decode cX11_stands 49 = .ok (.ireturn, 1) := by decide +kernel
theorem dX11_start_0 : decode cX11_start 0 = .ok (.aload_n 0, 1) := by decide +kernel
theorem dX11_start_1 : decode cX11_start 1 = .ok (.getfield 28, 3) := by decide +kernel
theorem dX11_start_4 : decode cX11_start 4 = .ok (.iload_n 1, 1) := by decide +kernel
theorem dX11_start_5 : decode cX11_start 5 = .ok (.invokevirtual 153, 3) := by decide +kernel
theorem dX11_start_8 : decode cX11_start 8 = .ok (.ifCond .eq 14, 3) := by decide +kernel
theorem dX11_start_11 : decode cX11_start 11 = .ok (.aload_n 0, 1) := by decide +kernel
theorem dX11_start_12 : decode cX11_start 12 = .ok (.getfield 35, 3) := by decide +kernel
theorem dX11_start_15 : decode cX11_start 15 = .ok (.iload_n 1, 1) := by decide +kernel
theorem dX11_start_16 : decode cX11_start 16 = .ok (.invokevirtual 156, 3) := by decide +kernel
theorem dX11_start_19 : decode cX11_start 19 = .ok (.goto 5, 3) := by decide +kernel
theorem dX11_start_22 : decode cX11_start 22 = .ok (.bipush (-2), 2) := by decide +kernel
theorem dX11_start_24 : decode cX11_start 24 = .ok (.ireturn, 1) := by decide +kernel
theorem dX11_strong_0 : decode cX11_strong 0 = .ok (.aload_n 0, 1) := by decide +kernel
theorem dX11_strong_1 : decode cX11_strong 1 = .ok (.getfield 28, 3) := by decide +kernel
theorem dX11_strong_4 : decode cX11_strong 4 = .ok (.iload_n 1, 1) := by decide +kernel
theorem dX11_strong_5 : decode cX11_strong 5 = .ok (.invokevirtual 153, 3) := by decide +kernel
theorem dX11_strong_8 : decode cX11_strong 8 = .ok (.ifCond .ne 6, 3) := by decide +kernel
theorem dX11_strong_11 : decode cX11_strong 11 = .ok (.bipush (-2), 2) := by decide +kernel
theorem dX11_strong_13 : decode cX11_strong 13 = .ok (.ireturn, 1) := by decide +kernel
theorem dX11_strong_14 : decode cX11_strong 14 = .ok (.iconst (-1), 1) := by decide +kernel
theorem dX11_strong_15 : decode cX11_strong 15 = .ok (.istore_n 2, 1) := by decide +kernel
theorem dX11_strong_16 : decode cX11_strong 16 = .ok (.iconst 0, 1) := by decide +kernel
theorem dX11_strong_17 : decode cX11_strong 17 = .ok (.istore_n 3, 1) := by decide +kernel
theorem dX11_strong_18 : decode cX11_strong 18 = .ok (.iconst 0, 1) := by decide +kernel
theorem dX11_strong_19 : decode cX11_strong 19 = .ok (.istore 4, 2) := by decide +kernel
theorem dX11_strong_21 : decode cX11_strong 21 = .ok (.iload 4, 2) := by decide +kernel
theorem dX11_strong_23 : decode cX11_strong 23 = .ok (.aload_n 0, 1) := by decide +kernel
theorem dX11_strong_24 : decode cX11_strong 24 = .ok (.getfield 28, 3) := by decide +kernel
theorem dX11_strong_27 : decode cX11_strong 27 = .ok (.getfield 202, 3) := by decide +kernel
theorem dX11_strong_30 : decode cX11_strong 30 = .ok (.if_icmp .ge 48, 3) := by decide +kernel
theorem dX11_strong_33 : decode cX11_strong 33 = .ok (.aload_n 0, 1) := by decide +kernel
theorem dX11_strong_34 : decode cX11_strong 34 = .ok (.getfield 28, 3) := by decide +kernel
theorem dX11_strong_37 : decode cX11_strong 37 = .ok (.iload 4, 2) := by decide +kernel
theorem dX11_strong_39 : decode cX11_strong 39 = .ok (.invokevirtual 133, 3) := by decide +kernel
theorem dX11_strong_42 : decode cX11_strong 42 = .ok (.iload_n 1, 1) := by decide +kernel
theorem dX11_strong_43 : decode cX11_strong 43 = .ok (.if_icmp .ne 29, 3) := by decide +kernel
theorem dX11_strong_46 : decode cX11_strong 46 = .ok (.aload_n 0, 1) := by decide +kernel
theorem dX11_strong_47 : decode cX11_strong 47 = .ok (.getfield 28, 3) := by decide +kernel
theorem dX11_strong_50 : decode cX11_strong 50 = .ok (.iload 4, 2) := by decide +kernel
theorem dX11_strong_52 : decode cX11_strong 52 = .ok (.invokevirtual 137, 3) := by decide +kernel
theorem dX11_strong_55 : decode cX11_strong 55 = .ok (.iload_n 3, 1) := by decide +kernel
theorem dX11_strong_56 : decode cX11_strong 56 = .ok (.if_icmp .le 16, 3) := by decide +kernel
theorem dX11_strong_59 : decode cX11_strong 59 = .ok (.iload 4, 2) := by decide +kernel
theorem dX11_strong_61 : decode cX11_strong 61 = .ok (.istore_n 2, 1) := by decide +kernel
theorem dX11_strong_62 : decode cX11_strong 62 = .ok (.aload_n 0, 1) := by decide +kernel
theorem dX11_strong_63 : decode cX11_strong 63 = .ok (.getfield 28, 3) := by decide +kernel
theorem dX11_strong_66 : decode cX11_strong 66 = .ok (.iload 4, 2) := by decide +kernel
theorem dX11_strong_68 : decode cX11_strong 68 = .ok (.invokevirtual 137, 3) := by decide +kernel
theorem dX11_strong_71 : decode cX11_strong 71 = .ok (.istore_n 3, 1) := by decide +kernel
theorem dX11_strong_72 : decode cX11_strong 72 = .ok (.iinc 4 1, 3) := by decide +kernel
theorem dX11_strong_75 : decode cX11_strong 75 = .ok (.goto (-54), 3) := by decide +kernel
theorem dX11_strong_78 : decode cX11_strong 78 = .ok (.iload_n 2, 1) := by decide +kernel
theorem dX11_strong_79 : decode cX11_strong 79 = .ok (.ireturn, 1) := by decide +kernel
theorem dX11_sure_0 : decode cX11_sure 0 = .ok (.iload_n 3, 1) := by decide +kernel
theorem dX11_sure_1 : decode cX11_sure 1 = .ok (.iconst 0, 1) := by decide +kernel
theorem dX11_sure_2 : decode cX11_sure 2 = .ok (.bipush 100, 2) := by decide +kernel
theorem dX11_sure_4 : decode cX11_sure 4 = .ok (.invokestatic 104, 3) := by decide +kernel
theorem dX11_sure_7 : decode cX11_sure 7 = .ok (.ifCond .ne 6, 3) := by decide +kernel
theorem dX11_sure_10 : decode cX11_sure 10 = .ok (.bipush (-2), 2) := by decide +kernel
theorem dX11_sure_12 : decode cX11_sure 12 = .ok (.ireturn, 1) := by decide +kernel
theorem dX11_sure_13 : decode cX11_sure 13 = .ok (.aload_n 0, 1) := by decide +kernel
theorem dX11_sure_14 : decode cX11_sure 14 = .ok (.getfield 28, 3) := by decide +kernel
theorem dX11_sure_17 : decode cX11_sure 17 = .ok (.iload_n 1, 1) := by decide +kernel
theorem dX11_sure_18 : decode cX11_sure 18 = .ok (.iload_n 2, 1) := by decide +kernel
theorem dX11_sure_19 : decode cX11_sure 19 = .ok (.invokevirtual 199, 3) := by decide +kernel
theorem dX11_sure_22 : decode cX11_sure 22 = .ok (.istore 4, 2) := by decide +kernel
theorem dX11_sure_24 : decode cX11_sure 24 = .ok (.iload 4, 2) := by decide +kernel
theorem dX11_sure_26 : decode cX11_sure 26 = .ok (.ifCond .ge 6, 3) := by decide +kernel
theorem dX11_sure_29 : decode cX11_sure 29 = .ok (.iload 4, 2) := by decide +kernel
theorem dX11_sure_31 : decode cX11_sure 31 = .ok (.ireturn, 1) := by decide +kernel
theorem dX11_sure_32 : decode cX11_sure 32 = .ok (.iconst 0, 1) := by decide +kernel
theorem dX11_sure_33 : decode cX11_sure 33 = .ok (.istore 5, 2) := by decide +kernel
theorem dX11_sure_35 : decode cX11_sure 35 = .ok (.iconst 1, 1) := by decide +kernel
theorem dX11_sure_36 : decode cX11_sure 36 = .ok (.istore 6, 2) := by decide +kernel
theorem dX11_sure_38 : decode cX11_sure 38 = .ok (.iload 6, 2) := by decide +kernel
theorem dX11_sure_40 : decode cX11_sure 40 = .ok (.bipush 18, 2) := by decide +kernel
theorem dX11_sure_42 : decode cX11_sure 42 = .ok (.iload 4, 2) := by decide +kernel
theorem dX11_sure_44 : decode cX11_sure 44 = .ok (.invokestatic 330, 3) := by decide +kernel
theorem dX11_sure_47 : decode cX11_sure 47 = .ok (.if_icmp .gt 23, 3) := by decide +kernel
theorem dX11_sure_50 : decode cX11_sure 50 = .ok (.aload_n 0, 1) := by decide +kernel
theorem dX11_sure_51 : decode cX11_sure 51 = .ok (.iload 6, 2) := by decide +kernel
theorem dX11_sure_53 : decode cX11_sure 53 = .ok (.iload_n 3, 1) := by decide +kernel
theorem dX11_sure_54 : decode cX11_sure 54 = .ok (.invokevirtual 335, 3) := by decide +kernel
theorem dX11_sure_57 : decode cX11_sure 57 = .ok (.ifCond .eq 7, 3) := by decide +kernel
theorem dX11_sure_60 : decode cX11_sure 60 = .ok (.iload 6, 2) := by decide +kernel
theorem dX11_sure_62 : decode cX11_sure 62 = .ok (.istore 5, 2) := by decide +kernel
theorem dX11_sure_64 : decode cX11_sure 64 = .ok (.iinc 6 1, 3) := by decide +kernel
theorem dX11_sure_67 : decode cX11_sure 67 = .ok (.goto (-29), 3) := by decide +kernel
theorem dX11_sure_70 : decode cX11_sure 70 = .ok (.iload 5, 2) := by decide +kernel
theorem dX11_sure_72 : decode cX11_sure 72 = .ok (.ireturn, 1) := by decide +kernel
theorem dX11_swing_0 : decode cX11_swing 0 = .ok (.aload_n 0, 1) := by decide +kernel
theorem dX11_swing_1 : decode cX11_swing 1 = .ok (.getfield 28, 3) := by decide +kernel
theorem dX11_swing_4 : decode cX11_swing 4 = .ok (.iload_n 1, 1) := by decide +kernel
theorem dX11_swing_5 : decode cX11_swing 5 = .ok (.iload_n 2, 1) := by decide +kernel
theorem dX11_swing_6 : decode cX11_swing 6 = .ok (.invokevirtual 199, 3) := by decide +kernel
theorem dX11_swing_9 : decode cX11_swing 9 = .ok (.istore_n 3, 1) := by decide +kernel
theorem dX11_swing_10 : decode cX11_swing 10 = .ok (.iload_n 3, 1) := by decide +kernel
theorem dX11_swing_11 : decode cX11_swing 11 = .ok (.ifCond .ge 6, 3) := by decide +kernel
theorem dX11_swing_14 : decode cX11_swing 14 = .ok (.bipush (-2), 2) := by decide +kernel
theorem dX11_swing_16 : decode cX11_swing 16 = .ok (.ireturn, 1) := by decide +kernel
theorem dX11_swing_17 : decode cX11_swing 17 = .ok (.aload_n 0, 1) := by decide +kernel
theorem dX11_swing_18 : decode cX11_swing 18 = .ok (.getfield 35, 3) := by decide +kernel
theorem dX11_swing_21 : decode cX11_swing 21 = .ok (.invokevirtual 338, 3) := by decide +kernel
theorem dX11_swing_24 : decode cX11_swing 24 = .ok (.ifCond .ne 13, 3) := by decide +kernel
theorem dX11_swing_27 : decode cX11_swing 27 = .ok (.aload_n 0, 1) := by decide +kernel
theorem dX11_swing_28 : decode cX11_swing 28 = .ok (.getfield 35, 3) := by decide +kernel
theorem dX11_swing_31 : decode cX11_swing 31 = .ok (.invokevirtual 341, 3) := by decide +kernel
theorem dX11_swing_34 : decode cX11_swing 34 = .ok (.ifCond .eq 6, 3) := by decide +kernel
theorem dX11_swing_37 : decode cX11_swing 37 = .ok (.bipush (-5), 2) := by decide +kernel
theorem dX11_swing_39 : decode cX11_swing 39 = .ok (.ireturn, 1) := by decide +kernel
theorem dX11_swing_40 : decode cX11_swing 40 = .ok (.aload_n 0, 1) := by decide +kernel
theorem dX11_swing_41 : decode cX11_swing 41 = .ok (.invokevirtual 169, 3) := by decide +kernel
theorem dX11_swing_44 : decode cX11_swing 44 = .ok (.aload_n 0, 1) := by decide +kernel
theorem dX11_swing_45 : decode cX11_swing 45 = .ok (.getfield 35, 3) := by decide +kernel
theorem dX11_swing_48 : decode cX11_swing 48 = .ok (.getfield 347, 3) := by decide +kernel
theorem dX11_swing_51 : decode cX11_swing 51 = .ok (.iconst 1, 1) := by decide +kernel
theorem dX11_swing_52 : decode cX11_swing 52 = .ok (.iadd, 1) := by decide +kernel
theorem dX11_swing_53 : decode cX11_swing 53 = .ok (.invokevirtual 173, 3) := by decide +kernel
theorem dX11_swing_56 : decode cX11_swing 56 = .ok (.istore 4, 2) := by decide +kernel
theorem dX11_swing_58 : decode cX11_swing 58 = .ok (.iload 4, 2) := by decide +kernel
theorem dX11_swing_60 : decode cX11_swing 60 = .ok (.iconst (-1), 1) := by decide +kernel
theorem dX11_swing_61 : decode cX11_swing 61 = .ok (.if_icmp .ne 6, 3) := by decide +kernel
theorem dX11_swing_64 : decode cX11_swing 64 = .ok (.bipush (-5), 2) := by decide +kernel
theorem dX11_swing_66 : decode cX11_swing 66 = .ok (.ireturn, 1) := by decide +kernel
theorem dX11_swing_67 : decode cX11_swing 67 = .ok (.aload_n 0, 1) := by decide +kernel
theorem dX11_swing_68 : decode cX11_swing 68 = .ok (.getfield 35, 3) := by decide +kernel
theorem dX11_swing_71 : decode cX11_swing 71 = .ok (.iload 4, 2) := by decide +kernel
theorem dX11_swing_73 : decode cX11_swing 73 = .ok (.iload_n 3, 1) := by decide +kernel
theorem dX11_swing_74 : decode cX11_swing 74 = .ok (.invokevirtual 350, 3) := by decide +kernel
theorem dX11_swing_77 : decode cX11_swing 77 = .ok (.iload 4, 2) := by decide +kernel
theorem dX11_swing_79 : decode cX11_swing 79 = .ok (.ireturn, 1) := by decide +kernel
theorem dX11_tired_0 : decode cX11_tired 0 = .ok (.aload_n 0, 1) := by decide +kernel
theorem dX11_tired_1 : decode cX11_tired 1 = .ok (.iload_n 1, 1) := by decide +kernel
theorem dX11_tired_2 : decode cX11_tired 2 = .ok (.invokevirtual 300, 3) := by decide +kernel
theorem dX11_tired_5 : decode cX11_tired 5 = .ok (.istore_n 2, 1) := by decide +kernel
theorem dX11_tired_6 : decode cX11_tired 6 = .ok (.iload_n 2, 1) := by decide +kernel
theorem dX11_tired_7 : decode cX11_tired 7 = .ok (.ifCond .eq 5, 3) := by decide +kernel
theorem dX11_tired_10 : decode cX11_tired 10 = .ok (.iload_n 2, 1) := by decide +kernel
theorem dX11_tired_11 : decode cX11_tired 11 = .ok (.ireturn, 1) := by decide +kernel
theorem dX11_tired_12 : decode cX11_tired 12 = .ok (.aload_n 0, 1) := by decide +kernel
theorem dX11_tired_13 : decode cX11_tired 13 = .ok (.getfield 88, 3) := by decide +kernel
theorem dX11_tired_16 : decode cX11_tired 16 = .ok (.iload_n 1, 1) := by decide +kernel
theorem dX11_tired_17 : decode cX11_tired 17 = .ok (.invokevirtual 303, 3) := by decide +kernel
theorem dX11_tired_20 : decode cX11_tired 20 = .ok (.iconst 0, 1) := by decide +kernel
theorem dX11_tired_21 : decode cX11_tired 21 = .ok (.istore_n 3, 1) := by decide +kernel
theorem dX11_tired_22 : decode cX11_tired 22 = .ok (.iconst 0, 1) := by decide +kernel
theorem dX11_tired_23 : decode cX11_tired 23 = .ok (.istore 4, 2) := by decide +kernel
theorem dX11_tired_25 : decode cX11_tired 25 = .ok (.iload 4, 2) := by decide +kernel
theorem dX11_tired_27 : decode cX11_tired 27 = .ok (.aload_n 0, 1) := by decide +kernel
theorem dX11_tired_28 : decode cX11_tired 28 = .ok (.getfield 28, 3) := by decide +kernel
theorem dX11_tired_31 : decode cX11_tired 31 = .ok (.getfield 202, 3) := by decide +kernel
theorem dX11_tired_34 : decode cX11_tired 34 = .ok (.if_icmp .ge 29, 3) := by decide +kernel
theorem dX11_tired_37 : decode cX11_tired 37 = .ok (.aload_n 0, 1) := by decide +kernel
theorem dX11_tired_38 : decode cX11_tired 38 = .ok (.getfield 88, 3) := by decide +kernel
theorem dX11_tired_41 : decode cX11_tired 41 = .ok (.iload 4, 2) := by decide +kernel
theorem dX11_tired_43 : decode cX11_tired 43 = .ok (.invokevirtual 309, 3) := by decide +kernel
theorem dX11_tired_46 : decode cX11_tired 46 = .ok (.iconst (-1), 1) := by decide +kernel
theorem dX11_tired_47 : decode cX11_tired 47 = .ok (.if_icmp .eq 10, 3) := by decide +kernel
theorem dX11_tired_50 : decode cX11_tired 50 = .ok (.iload_n 3, 1) := by decide +kernel
theorem dX11_tired_51 : decode cX11_tired 51 = .ok (.iconst 1, 1) := by decide +kernel
theorem dX11_tired_52 : decode cX11_tired 52 = .ok (.iload 4, 2) := by decide +kernel
theorem dX11_tired_54 : decode cX11_tired 54 = .ok (.ishl, 1) := by decide +kernel
theorem dX11_tired_55 : decode cX11_tired 55 = .ok (.ior, 1) := by decide +kernel
theorem dX11_tired_56 : decode cX11_tired 56 = .ok (.istore_n 3, 1) := by decide +kernel
theorem dX11_tired_57 : decode cX11_tired 57 = .ok (.iinc 4 1, 3) := by decide +kernel
theorem dX11_tired_60 : decode cX11_tired 60 = .ok (.goto (-35), 3) := by decide +kernel
theorem dX11_tired_63 : decode cX11_tired 63 = .ok (.iload_n 3, 1) := by decide +kernel
theorem dX11_tired_64 : decode cX11_tired 64 = .ok (.ireturn, 1) := by decide +kernel
theorem dX11_toldRefusal_0 : decode cX11_toldRefusal 0 = .ok (.aload_n 0, 1) := by decide +kernel
theorem dX11_toldRefusal_1 : decode cX11_toldRefusal 1 = .ok (.getfield 28, 3) := by decide +kernel
theorem dX11_toldRefusal_4 : decode cX11_toldRefusal 4 = .ok (.invokevirtual 166, 3) := by decide +kernel
theorem dX11_toldRefusal_7 : decode cX11_toldRefusal 7 = .ok (.ifCond .eq 14, 3) := by decide +kernel
theorem dX11_toldRefusal_10 : decode cX11_toldRefusal 10 = .ok (.aload_n 0, 1) := by decide +kernel
theorem dX11_toldRefusal_11 : decode cX11_toldRefusal 11 = .ok (.getfield 49, 3) := by decide +kernel
theorem dX11_toldRefusal_14 : decode cX11_toldRefusal 14 = .ok (.iload_n 1, 1) := by decide +kernel
theorem dX11_toldRefusal_15 : decode cX11_toldRefusal 15 = .ok (.invokevirtual 398, 3) := by decide +kernel
theorem dX11_toldRefusal_18 : decode cX11_toldRefusal 18 = .ok (.ifCond .ne 6, 3) := by decide +kernel
theorem dX11_toldRefusal_21 : decode cX11_toldRefusal 21 = .ok (.bipush (-2), 2) := by decide +kernel
theorem dX11_toldRefusal_23 : decode cX11_toldRefusal 23 = .ok (.ireturn, 1) := by decide +kernel
theorem dX11_toldRefusal_24 : decode cX11_toldRefusal 24 = .ok (.aload_n 0, 1) := by decide +kernel
theorem dX11_toldRefusal_25 : decode cX11_toldRefusal 25 = .ok (.getfield 49, 3) := by decide +kernel
theorem dX11_toldRefusal_28 : decode cX11_toldRefusal 28 = .ok (.iload_n 1, 1) := by decide +kernel
theorem dX11_toldRefusal_29 : decode cX11_toldRefusal 29 = .ok (.invokevirtual 405, 3) := by decide +kernel
theorem dX11_toldRefusal_32 : decode cX11_toldRefusal 32 = .ok (.ifCond .eq 6, 3) := by decide +kernel
theorem dX11_toldRefusal_35 : decode cX11_toldRefusal 35 = .ok (.bipush (-6), 2) := by decide +kernel
theorem dX11_toldRefusal_37 : decode cX11_toldRefusal 37 = .ok (.ireturn, 1) := by decide +kernel
theorem dX11_toldRefusal_38 : decode cX11_toldRefusal 38 = .ok (.aload_n 0, 1) := by decide +kernel
theorem dX11_toldRefusal_39 : decode cX11_toldRefusal 39 = .ok (.getfield 88, 3) := by decide +kernel
theorem dX11_toldRefusal_42 : decode cX11_toldRefusal 42 = .ok (.iload_n 1, 1) := by decide +kernel
theorem dX11_toldRefusal_43 : decode cX11_toldRefusal 43 = .ok (.invokevirtual 429, 3) := by decide +kernel
theorem dX11_toldRefusal_46 : decode cX11_toldRefusal 46 = .ok (.ifCond .eq 7, 3) := by decide +kernel
theorem dX11_toldRefusal_49 : decode cX11_toldRefusal 49 = .ok (.iconst 0, 1) := by decide +kernel
theorem dX11_toldRefusal_50 : decode cX11_toldRefusal 50 = .ok (.goto 5, 3) := by decide +kernel
theorem dX11_toldRefusal_53 : decode cX11_toldRefusal 53 = .ok (.bipush (-2), 2) := by decide +kernel
theorem dX11_toldRefusal_55 : decode cX11_toldRefusal 55 = .ok (.ireturn, 1) := by decide +kernel
theorem dX11_undo_0 : decode cX11_undo 0 = .ok (.aload_n 0, 1) := by decide +kernel
theorem dX11_undo_1 : decode cX11_undo 1 = .ok (.getfield 28, 3) := by decide +kernel
theorem dX11_undo_4 : decode cX11_undo 4 = .ok (.invokevirtual 166, 3) := by decide +kernel
theorem dX11_undo_7 : decode cX11_undo 7 = .ok (.ifCond .ne 6, 3) := by decide +kernel
theorem dX11_undo_10 : decode cX11_undo 10 = .ok (.bipush (-2), 2) := by decide +kernel
theorem dX11_undo_12 : decode cX11_undo 12 = .ok (.ireturn, 1) := by decide +kernel
theorem dX11_undo_13 : decode cX11_undo 13 = .ok (.aload_n 0, 1) := by decide +kernel
theorem dX11_undo_14 : decode cX11_undo 14 = .ok (.getfield 35, 3) := by decide +kernel
theorem dX11_undo_17 : decode cX11_undo 17 = .ok (.getfield 371, 3) := by decide +kernel
theorem dX11_undo_20 : decode cX11_undo 20 = .ok (.iconst 1, 1) := by decide +kernel
theorem dX11_undo_21 : decode cX11_undo 21 = .ok (.if_icmp .ge 6, 3) := by decide +kernel
theorem dX11_undo_24 : decode cX11_undo 24 = .ok (.bipush (-5), 2) := by decide +kernel
theorem dX11_undo_26 : decode cX11_undo 26 = .ok (.ireturn, 1) := by decide +kernel
theorem dX11_undo_27 : decode cX11_undo 27 = .ok (.aload_n 0, 1) := by decide +kernel
theorem dX11_undo_28 : decode cX11_undo 28 = .ok (.getfield 35, 3) := by decide +kernel
theorem dX11_undo_31 : decode cX11_undo 31 = .ok (.invokevirtual 374, 3) := by decide +kernel
theorem dX11_undo_34 : decode cX11_undo 34 = .ok (.aload_n 0, 1) := by decide +kernel
theorem dX11_undo_35 : decode cX11_undo 35 = .ok (.getfield 35, 3) := by decide +kernel
theorem dX11_undo_38 : decode cX11_undo 38 = .ok (.getfield 371, 3) := by decide +kernel
theorem dX11_undo_41 : decode cX11_undo 41 = .ok (.ireturn, 1) := by decide +kernel
theorem dX11_veto_0 : decode cX11_veto 0 = .ok (.aload_n 0, 1) := by decide +kernel
theorem dX11_veto_1 : decode cX11_veto 1 = .ok (.getfield 28, 3) := by decide +kernel
theorem dX11_veto_4 : decode cX11_veto 4 = .ok (.iload_n 1, 1) := by decide +kernel
theorem dX11_veto_5 : decode cX11_veto 5 = .ok (.invokevirtual 153, 3) := by decide +kernel
theorem dX11_veto_8 : decode cX11_veto 8 = .ok (.ifCond .ne 6, 3) := by decide +kernel
theorem dX11_veto_11 : decode cX11_veto 11 = .ok (.bipush (-2), 2) := by decide +kernel
theorem dX11_veto_13 : decode cX11_veto 13 = .ok (.ireturn, 1) := by decide +kernel
theorem dX11_veto_14 : decode cX11_veto 14 = .ok (.iconst 0, 1) := by decide +kernel
theorem dX11_veto_15 : decode cX11_veto 15 = .ok (.istore_n 2, 1) := by decide +kernel
theorem dX11_veto_16 : decode cX11_veto 16 = .ok (.iconst 0, 1) := by decide +kernel
theorem dX11_veto_17 : decode cX11_veto 17 = .ok (.istore_n 3, 1) := by decide +kernel
theorem dX11_veto_18 : decode cX11_veto 18 = .ok (.iload_n 3, 1) := by decide +kernel
theorem dX11_veto_19 : decode cX11_veto 19 = .ok (.aload_n 0, 1) := by decide +kernel
theorem dX11_veto_20 : decode cX11_veto 20 = .ok (.getfield 28, 3) := by decide +kernel
theorem dX11_veto_23 : decode cX11_veto 23 = .ok (.getfield 279, 3) := by decide +kernel
theorem dX11_veto_26 : decode cX11_veto 26 = .ok (.if_icmp .ge 27, 3) := by decide +kernel
theorem dX11_veto_29 : decode cX11_veto 29 = .ok (.aload_n 0, 1) := by decide +kernel
theorem dX11_veto_30 : decode cX11_veto 30 = .ok (.getfield 28, 3) := by decide +kernel
theorem dX11_veto_33 : decode cX11_veto 33 = .ok (.iload_n 3, 1) := by decide +kernel
theorem dX11_veto_34 : decode cX11_veto 34 = .ok (.iload_n 1, 1) := by decide +kernel
theorem dX11_veto_35 : decode cX11_veto 35 = .ok (.invokevirtual 149, 3) := by decide +kernel
theorem dX11_veto_38 : decode cX11_veto 38 = .ok (.ifCond .ge 9, 3) := by decide +kernel
theorem dX11_veto_41 : decode cX11_veto 41 = .ok (.iload_n 2, 1) := by decide +kernel
theorem dX11_veto_42 : decode cX11_veto 42 = .ok (.iconst 1, 1) := by decide +kernel
theorem dX11_veto_43 : decode cX11_veto 43 = .ok (.iload_n 3, 1) := by decide +kernel
theorem dX11_veto_44 : decode cX11_veto 44 = .ok (.ishl, 1) := by decide +kernel
theorem dX11_veto_45 : decode cX11_veto 45 = .ok (.ior, 1) := by decide +kernel
theorem dX11_veto_46 : decode cX11_veto 46 = .ok (.istore_n 2, 1) := by decide +kernel
theorem dX11_veto_47 : decode cX11_veto 47 = .ok (.iinc 3 1, 3) := by decide +kernel
theorem dX11_veto_50 : decode cX11_veto 50 = .ok (.goto (-32), 3) := by decide +kernel
theorem dX11_veto_53 : decode cX11_veto 53 = .ok (.iload_n 2, 1) := by decide +kernel
theorem dX11_veto_54 : decode cX11_veto 54 = .ok (.ireturn, 1) := by decide +kernel
theorem dX11_waits_0 : decode cX11_waits 0 = .ok (.aload_n 0, 1) := by decide +kernel
theorem dX11_waits_1 : decode cX11_waits 1 = .ok (.iload_n 1, 1) := by decide +kernel
theorem dX11_waits_2 : decode cX11_waits 2 = .ok (.iload_n 2, 1) := by decide +kernel
theorem dX11_waits_3 : decode cX11_waits 3 = .ok (.invokevirtual 227, 3) := by decide +kernel
theorem dX11_waits_6 : decode cX11_waits 6 = .ok (.istore_n 3, 1) := by decide +kernel
theorem dX11_waits_7 : decode cX11_waits 7 = .ok (.iload_n 3, 1) := by decide +kernel
theorem dX11_waits_8 : decode cX11_waits 8 = .ok (.ifCond .eq 7, 3) := by decide +kernel
theorem dX11_waits_11 : decode cX11_waits 11 = .ok (.iload_n 3, 1) := by decide +kernel
theorem dX11_waits_12 : decode cX11_waits 12 = .ok (.goto 16, 3) := by decide +kernel
theorem dX11_waits_15 : decode cX11_waits 15 = .ok (.aload_n 0, 1) := by decide +kernel
theorem dX11_waits_16 : decode cX11_waits 16 = .ok (.getfield 72, 3) := by decide +kernel
theorem dX11_waits_19 : decode cX11_waits 19 = .ok (.aload_n 0, 1) := by decide +kernel
theorem dX11_waits_20 : decode cX11_waits 20 = .ok (.getfield 49, 3) := by decide +kernel
theorem dX11_waits_23 : decode cX11_waits 23 = .ok (.iload_n 1, 1) := by decide +kernel
theorem dX11_waits_24 : decode cX11_waits 24 = .ok (.iload_n 2, 1) := by decide +kernel
theorem dX11_waits_25 : decode cX11_waits 25 = .ok (.invokevirtual 234, 3) := by decide +kernel
theorem dX11_waits_28 : decode cX11_waits 28 = .ok (.ireturn, 1) := by decide +kernel
theorem dX11_weak_0 : decode cX11_weak 0 = .ok (.aload_n 0, 1) := by decide +kernel
theorem dX11_weak_1 : decode cX11_weak 1 = .ok (.getfield 28, 3) := by decide +kernel
theorem dX11_weak_4 : decode cX11_weak 4 = .ok (.iload_n 1, 1) := by decide +kernel
theorem dX11_weak_5 : decode cX11_weak 5 = .ok (.invokevirtual 153, 3) := by decide +kernel
theorem dX11_weak_8 : decode cX11_weak 8 = .ok (.ifCond .ne 6, 3) := by decide +kernel
theorem dX11_weak_11 : decode cX11_weak 11 = .ok (.bipush (-2), 2) := by decide +kernel
theorem dX11_weak_13 : decode cX11_weak 13 = .ok (.ireturn, 1) := by decide +kernel
theorem dX11_weak_14 : decode cX11_weak 14 = .ok (.iconst (-1), 1) := by decide +kernel
theorem dX11_weak_15 : decode cX11_weak 15 = .ok (.istore_n 2, 1) := by decide +kernel
theorem dX11_weak_16 : decode cX11_weak 16 = .ok (.bipush 31, 2) := by decide +kernel
theorem dX11_weak_18 : decode cX11_weak 18 = .ok (.istore_n 3, 1) := by decide +kernel
theorem dX11_weak_19 : decode cX11_weak 19 = .ok (.iconst 0, 1) := by decide +kernel
theorem dX11_weak_20 : decode cX11_weak 20 = .ok (.istore 4, 2) := by decide +kernel
theorem dX11_weak_22 : decode cX11_weak 22 = .ok (.iload 4, 2) := by decide +kernel
theorem dX11_weak_24 : decode cX11_weak 24 = .ok (.aload_n 0, 1) := by decide +kernel
theorem dX11_weak_25 : decode cX11_weak 25 = .ok (.getfield 28, 3) := by decide +kernel
theorem dX11_weak_28 : decode cX11_weak 28 = .ok (.getfield 202, 3) := by decide +kernel
theorem dX11_weak_31 : decode cX11_weak 31 = .ok (.if_icmp .ge 48, 3) := by decide +kernel
theorem dX11_weak_34 : decode cX11_weak 34 = .ok (.aload_n 0, 1) := by decide +kernel
theorem dX11_weak_35 : decode cX11_weak 35 = .ok (.getfield 28, 3) := by decide +kernel
theorem dX11_weak_38 : decode cX11_weak 38 = .ok (.iload 4, 2) := by decide +kernel
theorem dX11_weak_40 : decode cX11_weak 40 = .ok (.invokevirtual 133, 3) := by decide +kernel
theorem dX11_weak_43 : decode cX11_weak 43 = .ok (.iload_n 1, 1) := by decide +kernel
theorem dX11_weak_44 : decode cX11_weak 44 = .ok (.if_icmp .ne 29, 3) := by decide +kernel
theorem dX11_weak_47 : decode cX11_weak 47 = .ok (.aload_n 0, 1) := by decide +kernel
theorem dX11_weak_48 : decode cX11_weak 48 = .ok (.getfield 28, 3) := by decide +kernel
theorem dX11_weak_51 : decode cX11_weak 51 = .ok (.iload 4, 2) := by decide +kernel
theorem dX11_weak_53 : decode cX11_weak 53 = .ok (.invokevirtual 137, 3) := by decide +kernel
theorem dX11_weak_56 : decode cX11_weak 56 = .ok (.iload_n 3, 1) := by decide +kernel
theorem dX11_weak_57 : decode cX11_weak 57 = .ok (.if_icmp .ge 16, 3) := by decide +kernel
theorem dX11_weak_60 : decode cX11_weak 60 = .ok (.iload 4, 2) := by decide +kernel
theorem dX11_weak_62 : decode cX11_weak 62 = .ok (.istore_n 2, 1) := by decide +kernel
theorem dX11_weak_63 : decode cX11_weak 63 = .ok (.aload_n 0, 1) := by decide +kernel
theorem dX11_weak_64 : decode cX11_weak 64 = .ok (.getfield 28, 3) := by decide +kernel
theorem dX11_weak_67 : decode cX11_weak 67 = .ok (.iload 4, 2) := by decide +kernel
theorem dX11_weak_69 : decode cX11_weak 69 = .ok (.invokevirtual 137, 3) := by decide +kernel
theorem dX11_weak_72 : decode cX11_weak 72 = .ok (.istore_n 3, 1) := by decide +kernel

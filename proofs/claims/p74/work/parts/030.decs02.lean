theorem dX10_leastLoss_12 : decode cX10_leastLoss 12 = .ok (.ireturn, 1) := by decide +kernel
theorem dX10_leastLoss_13 : decode cX10_leastLoss 13 = .ok (.iconst 1, 1) := by decide +kernel
theorem dX10_leastLoss_14 : decode cX10_leastLoss 14 = .ok (.istore_n 2, 1) := by decide +kernel
theorem dX10_leastLoss_15 : decode cX10_leastLoss 15 = .ok (.iload_n 2, 1) := by decide +kernel
theorem dX10_leastLoss_16 : decode cX10_leastLoss 16 = .ok (.bipush 30, 2) := by decide +kernel
theorem dX10_leastLoss_18 : decode cX10_leastLoss 18 = .ok (.if_icmp .ge 25, 3) := by decide +kernel
theorem dX10_leastLoss_21 : decode cX10_leastLoss 21 = .ok (.aload_n 0, 1) := by decide +kernel
theorem dX10_leastLoss_22 : decode cX10_leastLoss 22 = .ok (.getfield 11, 3) := by decide +kernel
theorem dX10_leastLoss_25 : decode cX10_leastLoss 25 = .ok (.iload_n 1, 1) := by decide +kernel
theorem dX10_leastLoss_26 : decode cX10_leastLoss 26 = .ok (.bipush 30, 2) := by decide +kernel
theorem dX10_leastLoss_28 : decode cX10_leastLoss 28 = .ok (.imul, 1) := by decide +kernel
theorem dX10_leastLoss_29 : decode cX10_leastLoss 29 = .ok (.iload_n 2, 1) := by decide +kernel
theorem dX10_leastLoss_30 : decode cX10_leastLoss 30 = .ok (.iadd, 1) := by decide +kernel
theorem dX10_leastLoss_31 : decode cX10_leastLoss 31 = .ok (.baload, 1) := by decide +kernel
theorem dX10_leastLoss_32 : decode cX10_leastLoss 32 = .ok (.ifCond .eq 5, 3) := by decide +kernel
theorem dX10_leastLoss_35 : decode cX10_leastLoss 35 = .ok (.iload_n 2, 1) := by decide +kernel
theorem dX10_leastLoss_36 : decode cX10_leastLoss 36 = .ok (.ireturn, 1) := by decide +kernel
theorem dX10_leastLoss_37 : decode cX10_leastLoss 37 = .ok (.iinc 2 1, 3) := by decide +kernel
theorem dX10_leastLoss_40 : decode cX10_leastLoss 40 = .ok (.goto (-25), 3) := by decide +kernel
theorem dX10_leastLoss_43 : decode cX10_leastLoss 43 = .ok (.iconst (-1), 1) := by decide +kernel
theorem dX10_leastLoss_44 : decode cX10_leastLoss 44 = .ok (.ireturn, 1) := by decide +kernel
theorem dX10_mostLeft_0 : decode cX10_mostLeft 0 = .ok (.aload_n 0, 1) := by decide +kernel
theorem dX10_mostLeft_1 : decode cX10_mostLeft 1 = .ok (.getfield 15, 3) := by decide +kernel
theorem dX10_mostLeft_4 : decode cX10_mostLeft 4 = .ok (.iconst 0, 1) := by decide +kernel
theorem dX10_mostLeft_5 : decode cX10_mostLeft 5 = .ok (.invokestatic 67, 3) := by decide +kernel
theorem dX10_mostLeft_8 : decode cX10_mostLeft 8 = .ok (.iconst 0, 1) := by decide +kernel
theorem dX10_mostLeft_9 : decode cX10_mostLeft 9 = .ok (.istore_n 3, 1) := by decide +kernel
theorem dX10_mostLeft_10 : decode cX10_mostLeft 10 = .ok (.iconst 0, 1) := by decide +kernel
theorem dX10_mostLeft_11 : decode cX10_mostLeft 11 = .ok (.istore 4, 2) := by decide +kernel
theorem dX10_mostLeft_13 : decode cX10_mostLeft 13 = .ok (.iload 4, 2) := by decide +kernel
theorem dX10_mostLeft_15 : decode cX10_mostLeft 15 = .ok (.sipush 240, 3) := by decide +kernel
theorem dX10_mostLeft_18 : decode cX10_mostLeft 18 = .ok (.if_icmp .ge 72, 3) := by decide +kernel
theorem dX10_mostLeft_21 : decode cX10_mostLeft 21 = .ok (.aload_n 0, 1) := by decide +kernel
theorem dX10_mostLeft_22 : decode cX10_mostLeft 22 = .ok (.getfield 11, 3) := by decide +kernel
theorem dX10_mostLeft_25 : decode cX10_mostLeft 25 = .ok (.iload 4, 2) := by decide +kernel
theorem dX10_mostLeft_27 : decode cX10_mostLeft 27 = .ok (.baload, 1) := by decide +kernel
theorem dX10_mostLeft_28 : decode cX10_mostLeft 28 = .ok (.ifCond .eq 56, 3) := by decide +kernel
theorem dX10_mostLeft_31 : decode cX10_mostLeft 31 = .ok (.aload_n 0, 1) := by decide +kernel
theorem dX10_mostLeft_32 : decode cX10_mostLeft 32 = .ok (.iload_n 1, 1) := by decide +kernel
theorem dX10_mostLeft_33 : decode cX10_mostLeft 33 = .ok (.iload_n 2, 1) := by decide +kernel
theorem dX10_mostLeft_34 : decode cX10_mostLeft 34 = .ok (.iload 4, 2) := by decide +kernel
theorem dX10_mostLeft_36 : decode cX10_mostLeft 36 = .ok (.bipush 30, 2) := by decide +kernel
theorem dX10_mostLeft_38 : decode cX10_mostLeft 38 = .ok (.idiv, 1) := by decide +kernel
theorem dX10_mostLeft_39 : decode cX10_mostLeft 39 = .ok (.iload 4, 2) := by decide +kernel
theorem dX10_mostLeft_41 : decode cX10_mostLeft 41 = .ok (.bipush 30, 2) := by decide +kernel
theorem dX10_mostLeft_43 : decode cX10_mostLeft 43 = .ok (.irem, 1) := by decide +kernel
theorem dX10_mostLeft_44 : decode cX10_mostLeft 44 = .ok (.invokevirtual 73, 3) := by decide +kernel
theorem dX10_mostLeft_47 : decode cX10_mostLeft 47 = .ok (.istore 5, 2) := by decide +kernel
theorem dX10_mostLeft_49 : decode cX10_mostLeft 49 = .ok (.iload 5, 2) := by decide +kernel
theorem dX10_mostLeft_51 : decode cX10_mostLeft 51 = .ok (.ifCond .lt 33, 3) := by decide +kernel
theorem dX10_mostLeft_54 : decode cX10_mostLeft 54 = .ok (.iload 5, 2) := by decide +kernel
theorem dX10_mostLeft_56 : decode cX10_mostLeft 56 = .ok (.bipush 40, 2) := by decide +kernel
theorem dX10_mostLeft_58 : decode cX10_mostLeft 58 = .ok (.if_icmp .ge 26, 3) := by decide +kernel
theorem dX10_mostLeft_61 : decode cX10_mostLeft 61 = .ok (.aload_n 0, 1) := by decide +kernel
theorem dX10_mostLeft_62 : decode cX10_mostLeft 62 = .ok (.getfield 15, 3) := by decide +kernel
theorem dX10_mostLeft_65 : decode cX10_mostLeft 65 = .ok (.iload 5, 2) := by decide +kernel
theorem dX10_mostLeft_67 : decode cX10_mostLeft 67 = .ok (.dup2, 1) := by decide +kernel
theorem dX10_mostLeft_68 : decode cX10_mostLeft 68 = .ok (.iaload, 1) := by decide +kernel
theorem dX10_mostLeft_69 : decode cX10_mostLeft 69 = .ok (.iconst 1, 1) := by decide +kernel
theorem dX10_mostLeft_70 : decode cX10_mostLeft 70 = .ok (.iadd, 1) := by decide +kernel
theorem dX10_mostLeft_71 : decode cX10_mostLeft 71 = .ok (.iastore, 1) := by decide +kernel
theorem dX10_mostLeft_72 : decode cX10_mostLeft 72 = .ok (.iload_n 3, 1) := by decide +kernel
theorem dX10_mostLeft_73 : decode cX10_mostLeft 73 = .ok (.aload_n 0, 1) := by decide +kernel
theorem dX10_mostLeft_74 : decode cX10_mostLeft 74 = .ok (.getfield 15, 3) := by decide +kernel
theorem dX10_mostLeft_77 : decode cX10_mostLeft 77 = .ok (.iload 5, 2) := by decide +kernel
theorem dX10_mostLeft_79 : decode cX10_mostLeft 79 = .ok (.iaload, 1) := by decide +kernel
theorem dX10_mostLeft_80 : decode cX10_mostLeft 80 = .ok (.invokestatic 77, 3) := by decide +kernel
theorem dX10_mostLeft_83 : decode cX10_mostLeft 83 = .ok (.istore_n 3, 1) := by decide +kernel
theorem dX10_mostLeft_84 : decode cX10_mostLeft 84 = .ok (.iinc 4 1, 3) := by decide +kernel
theorem dX10_mostLeft_87 : decode cX10_mostLeft 87 = .ok (.goto (-74), 3) := by decide +kernel
theorem dX10_mostLeft_90 : decode cX10_mostLeft 90 = .ok (.iload_n 3, 1) := by decide +kernel
theorem dX10_mostLeft_91 : decode cX10_mostLeft 91 = .ok (.ireturn, 1) := by decide +kernel
theorem dX10_wearyHold_0 : decode cX10_wearyHold 0 = .ok (.aload_n 0, 1) := by decide +kernel
theorem dX10_wearyHold_1 : decode cX10_wearyHold 1 = .ok (.getfield 19, 3) := by decide +kernel
theorem dX10_wearyHold_4 : decode cX10_wearyHold 4 = .ok (.iload_n 1, 1) := by decide +kernel
theorem dX10_wearyHold_5 : decode cX10_wearyHold 5 = .ok (.invokevirtual 84, 3) := by decide +kernel
theorem dX10_wearyHold_8 : decode cX10_wearyHold 8 = .ok (.iload_n 1, 1) := by decide +kernel
theorem dX10_wearyHold_9 : decode cX10_wearyHold 9 = .ok (.iload_n 3, 1) := by decide +kernel
theorem dX10_wearyHold_10 : decode cX10_wearyHold 10 = .ok (.if_icmp .ne 8, 3) := by decide +kernel
theorem dX10_wearyHold_13 : decode cX10_wearyHold 13 = .ok (.iload 4, 2) := by decide +kernel
theorem dX10_wearyHold_15 : decode cX10_wearyHold 15 = .ok (.goto 4, 3) := by decide +kernel
theorem dX10_wearyHold_18 : decode cX10_wearyHold 18 = .ok (.iconst 0, 1) := by decide +kernel
theorem dX10_wearyHold_19 : decode cX10_wearyHold 19 = .ok (.isub, 1) := by decide +kernel
theorem dX10_wearyHold_20 : decode cX10_wearyHold 20 = .ok (.istore 5, 2) := by decide +kernel
theorem dX10_wearyHold_22 : decode cX10_wearyHold 22 = .ok (.aload_n 0, 1) := by decide +kernel
theorem dX10_wearyHold_23 : decode cX10_wearyHold 23 = .ok (.getfield 19, 3) := by decide +kernel
theorem dX10_wearyHold_26 : decode cX10_wearyHold 26 = .ok (.iload_n 2, 1) := by decide +kernel
theorem dX10_wearyHold_27 : decode cX10_wearyHold 27 = .ok (.invokevirtual 84, 3) := by decide +kernel
theorem dX10_wearyHold_30 : decode cX10_wearyHold 30 = .ok (.iload_n 2, 1) := by decide +kernel
theorem dX10_wearyHold_31 : decode cX10_wearyHold 31 = .ok (.iload_n 3, 1) := by decide +kernel
theorem dX10_wearyHold_32 : decode cX10_wearyHold 32 = .ok (.if_icmp .ne 8, 3) := by decide +kernel
theorem dX10_wearyHold_35 : decode cX10_wearyHold 35 = .ok (.iload 4, 2) := by decide +kernel
theorem dX10_wearyHold_37 : decode cX10_wearyHold 37 = .ok (.goto 4, 3) := by decide +kernel
theorem dX10_wearyHold_40 : decode cX10_wearyHold 40 = .ok (.iconst 0, 1) := by decide +kernel
theorem dX10_wearyHold_41 : decode cX10_wearyHold 41 = .ok (.isub, 1) := by decide +kernel
theorem dX10_wearyHold_42 : decode cX10_wearyHold 42 = .ok (.istore 6, 2) := by decide +kernel
theorem dX10_wearyHold_44 : decode cX10_wearyHold 44 = .ok (.aload_n 0, 1) := by decide +kernel
theorem dX10_wearyHold_45 : decode cX10_wearyHold 45 = .ok (.getfield 19, 3) := by decide +kernel
theorem dX10_wearyHold_48 : decode cX10_wearyHold 48 = .ok (.iload_n 1, 1) := by decide +kernel
theorem dX10_wearyHold_49 : decode cX10_wearyHold 49 = .ok (.iload_n 2, 1) := by decide +kernel
theorem dX10_wearyHold_50 : decode cX10_wearyHold 50 = .ok (.iload 5, 2) := by decide +kernel
theorem dX10_wearyHold_52 : decode cX10_wearyHold 52 = .ok (.iload 6, 2) := by decide +kernel
theorem dX10_wearyHold_54 : decode cX10_wearyHold 54 = .ok (.invokevirtual 90, 3) := by decide +kernel
theorem dX10_wearyHold_57 : decode cX10_wearyHold 57 = .ok (.ireturn, 1) := by decide +kernel
theorem dX11_able_0 : decode cX11_able 0 = .ok (.aload_n 0, 1) := by decide +kernel
theorem dX11_able_1 : decode cX11_able 1 = .ok (.getfield 28, 3) := by decide +kernel
theorem dX11_able_4 : decode cX11_able 4 = .ok (.invokevirtual 166, 3) := by decide +kernel
theorem dX11_able_7 : decode cX11_able 7 = .ok (.ifCond .ne 6, 3) := by decide +kernel
theorem dX11_able_10 : decode cX11_able 10 = .ok (.bipush (-2), 2) := by decide +kernel
theorem dX11_able_12 : decode cX11_able 12 = .ok (.ireturn, 1) := by decide +kernel
theorem dX11_able_13 : decode cX11_able 13 = .ok (.iconst 0, 1) := by decide +kernel
theorem dX11_able_14 : decode cX11_able 14 = .ok (.istore_n 1, 1) := by decide +kernel
theorem dX11_able_15 : decode cX11_able 15 = .ok (.iconst 0, 1) := by decide +kernel
theorem dX11_able_16 : decode cX11_able 16 = .ok (.istore_n 2, 1) := by decide +kernel
theorem dX11_able_17 : decode cX11_able 17 = .ok (.iload_n 2, 1) := by decide +kernel
theorem dX11_able_18 : decode cX11_able 18 = .ok (.aload_n 0, 1) := by decide +kernel
theorem dX11_able_19 : decode cX11_able 19 = .ok (.getfield 28, 3) := by decide +kernel
theorem dX11_able_22 : decode cX11_able 22 = .ok (.iconst 0, 1) := by decide +kernel
theorem dX11_able_23 : decode cX11_able 23 = .ok (.invokevirtual 160, 3) := by decide +kernel
theorem dX11_able_26 : decode cX11_able 26 = .ok (.if_icmp .ge 39, 3) := by decide +kernel
theorem dX11_able_29 : decode cX11_able 29 = .ok (.aload_n 0, 1) := by decide +kernel
theorem dX11_able_30 : decode cX11_able 30 = .ok (.getfield 58, 3) := by decide +kernel
theorem dX11_able_33 : decode cX11_able 33 = .ok (.iload_n 2, 1) := by decide +kernel
theorem dX11_able_34 : decode cX11_able 34 = .ok (.aload_n 0, 1) := by decide +kernel
theorem dX11_able_35 : decode cX11_able 35 = .ok (.getfield 35, 3) := by decide +kernel
theorem dX11_able_38 : decode cX11_able 38 = .ok (.iconst 1, 1) := by decide +kernel
theorem dX11_able_39 : decode cX11_able 39 = .ok (.invokevirtual 156, 3) := by decide +kernel
theorem dX11_able_42 : decode cX11_able 42 = .ok (.invokevirtual 182, 3) := by decide +kernel
theorem dX11_able_45 : decode cX11_able 45 = .ok (.aload_n 0, 1) := by decide +kernel
theorem dX11_able_46 : decode cX11_able 46 = .ok (.getfield 58, 3) := by decide +kernel
theorem dX11_able_49 : decode cX11_able 49 = .ok (.getfield 186, 3) := by decide +kernel
theorem dX11_able_52 : decode cX11_able 52 = .ok (.iconst (-1), 1) := by decide +kernel
theorem dX11_able_53 : decode cX11_able 53 = .ok (.if_icmp .eq 6, 3) := by decide +kernel
theorem dX11_able_56 : decode cX11_able 56 = .ok (.iinc 1 1, 3) := by decide +kernel
theorem dX11_able_59 : decode cX11_able 59 = .ok (.iinc 2 1, 3) := by decide +kernel
theorem dX11_able_62 : decode cX11_able 62 = .ok (.goto (-45), 3) := by decide +kernel
theorem dX11_able_65 : decode cX11_able 65 = .ok (.iload_n 1, 1) := by decide +kernel
theorem dX11_able_66 : decode cX11_able 66 = .ok (.ireturn, 1) := by decide +kernel
theorem dX11_anew_0 : decode cX11_anew 0 = .ok (.aload_n 0, 1) := by decide +kernel
theorem dX11_anew_1 : decode cX11_anew 1 = .ok (.getfield 28, 3) := by decide +kernel
theorem dX11_anew_4 : decode cX11_anew 4 = .ok (.invokevirtual 166, 3) := by decide +kernel
theorem dX11_anew_7 : decode cX11_anew 7 = .ok (.ifCond .ne 6, 3) := by decide +kernel
theorem dX11_anew_10 : decode cX11_anew 10 = .ok (.bipush (-2), 2) := by decide +kernel
theorem dX11_anew_12 : decode cX11_anew 12 = .ok (.ireturn, 1) := by decide +kernel
theorem dX11_anew_13 : decode cX11_anew 13 = .ok (.aload_n 0, 1) := by decide +kernel
theorem dX11_anew_14 : decode cX11_anew 14 = .ok (.getfield 35, 3) := by decide +kernel
theorem dX11_anew_17 : decode cX11_anew 17 = .ok (.getfield 371, 3) := by decide +kernel
theorem dX11_anew_20 : decode cX11_anew 20 = .ok (.istore_n 1, 1) := by decide +kernel
theorem dX11_anew_21 : decode cX11_anew 21 = .ok (.aload_n 0, 1) := by decide +kernel
theorem dX11_anew_22 : decode cX11_anew 22 = .ok (.getfield 35, 3) := by decide +kernel
theorem dX11_anew_25 : decode cX11_anew 25 = .ok (.invokevirtual 118, 3) := by decide +kernel
theorem dX11_anew_28 : decode cX11_anew 28 = .ok (.iload_n 1, 1) := by decide +kernel
theorem dX11_anew_29 : decode cX11_anew 29 = .ok (.ireturn, 1) := by decide +kernel
theorem dX11_ask_0 : decode cX11_ask 0 = .ok (.aload_n 0, 1) := by decide +kernel
theorem dX11_ask_1 : decode cX11_ask 1 = .ok (.iload_n 1, 1) := by decide +kernel
theorem dX11_ask_2 : decode cX11_ask 2 = .ok (.invokevirtual 300, 3) := by decide +kernel
theorem dX11_ask_5 : decode cX11_ask 5 = .ok (.istore_n 2, 1) := by decide +kernel
theorem dX11_ask_6 : decode cX11_ask 6 = .ok (.iload_n 2, 1) := by decide +kernel
theorem dX11_ask_7 : decode cX11_ask 7 = .ok (.ifCond .eq 5, 3) := by decide +kernel
theorem dX11_ask_10 : decode cX11_ask 10 = .ok (.iload_n 2, 1) := by decide +kernel
theorem dX11_ask_11 : decode cX11_ask 11 = .ok (.ireturn, 1) := by decide +kernel
theorem dX11_ask_12 : decode cX11_ask 12 = .ok (.aload_n 0, 1) := by decide +kernel
theorem dX11_ask_13 : decode cX11_ask 13 = .ok (.getfield 88, 3) := by decide +kernel
theorem dX11_ask_16 : decode cX11_ask 16 = .ok (.iload_n 1, 1) := by decide +kernel
theorem dX11_ask_17 : decode cX11_ask 17 = .ok (.invokevirtual 303, 3) := by decide +kernel
theorem dX11_ask_20 : decode cX11_ask 20 = .ok (.aload_n 0, 1) := by decide +kernel
theorem dX11_ask_21 : decode cX11_ask 21 = .ok (.getfield 88, 3) := by decide +kernel
theorem dX11_ask_24 : decode cX11_ask 24 = .ok (.invokevirtual 312, 3) := by decide +kernel
theorem dX11_ask_27 : decode cX11_ask 27 = .ok (.ireturn, 1) := by decide +kernel
theorem dX11_back_0 : decode cX11_back 0 = .ok (.iload_n 1, 1) := by decide +kernel
theorem dX11_back_1 : decode cX11_back 1 = .ok (.iconst 0, 1) := by decide +kernel
theorem dX11_back_2 : decode cX11_back 2 = .ok (.iconst 2, 1) := by decide +kernel
theorem dX11_back_3 : decode cX11_back 3 = .ok (.invokestatic 104, 3) := by decide +kernel
theorem dX11_back_6 : decode cX11_back 6 = .ok (.ifCond .ne 6, 3) := by decide +kernel
theorem dX11_back_9 : decode cX11_back 9 = .ok (.bipush (-2), 2) := by decide +kernel
theorem dX11_back_11 : decode cX11_back 11 = .ok (.ireturn, 1) := by decide +kernel
theorem dX11_back_12 : decode cX11_back 12 = .ok (.aload_n 0, 1) := by decide +kernel
theorem dX11_back_13 : decode cX11_back 13 = .ok (.getfield 41, 3) := by decide +kernel
theorem dX11_back_16 : decode cX11_back 16 = .ok (.iload_n 1, 1) := by decide +kernel
theorem dX11_back_17 : decode cX11_back 17 = .ok (.aaload, 1) := by decide +kernel
theorem dX11_back_18 : decode cX11_back 18 = .ok (.getfield 389, 3) := by decide +kernel
theorem dX11_back_21 : decode cX11_back 21 = .ok (.ifCond .ne 6, 3) := by decide +kernel
theorem dX11_back_24 : decode cX11_back 24 = .ok (.bipush (-6), 2) := by decide +kernel
theorem dX11_back_26 : decode cX11_back 26 = .ok (.ireturn, 1) := by decide +kernel
theorem dX11_back_27 : decode cX11_back 27 = .ok (.aload_n 0, 1) := by decide +kernel
theorem dX11_back_28 : decode cX11_back 28 = .ok (.getfield 28, 3) := by decide +kernel
theorem dX11_back_31 : decode cX11_back 31 = .ok (.aload_n 0, 1) := by decide +kernel
theorem dX11_back_32 : decode cX11_back 32 = .ok (.getfield 41, 3) := by decide +kernel
theorem dX11_back_35 : decode cX11_back 35 = .ok (.iload_n 1, 1) := by decide +kernel
theorem dX11_back_36 : decode cX11_back 36 = .ok (.aaload, 1) := by decide +kernel
theorem dX11_back_37 : decode cX11_back 37 = .ok (.getfield 393, 3) := by decide +kernel
theorem dX11_back_40 : decode cX11_back 40 = .ok (.invokevirtual 115, 3) := by decide +kernel
theorem dX11_back_43 : decode cX11_back 43 = .ok (.aload_n 0, 1) := by decide +kernel
theorem dX11_back_44 : decode cX11_back 44 = .ok (.getfield 35, 3) := by decide +kernel
theorem dX11_back_47 : decode cX11_back 47 = .ok (.aload_n 0, 1) := by decide +kernel
theorem dX11_back_48 : decode cX11_back 48 = .ok (.getfield 41, 3) := by decide +kernel
theorem dX11_back_51 : decode cX11_back 51 = .ok (.iload_n 1, 1) := by decide +kernel
theorem dX11_back_52 : decode cX11_back 52 = .ok (.aaload, 1) := by decide +kernel
theorem dX11_back_53 : decode cX11_back 53 = .ok (.getfield 394, 3) := by decide +kernel
theorem dX11_back_56 : decode cX11_back 56 = .ok (.invokevirtual 395, 3) := by decide +kernel
theorem dX11_back_59 : decode cX11_back 59 = .ok (.iconst 0, 1) := by decide +kernel
theorem dX11_back_60 : decode cX11_back 60 = .ok (.ireturn, 1) := by decide +kernel
theorem dX11_beatsDrawn_0 : decode cX11_beatsDrawn 0 = .ok (.iload_n 1, 1) := by decide +kernel
theorem dX11_beatsDrawn_1 : decode cX11_beatsDrawn 1 = .ok (.i2l, 1) := by decide +kernel
theorem dX11_beatsDrawn_2 : decode cX11_beatsDrawn 2 = .ok (.lstore_n 3, 1) := by decide +kernel
theorem dX11_beatsDrawn_3 : decode cX11_beatsDrawn 3 = .ok (.iconst 0, 1) := by decide +kernel
theorem dX11_beatsDrawn_4 : decode cX11_beatsDrawn 4 = .ok (.istore 5, 2) := by decide +kernel
theorem dX11_beatsDrawn_6 : decode cX11_beatsDrawn 6 = .ok (.iload 5, 2) := by decide +kernel
theorem dX11_beatsDrawn_8 : decode cX11_beatsDrawn 8 = .ok (.iload_n 2, 1) := by decide +kernel
theorem dX11_beatsDrawn_9 : decode cX11_beatsDrawn 9 = .ok (.if_icmp .ge 46, 3) := by decide +kernel
theorem dX11_beatsDrawn_12 : decode cX11_beatsDrawn 12 = .ok (.ldc2_w 432, 3) := by decide +kernel
theorem dX11_beatsDrawn_15 : decode cX11_beatsDrawn 15 = .ok (.lload_n 3, 1) := by decide +kernel
theorem dX11_beatsDrawn_16 : decode cX11_beatsDrawn 16 = .ok (.lmul, 1) := by decide +kernel
theorem dX11_beatsDrawn_17 : decode cX11_beatsDrawn 17 = .ok (.ldc2_w 434, 3) := by decide +kernel
theorem dX11_beatsDrawn_20 : decode cX11_beatsDrawn 20 = .ok (.ladd, 1) := by decide +kernel
theorem dX11_beatsDrawn_21 : decode cX11_beatsDrawn 21 = .ok (.ldc2_w 436, 3) := by decide +kernel
theorem dX11_beatsDrawn_24 : decode cX11_beatsDrawn 24 = .ok (.land, 1) := by decide +kernel
theorem dX11_beatsDrawn_25 : decode cX11_beatsDrawn 25 = .ok (.lstore_n 3, 1) := by decide +kernel
theorem dX11_beatsDrawn_26 : decode cX11_beatsDrawn 26 = .ok (.lload_n 3, 1) := by decide +kernel
theorem dX11_beatsDrawn_27 : decode cX11_beatsDrawn 27 = .ok (.bipush 16, 2) := by decide +kernel
theorem dX11_beatsDrawn_29 : decode cX11_beatsDrawn 29 = .ok (.lshr, 1) := by decide +kernel
theorem dX11_beatsDrawn_30 : decode cX11_beatsDrawn 30 = .ok (.ldc2_w 324, 3) := by decide +kernel
theorem dX11_beatsDrawn_33 : decode cX11_beatsDrawn 33 = .ok (.lrem, 1) := by decide +kernel
theorem dX11_beatsDrawn_34 : decode cX11_beatsDrawn 34 = .ok (.aload_n 0, 1) := by decide +kernel
theorem dX11_beatsDrawn_35 : decode cX11_beatsDrawn 35 = .ok (.getfield 28, 3) := by decide +kernel
theorem dX11_beatsDrawn_38 : decode cX11_beatsDrawn 38 = .ok (.getfield 317, 3) := by decide +kernel
theorem dX11_beatsDrawn_41 : decode cX11_beatsDrawn 41 = .ok (.i2l, 1) := by decide +kernel
theorem dX11_beatsDrawn_42 : decode cX11_beatsDrawn 42 = .ok (.lcmp, 1) := by decide +kernel
theorem dX11_beatsDrawn_43 : decode cX11_beatsDrawn 43 = .ok (.ifCond .ge 6, 3) := by decide +kernel
theorem dX11_beatsDrawn_46 : decode cX11_beatsDrawn 46 = .ok (.iload 5, 2) := by decide +kernel
theorem dX11_beatsDrawn_48 : decode cX11_beatsDrawn 48 = .ok (.ireturn, 1) := by decide +kernel
theorem dX11_beatsDrawn_49 : decode cX11_beatsDrawn 49 = .ok (.iinc 5 1, 3) := by decide +kernel
theorem dX11_beatsDrawn_52 : decode cX11_beatsDrawn 52 = .ok (.goto (-46), 3) := by decide +kernel
theorem dX11_beatsDrawn_55 : decode cX11_beatsDrawn 55 = .ok (.iload_n 2, 1) := by decide +kernel
theorem dX11_beatsDrawn_56 : decode cX11_beatsDrawn 56 = .ok (.ireturn, 1) := by decide +kernel
theorem dX11_bothOfferAtRest_0 : decode cX11_bothOfferAtRest 0 = .ok (.aload_n 0, 1) := by decide +kernel
theorem dX11_bothOfferAtRest_1 : decode cX11_bothOfferAtRest 1 = .ok (.getfield 28, 3) := by decide +kernel
theorem dX11_bothOfferAtRest_4 : decode cX11_bothOfferAtRest 4 = .ok (.iload_n 1, 1) := by decide +kernel
theorem dX11_bothOfferAtRest_5 : decode cX11_bothOfferAtRest 5 = .ok (.iconst 0, 1) := by decide +kernel
theorem dX11_bothOfferAtRest_6 : decode cX11_bothOfferAtRest 6 = .ok (.invokevirtual 149, 3) := by decide +kernel
theorem dX11_bothOfferAtRest_9 : decode cX11_bothOfferAtRest 9 = .ok (.ifCond .lt 19, 3) := by decide +kernel
theorem dX11_bothOfferAtRest_12 : decode cX11_bothOfferAtRest 12 = .ok (.aload_n 0, 1) := by decide +kernel
theorem dX11_bothOfferAtRest_13 : decode cX11_bothOfferAtRest 13 = .ok (.getfield 28, 3) := by decide +kernel
theorem dX11_bothOfferAtRest_16 : decode cX11_bothOfferAtRest 16 = .ok (.iload_n 1, 1) := by decide +kernel
theorem dX11_bothOfferAtRest_17 : decode cX11_bothOfferAtRest 17 = .ok (.iconst 1, 1) := by decide +kernel
theorem dX11_bothOfferAtRest_18 : decode cX11_bothOfferAtRest 18 = .ok (.invokevirtual 149, 3) := by decide +kernel
theorem dX11_bothOfferAtRest_21 : decode cX11_bothOfferAtRest 21 = .ok (.ifCond .lt 7, 3) := by decide +kernel
theorem dX11_bothOfferAtRest_24 : decode cX11_bothOfferAtRest 24 = .ok (.iconst 1, 1) := by decide +kernel
theorem dX11_bothOfferAtRest_25 : decode cX11_bothOfferAtRest 25 = .ok (.goto 4, 3) := by decide +kernel
theorem dX11_bothOfferAtRest_28 : decode cX11_bothOfferAtRest 28 = .ok (.iconst 0, 1) := by decide +kernel
theorem dX11_bothOfferAtRest_29 : decode cX11_bothOfferAtRest 29 = .ok (.ireturn, 1) := by decide +kernel
theorem dX11_bundle_0 : decode cX11_bundle 0 = .ok (.aload_n 0, 1) := by decide +kernel
theorem dX11_bundle_1 : decode cX11_bundle 1 = .ok (.getfield 28, 3) := by decide +kernel
theorem dX11_bundle_4 : decode cX11_bundle 4 = .ok (.invokevirtual 166, 3) := by decide +kernel
theorem dX11_bundle_7 : decode cX11_bundle 7 = .ok (.ifCond .ne 6, 3) := by decide +kernel
theorem dX11_bundle_10 : decode cX11_bundle 10 = .ok (.bipush (-2), 2) := by decide +kernel
theorem dX11_bundle_12 : decode cX11_bundle 12 = .ok (.ireturn, 1) := by decide +kernel
theorem dX11_bundle_13 : decode cX11_bundle 13 = .ok (.aload_n 0, 1) := by decide +kernel
theorem dX11_bundle_14 : decode cX11_bundle 14 = .ok (.getfield 79, 3) := by decide +kernel
theorem dX11_bundle_17 : decode cX11_bundle 17 = .ok (.invokevirtual 285, 3) := by decide +kernel
theorem dX11_bundle_20 : decode cX11_bundle 20 = .ok (.aload_n 0, 1) := by decide +kernel
theorem dX11_bundle_21 : decode cX11_bundle 21 = .ok (.getfield 79, 3) := by decide +kernel
theorem dX11_bundle_24 : decode cX11_bundle 24 = .ok (.getfield 291, 3) := by decide +kernel
theorem dX11_bundle_27 : decode cX11_bundle 27 = .ok (.ireturn, 1) := by decide +kernel
theorem dX11_bundles_0 : decode cX11_bundles 0 = .ok (.aload_n 0, 1) := by decide +kernel
theorem dX11_bundles_1 : decode cX11_bundles 1 = .ok (.getfield 28, 3) := by decide +kernel
theorem dX11_bundles_4 : decode cX11_bundles 4 = .ok (.invokevirtual 166, 3) := by decide +kernel
theorem dX11_bundles_7 : decode cX11_bundles 7 = .ok (.ifCond .ne 6, 3) := by decide +kernel
theorem dX11_bundles_10 : decode cX11_bundles 10 = .ok (.bipush (-2), 2) := by decide +kernel
theorem dX11_bundles_12 : decode cX11_bundles 12 = .ok (.ireturn, 1) := by decide +kernel
theorem dX11_bundles_13 : decode cX11_bundles 13 = .ok (.aload_n 0, 1) := by decide +kernel
theorem dX11_bundles_14 : decode cX11_bundles 14 = .ok (.getfield 79, 3) := by decide +kernel
theorem dX11_bundles_17 : decode cX11_bundles 17 = .ok (.invokevirtual 285, 3) := by decide +kernel
theorem dX11_bundles_20 : decode cX11_bundles 20 = .ok (.aload_n 0, 1) := by decide +kernel
theorem dX11_bundles_21 : decode cX11_bundles 21 = .ok (.getfield 79, 3) := by decide +kernel
theorem dX11_bundles_24 : decode cX11_bundles 24 = .ok (.getfield 288, 3) := by decide +kernel
theorem dX11_bundles_27 : decode cX11_bundles 27 = .ok (.ireturn, 1) := by decide +kernel
theorem dX11_by_0 : decode cX11_by 0 = .ok (.aload_n 0, 1) := by decide +kernel
theorem dX11_by_1 : decode cX11_by 1 = .ok (.getfield 28, 3) := by decide +kernel
theorem dX11_by_4 : decode cX11_by 4 = .ok (.iload_n 2, 1) := by decide +kernel
theorem dX11_by_5 : decode cX11_by 5 = .ok (.invokevirtual 130, 3) := by decide +kernel
theorem dX11_by_8 : decode cX11_by 8 = .ok (.ifCond .eq 11, 3) := by decide +kernel
theorem dX11_by_11 : decode cX11_by 11 = .ok (.aload_n 0, 1) := by decide +kernel
theorem dX11_by_12 : decode cX11_by 12 = .ok (.iload_n 1, 1) := by decide +kernel
theorem dX11_by_13 : decode cX11_by 13 = .ok (.invokevirtual 300, 3) := by decide +kernel
theorem dX11_by_16 : decode cX11_by 16 = .ok (.goto 5, 3) := by decide +kernel
theorem dX11_by_19 : decode cX11_by 19 = .ok (.bipush (-2), 2) := by decide +kernel
theorem dX11_by_21 : decode cX11_by 21 = .ok (.istore_n 3, 1) := by decide +kernel
theorem dX11_by_22 : decode cX11_by 22 = .ok (.iload_n 3, 1) := by decide +kernel
theorem dX11_by_23 : decode cX11_by 23 = .ok (.ifCond .eq 5, 3) := by decide +kernel
theorem dX11_by_26 : decode cX11_by 26 = .ok (.iload_n 3, 1) := by decide +kernel
theorem dX11_by_27 : decode cX11_by 27 = .ok (.ireturn, 1) := by decide +kernel
theorem dX11_by_28 : decode cX11_by 28 = .ok (.aload_n 0, 1) := by decide +kernel
theorem dX11_by_29 : decode cX11_by 29 = .ok (.getfield 88, 3) := by decide +kernel
theorem dX11_by_32 : decode cX11_by 32 = .ok (.iload_n 1, 1) := by decide +kernel
theorem dX11_by_33 : decode cX11_by 33 = .ok (.invokevirtual 303, 3) := by decide +kernel
theorem dX11_by_36 : decode cX11_by 36 = .ok (.aload_n 0, 1) := by decide +kernel
theorem dX11_by_37 : decode cX11_by 37 = .ok (.getfield 88, 3) := by decide +kernel
theorem dX11_by_40 : decode cX11_by 40 = .ok (.iload_n 2, 1) := by decide +kernel
theorem dX11_by_41 : decode cX11_by 41 = .ok (.invokevirtual 309, 3) := by decide +kernel
theorem dX11_by_44 : decode cX11_by 44 = .ok (.ireturn, 1) := by decide +kernel
theorem dX11_chance_0 : decode cX11_chance 0 = .ok (.iload_n 3, 1) := by decide +kernel
theorem dX11_chance_1 : decode cX11_chance 1 = .ok (.iconst 0, 1) := by decide +kernel
theorem dX11_chance_2 : decode cX11_chance 2 = .ok (.bipush 18, 2) := by decide +kernel
theorem dX11_chance_4 : decode cX11_chance 4 = .ok (.invokestatic 104, 3) := by decide +kernel
theorem dX11_chance_7 : decode cX11_chance 7 = .ok (.ifCond .eq 13, 3) := by decide +kernel
theorem dX11_chance_10 : decode cX11_chance 10 = .ok (.iload 4, 2) := by decide +kernel
theorem dX11_chance_12 : decode cX11_chance 12 = .ok (.iconst 0, 1) := by decide +kernel
theorem dX11_chance_13 : decode cX11_chance 13 = .ok (.iconst 1, 1) := by decide +kernel
theorem dX11_chance_14 : decode cX11_chance 14 = .ok (.invokestatic 104, 3) := by decide +kernel
theorem dX11_chance_17 : decode cX11_chance 17 = .ok (.ifCond .ne 7, 3) := by decide +kernel
theorem dX11_chance_20 : decode cX11_chance 20 = .ok (.ldc2_w 315, 3) := by decide +kernel
theorem dX11_chance_23 : decode cX11_chance 23 = .ok (.lreturn, 1) := by decide +kernel
theorem dX11_chance_24 : decode cX11_chance 24 = .ok (.aload_n 0, 1) := by decide +kernel
theorem dX11_chance_25 : decode cX11_chance 25 = .ok (.getfield 28, 3) := by decide +kernel
theorem dX11_chance_28 : decode cX11_chance 28 = .ok (.iload_n 1, 1) := by decide +kernel
theorem dX11_chance_29 : decode cX11_chance 29 = .ok (.iload_n 2, 1) := by decide +kernel
theorem dX11_chance_30 : decode cX11_chance 30 = .ok (.invokevirtual 199, 3) := by decide +kernel
theorem dX11_chance_33 : decode cX11_chance 33 = .ok (.istore 5, 2) := by decide +kernel
theorem dX11_chance_35 : decode cX11_chance 35 = .ok (.iload 5, 2) := by decide +kernel
theorem dX11_chance_37 : decode cX11_chance 37 = .ok (.ifCond .ge 7, 3) := by decide +kernel
theorem dX11_chance_40 : decode cX11_chance 40 = .ok (.iload 5, 2) := by decide +kernel
theorem dX11_chance_42 : decode cX11_chance 42 = .ok (.i2l, 1) := by decide +kernel
theorem dX11_chance_43 : decode cX11_chance 43 = .ok (.lreturn, 1) := by decide +kernel
theorem dX11_chance_44 : decode cX11_chance 44 = .ok (.iload_n 3, 1) := by decide +kernel
theorem dX11_chance_45 : decode cX11_chance 45 = .ok (.iload 5, 2) := by decide +kernel
theorem dX11_chance_47 : decode cX11_chance 47 = .ok (.if_icmp .le 7, 3) := by decide +kernel
theorem dX11_chance_50 : decode cX11_chance 50 = .ok (.lconst 0, 1) := by decide +kernel
theorem dX11_chance_51 : decode cX11_chance 51 = .ok (.goto 18, 3) := by decide +kernel
theorem dX11_chance_54 : decode cX11_chance 54 = .ok (.bipush 10, 2) := by decide +kernel
theorem dX11_chance_56 : decode cX11_chance 56 = .ok (.aload_n 0, 1) := by decide +kernel
theorem dX11_chance_57 : decode cX11_chance 57 = .ok (.getfield 28, 3) := by decide +kernel
theorem dX11_chance_60 : decode cX11_chance 60 = .ok (.getfield 317, 3) := by decide +kernel
theorem dX11_chance_63 : decode cX11_chance 63 = .ok (.isub, 1) := by decide +kernel
theorem dX11_chance_64 : decode cX11_chance 64 = .ok (.i2l, 1) := by decide +kernel
theorem dX11_chance_65 : decode cX11_chance 65 = .ok (.iload_n 3, 1) := by decide +kernel
theorem dX11_chance_66 : decode cX11_chance 66 = .ok (.invokestatic 320, 3) := by decide +kernel
theorem dX11_chance_69 : decode cX11_chance 69 = .ok (.lstore 6, 2) := by decide +kernel
theorem dX11_chance_71 : decode cX11_chance 71 = .ok (.lload 6, 2) := by decide +kernel
theorem dX11_chance_73 : decode cX11_chance 73 = .ok (.ldc2_w 324, 3) := by decide +kernel
theorem dX11_chance_76 : decode cX11_chance 76 = .ok (.iload_n 3, 1) := by decide +kernel
theorem dX11_chance_77 : decode cX11_chance 77 = .ok (.invokestatic 320, 3) := by decide +kernel
theorem dX11_chance_80 : decode cX11_chance 80 = .ok (.iload 4, 2) := by decide +kernel
theorem dX11_chance_82 : decode cX11_chance 82 = .ok (.invokestatic 326, 3) := by decide +kernel
theorem dX11_chance_85 : decode cX11_chance 85 = .ok (.lreturn, 1) := by decide +kernel
theorem dX11_clause_0 : decode cX11_clause 0 = .ok (.aload_n 0, 1) := by decide +kernel
theorem dX11_clause_1 : decode cX11_clause 1 = .ok (.getfield 28, 3) := by decide +kernel
theorem dX11_clause_4 : decode cX11_clause 4 = .ok (.iload_n 1, 1) := by decide +kernel
theorem dX11_clause_5 : decode cX11_clause 5 = .ok (.invokevirtual 143, 3) := by decide +kernel
theorem dX11_clause_8 : decode cX11_clause 8 = .ok (.ifCond .ne 7, 3) := by decide +kernel
theorem dX11_clause_11 : decode cX11_clause 11 = .ok (.sipush (-1000), 3) := by decide +kernel
theorem dX11_clause_14 : decode cX11_clause 14 = .ok (.ireturn, 1) := by decide +kernel
theorem dX11_clause_15 : decode cX11_clause 15 = .ok (.iload_n 2, 1) := by decide +kernel
theorem dX11_clause_16 : decode cX11_clause 16 = .ok (.tableswitch 57 0 2 #[28, 37, 47], 28) := by decide +kernel
theorem dX11_clause_44 : decode cX11_clause 44 = .ok (.aload_n 0, 1) := by decide +kernel
theorem dX11_clause_45 : decode cX11_clause 45 = .ok (.getfield 28, 3) := by decide +kernel
theorem dX11_clause_48 : decode cX11_clause 48 = .ok (.iload_n 1, 1) := by decide +kernel
theorem dX11_clause_49 : decode cX11_clause 49 = .ok (.invokevirtual 146, 3) := by decide +kernel
theorem dX11_clause_52 : decode cX11_clause 52 = .ok (.ireturn, 1) := by decide +kernel
theorem dX11_clause_53 : decode cX11_clause 53 = .ok (.aload_n 0, 1) := by decide +kernel
theorem dX11_clause_54 : decode cX11_clause 54 = .ok (.getfield 28, 3) := by decide +kernel
theorem dX11_clause_57 : decode cX11_clause 57 = .ok (.iload_n 1, 1) := by decide +kernel
theorem dX11_clause_58 : decode cX11_clause 58 = .ok (.iconst 0, 1) := by decide +kernel
theorem dX11_clause_59 : decode cX11_clause 59 = .ok (.invokevirtual 149, 3) := by decide +kernel
theorem dX11_clause_62 : decode cX11_clause 62 = .ok (.ireturn, 1) := by decide +kernel
theorem dX11_clause_63 : decode cX11_clause 63 = .ok (.aload_n 0, 1) := by decide +kernel
theorem dX11_clause_64 : decode cX11_clause 64 = .ok (.getfield 28, 3) := by decide +kernel
theorem dX11_clause_67 : decode cX11_clause 67 = .ok (.iload_n 1, 1) := by decide +kernel
theorem dX11_clause_68 : decode cX11_clause 68 = .ok (.iconst 1, 1) := by decide +kernel
theorem dX11_clause_69 : decode cX11_clause 69 = .ok (.invokevirtual 149, 3) := by decide +kernel
theorem dX11_clause_72 : decode cX11_clause 72 = .ok (.ireturn, 1) := by decide +kernel
theorem dX11_clause_73 : decode cX11_clause 73 = .ok (.sipush (-1000), 3) := by decide +kernel
theorem dX11_clause_76 : decode cX11_clause 76 = .ok (.ireturn, 1) := by decide +kernel
theorem dX11_count_0 : decode cX11_count 0 = .ok (.iload_n 1, 1) := by decide +kernel
theorem dX11_count_1 : decode cX11_count 1 = .ok (.tableswitch 149 0 10 #[59, 68, 77, 85, 93, 101, 109, 117, 125, 133, 141], 59) := by decide +kernel
theorem dX11_count_60 : decode cX11_count 60 = .ok (.aload_n 0, 1) := by decide +kernel
theorem dX11_count_61 : decode cX11_count 61 = .ok (.getfield 28, 3) := by decide +kernel
theorem dX11_count_64 : decode cX11_count 64 = .ok (.iconst 0, 1) := by decide +kernel
theorem dX11_count_65 : decode cX11_count 65 = .ok (.invokevirtual 160, 3) := by decide +kernel
theorem dX11_count_68 : decode cX11_count 68 = .ok (.ireturn, 1) := by decide +kernel
theorem dX11_count_69 : decode cX11_count 69 = .ok (.aload_n 0, 1) := by decide +kernel
theorem dX11_count_70 : decode cX11_count 70 = .ok (.getfield 28, 3) := by decide +kernel
theorem dX11_count_73 : decode cX11_count 73 = .ok (.iconst 1, 1) := by decide +kernel
theorem dX11_count_74 : decode cX11_count 74 = .ok (.invokevirtual 160, 3) := by decide +kernel
theorem dX11_count_77 : decode cX11_count 77 = .ok (.ireturn, 1) := by decide +kernel
theorem dX11_count_78 : decode cX11_count 78 = .ok (.aload_n 0, 1) := by decide +kernel
theorem dX11_count_79 : decode cX11_count 79 = .ok (.getfield 28, 3) := by decide +kernel
theorem dX11_count_82 : decode cX11_count 82 = .ok (.getfield 317, 3) := by decide +kernel
theorem dX11_count_85 : decode cX11_count 85 = .ok (.ireturn, 1) := by decide +kernel
theorem dX11_count_86 : decode cX11_count 86 = .ok (.aload_n 0, 1) := by decide +kernel
theorem dX11_count_87 : decode cX11_count 87 = .ok (.getfield 28, 3) := by decide +kernel
theorem dX11_count_90 : decode cX11_count 90 = .ok (.getfield 220, 3) := by decide +kernel
theorem dX11_count_93 : decode cX11_count 93 = .ok (.ireturn, 1) := by decide +kernel
theorem dX11_count_94 : decode cX11_count 94 = .ok (.aload_n 0, 1) := by decide +kernel
theorem dX11_count_95 : decode cX11_count 95 = .ok (.getfield 28, 3) := by decide +kernel
theorem dX11_count_98 : decode cX11_count 98 = .ok (.getfield 202, 3) := by decide +kernel
theorem dX11_count_101 : decode cX11_count 101 = .ok (.ireturn, 1) := by decide +kernel
theorem dX11_count_102 : decode cX11_count 102 = .ok (.aload_n 0, 1) := by decide +kernel
theorem dX11_count_103 : decode cX11_count 103 = .ok (.getfield 28, 3) := by decide +kernel
theorem dX11_count_106 : decode cX11_count 106 = .ok (.getfield 279, 3) := by decide +kernel
theorem dX11_count_109 : decode cX11_count 109 = .ok (.ireturn, 1) := by decide +kernel
theorem dX11_count_110 : decode cX11_count 110 = .ok (.aload_n 0, 1) := by decide +kernel
theorem dX11_count_111 : decode cX11_count 111 = .ok (.getfield 28, 3) := by decide +kernel
theorem dX11_count_114 : decode cX11_count 114 = .ok (.getfield 383, 3) := by decide +kernel
theorem dX11_count_117 : decode cX11_count 117 = .ok (.ireturn, 1) := by decide +kernel
theorem dX11_count_118 : decode cX11_count 118 = .ok (.aload_n 0, 1) := by decide +kernel
theorem dX11_count_119 : decode cX11_count 119 = .ok (.getfield 35, 3) := by decide +kernel
theorem dX11_count_122 : decode cX11_count 122 = .ok (.getfield 371, 3) := by decide +kernel
theorem dX11_count_125 : decode cX11_count 125 = .ok (.ireturn, 1) := by decide +kernel
theorem dX11_count_126 : decode cX11_count 126 = .ok (.aload_n 0, 1) := by decide +kernel
theorem dX11_count_127 : decode cX11_count 127 = .ok (.getfield 28, 3) := by decide +kernel
theorem dX11_count_130 : decode cX11_count 130 = .ok (.getfield 121, 3) := by decide +kernel
theorem dX11_count_133 : decode cX11_count 133 = .ok (.ireturn, 1) := by decide +kernel
theorem dX11_count_134 : decode cX11_count 134 = .ok (.aload_n 0, 1) := by decide +kernel
theorem dX11_count_135 : decode cX11_count 135 = .ok (.getfield 10, 3) := by decide +kernel
theorem dX11_count_138 : decode cX11_count 138 = .ok (.getfield 100, 3) := by decide +kernel
theorem dX11_count_141 : decode cX11_count 141 = .ok (.ireturn, 1) := by decide +kernel
theorem dX11_count_142 : decode cX11_count 142 = .ok (.aload_n 0, 1) := by decide +kernel
theorem dX11_count_143 : decode cX11_count 143 = .ok (.getfield 49, 3) := by decide +kernel
theorem dX11_count_146 : decode cX11_count 146 = .ok (.invokevirtual 386, 3) := by decide +kernel
theorem dX11_count_149 : decode cX11_count 149 = .ok (.ireturn, 1) := by decide +kernel
theorem dX11_count_150 : decode cX11_count 150 = .ok (.iconst (-1), 1) := by decide +kernel
theorem dX11_count_151 : decode cX11_count 151 = .ok (.ireturn, 1) := by decide +kernel
theorem dX11_courseOfNow_0 : decode cX11_courseOfNow 0 = .ok (.aload_n 0, 1) := by decide +kernel
theorem dX11_courseOfNow_1 : decode cX11_courseOfNow 1 = .ok (.getfield 58, 3) := by decide +kernel
theorem dX11_courseOfNow_4 : decode cX11_courseOfNow 4 = .ok (.aload_n 0, 1) := by decide +kernel
theorem dX11_courseOfNow_5 : decode cX11_courseOfNow 5 = .ok (.getfield 35, 3) := by decide +kernel
theorem dX11_courseOfNow_8 : decode cX11_courseOfNow 8 = .ok (.iconst 0, 1) := by decide +kernel
theorem dX11_courseOfNow_9 : decode cX11_courseOfNow 9 = .ok (.invokevirtual 156, 3) := by decide +kernel
theorem dX11_courseOfNow_12 : decode cX11_courseOfNow 12 = .ok (.aload_n 0, 1) := by decide +kernel
theorem dX11_courseOfNow_13 : decode cX11_courseOfNow 13 = .ok (.getfield 35, 3) := by decide +kernel
theorem dX11_courseOfNow_16 : decode cX11_courseOfNow 16 = .ok (.iconst 1, 1) := by decide +kernel
theorem dX11_courseOfNow_17 : decode cX11_courseOfNow 17 = .ok (.invokevirtual 156, 3) := by decide +kernel
theorem dX11_courseOfNow_20 : decode cX11_courseOfNow 20 = .ok (.invokevirtual 182, 3) := by decide +kernel
theorem dX11_courseOfNow_23 : decode cX11_courseOfNow 23 = .ok (.aload_n 0, 1) := by decide +kernel
theorem dX11_courseOfNow_24 : decode cX11_courseOfNow 24 = .ok (.getfield 58, 3) := by decide +kernel
theorem dX11_courseOfNow_27 : decode cX11_courseOfNow 27 = .ok (.areturn, 1) := by decide +kernel
theorem dX11_cut_0 : decode cX11_cut 0 = .ok (.aload_n 0, 1) := by decide +kernel
theorem dX11_cut_1 : decode cX11_cut 1 = .ok (.iload_n 1, 1) := by decide +kernel
theorem dX11_cut_2 : decode cX11_cut 2 = .ok (.iload_n 2, 1) := by decide +kernel
theorem dX11_cut_3 : decode cX11_cut 3 = .ok (.invokevirtual 227, 3) := by decide +kernel
theorem dX11_cut_6 : decode cX11_cut 6 = .ok (.istore_n 3, 1) := by decide +kernel
theorem dX11_cut_7 : decode cX11_cut 7 = .ok (.iload_n 3, 1) := by decide +kernel
theorem dX11_cut_8 : decode cX11_cut 8 = .ok (.ifCond .eq 7, 3) := by decide +kernel
theorem dX11_cut_11 : decode cX11_cut 11 = .ok (.iload_n 3, 1) := by decide +kernel
theorem dX11_cut_12 : decode cX11_cut 12 = .ok (.goto 16, 3) := by decide +kernel
theorem dX11_cut_15 : decode cX11_cut 15 = .ok (.aload_n 0, 1) := by decide +kernel
theorem dX11_cut_16 : decode cX11_cut 16 = .ok (.getfield 72, 3) := by decide +kernel
theorem dX11_cut_19 : decode cX11_cut 19 = .ok (.aload_n 0, 1) := by decide +kernel
theorem dX11_cut_20 : decode cX11_cut 20 = .ok (.getfield 49, 3) := by decide +kernel

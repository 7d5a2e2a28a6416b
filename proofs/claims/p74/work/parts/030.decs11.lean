theorem dX12_isMan_8 : decode cX12_isMan 8 = .ok (.iconst 1, 1) := by decide +kernel
theorem dX12_isMan_9 : decode cX12_isMan 9 = .ok (.isub, 1) := by decide +kernel
theorem dX12_isMan_10 : decode cX12_isMan 10 = .ok (.i2l, 1) := by decide +kernel
theorem dX12_isMan_11 : decode cX12_isMan 11 = .ok (.invokestatic 70, 3) := by decide +kernel
theorem dX12_isMan_14 : decode cX12_isMan 14 = .ok (.ireturn, 1) := by decide +kernel
theorem dX12_isMeeting_0 : decode cX12_isMeeting 0 = .ok (.aload_n 0, 1) := by decide +kernel
theorem dX12_isMeeting_1 : decode cX12_isMeeting 1 = .ok (.iload_n 1, 1) := by decide +kernel
theorem dX12_isMeeting_2 : decode cX12_isMeeting 2 = .ok (.invokevirtual 246, 3) := by decide +kernel
theorem dX12_isMeeting_5 : decode cX12_isMeeting 5 = .ok (.ifCond .eq 15, 3) := by decide +kernel
theorem dX12_isMeeting_8 : decode cX12_isMeeting 8 = .ok (.aload_n 0, 1) := by decide +kernel
theorem dX12_isMeeting_9 : decode cX12_isMeeting 9 = .ok (.iload_n 1, 1) := by decide +kernel
theorem dX12_isMeeting_10 : decode cX12_isMeeting 10 = .ok (.invokevirtual 250, 3) := by decide +kernel
theorem dX12_isMeeting_13 : decode cX12_isMeeting 13 = .ok (.ifCond .ne 7, 3) := by decide +kernel
theorem dX12_isMeeting_16 : decode cX12_isMeeting 16 = .ok (.iconst 1, 1) := by decide +kernel
theorem dX12_isMeeting_17 : decode cX12_isMeeting 17 = .ok (.goto 4, 3) := by decide +kernel
theorem dX12_isMeeting_20 : decode cX12_isMeeting 20 = .ok (.iconst 0, 1) := by decide +kernel
theorem dX12_isMeeting_21 : decode cX12_isMeeting 21 = .ok (.ireturn, 1) := by decide +kernel
theorem dX12_isOut_0 : decode cX12_isOut 0 = .ok (.iload_n 2, 1) := by decide +kernel
theorem dX12_isOut_1 : decode cX12_isOut 1 = .ok (.iload_n 1, 1) := by decide +kernel
theorem dX12_isOut_2 : decode cX12_isOut 2 = .ok (.ifCond .ne 10, 3) := by decide +kernel
theorem dX12_isOut_5 : decode cX12_isOut 5 = .ok (.aload_n 0, 1) := by decide +kernel
theorem dX12_isOut_6 : decode cX12_isOut 6 = .ok (.getfield 211, 3) := by decide +kernel
theorem dX12_isOut_9 : decode cX12_isOut 9 = .ok (.goto 7, 3) := by decide +kernel
theorem dX12_isOut_12 : decode cX12_isOut 12 = .ok (.aload_n 0, 1) := by decide +kernel
theorem dX12_isOut_13 : decode cX12_isOut 13 = .ok (.getfield 214, 3) := by decide +kernel
theorem dX12_isOut_16 : decode cX12_isOut 16 = .ok (.isub, 1) := by decide +kernel
theorem dX12_isOut_17 : decode cX12_isOut 17 = .ok (.iload_n 1, 1) := by decide +kernel
theorem dX12_isOut_18 : decode cX12_isOut 18 = .ok (.ifCond .ne 12, 3) := by decide +kernel
theorem dX12_isOut_21 : decode cX12_isOut 21 = .ok (.aload_n 0, 1) := by decide +kernel
theorem dX12_isOut_22 : decode cX12_isOut 22 = .ok (.getfield 9, 3) := by decide +kernel
theorem dX12_isOut_25 : decode cX12_isOut 25 = .ok (.iconst 0, 1) := by decide +kernel
theorem dX12_isOut_26 : decode cX12_isOut 26 = .ok (.iaload, 1) := by decide +kernel
theorem dX12_isOut_27 : decode cX12_isOut 27 = .ok (.goto 9, 3) := by decide +kernel
theorem dX12_isOut_30 : decode cX12_isOut 30 = .ok (.aload_n 0, 1) := by decide +kernel
theorem dX12_isOut_31 : decode cX12_isOut 31 = .ok (.getfield 9, 3) := by decide +kernel
theorem dX12_isOut_34 : decode cX12_isOut 34 = .ok (.iconst 1, 1) := by decide +kernel
theorem dX12_isOut_35 : decode cX12_isOut 35 = .ok (.iaload, 1) := by decide +kernel
theorem dX12_isOut_36 : decode cX12_isOut 36 = .ok (.irem, 1) := by decide +kernel
theorem dX12_isOut_37 : decode cX12_isOut 37 = .ok (.ifCond .ne 7, 3) := by decide +kernel
theorem dX12_isOut_40 : decode cX12_isOut 40 = .ok (.iconst 1, 1) := by decide +kernel
theorem dX12_isOut_41 : decode cX12_isOut 41 = .ok (.goto 4, 3) := by decide +kernel
theorem dX12_isOut_44 : decode cX12_isOut 44 = .ok (.iconst 0, 1) := by decide +kernel
theorem dX12_isOut_45 : decode cX12_isOut 45 = .ok (.ireturn, 1) := by decide +kernel
theorem dX12_isPair_0 : decode cX12_isPair 0 = .ok (.aload_n 0, 1) := by decide +kernel
theorem dX12_isPair_1 : decode cX12_isPair 1 = .ok (.iload_n 1, 1) := by decide +kernel
theorem dX12_isPair_2 : decode cX12_isPair 2 = .ok (.iconst 0, 1) := by decide +kernel
theorem dX12_isPair_3 : decode cX12_isPair 3 = .ok (.invokevirtual 202, 3) := by decide +kernel
theorem dX12_isPair_6 : decode cX12_isPair 6 = .ok (.aload_n 0, 1) := by decide +kernel
theorem dX12_isPair_7 : decode cX12_isPair 7 = .ok (.iload_n 2, 1) := by decide +kernel
theorem dX12_isPair_8 : decode cX12_isPair 8 = .ok (.iconst 0, 1) := by decide +kernel
theorem dX12_isPair_9 : decode cX12_isPair 9 = .ok (.invokevirtual 202, 3) := by decide +kernel
theorem dX12_isPair_12 : decode cX12_isPair 12 = .ok (.if_icmp .eq 7, 3) := by decide +kernel
theorem dX12_isPair_15 : decode cX12_isPair 15 = .ok (.iconst 1, 1) := by decide +kernel
theorem dX12_isPair_16 : decode cX12_isPair 16 = .ok (.goto 4, 3) := by decide +kernel
theorem dX12_isPair_19 : decode cX12_isPair 19 = .ok (.iconst 0, 1) := by decide +kernel
theorem dX12_isPair_20 : decode cX12_isPair 20 = .ok (.ireturn, 1) := by decide +kernel
theorem dX12_isSeed_0 : decode cX12_isSeed 0 = .ok (.iload_n 0, 1) := by decide +kernel
theorem dX12_isSeed_1 : decode cX12_isSeed 1 = .ok (.i2l, 1) := by decide +kernel
theorem dX12_isSeed_2 : decode cX12_isSeed 2 = .ok (.lconst 0, 1) := by decide +kernel
theorem dX12_isSeed_3 : decode cX12_isSeed 3 = .ok (.ldc2_w 262, 3) := by decide +kernel
theorem dX12_isSeed_6 : decode cX12_isSeed 6 = .ok (.invokestatic 70, 3) := by decide +kernel
theorem dX12_isSeed_9 : decode cX12_isSeed 9 = .ok (.ireturn, 1) := by decide +kernel
theorem dX12_isSide_0 : decode cX12_isSide 0 = .ok (.aload_n 0, 1) := by decide +kernel
theorem dX12_isSide_1 : decode cX12_isSide 1 = .ok (.invokevirtual 74, 3) := by decide +kernel
theorem dX12_isSide_4 : decode cX12_isSide 4 = .ok (.ifCond .eq 17, 3) := by decide +kernel
theorem dX12_isSide_7 : decode cX12_isSide 7 = .ok (.iload_n 1, 1) := by decide +kernel
theorem dX12_isSide_8 : decode cX12_isSide 8 = .ok (.i2l, 1) := by decide +kernel
theorem dX12_isSide_9 : decode cX12_isSide 9 = .ok (.lconst 0, 1) := by decide +kernel
theorem dX12_isSide_10 : decode cX12_isSide 10 = .ok (.lconst 1, 1) := by decide +kernel
theorem dX12_isSide_11 : decode cX12_isSide 11 = .ok (.invokestatic 70, 3) := by decide +kernel
theorem dX12_isSide_14 : decode cX12_isSide 14 = .ok (.ifCond .eq 7, 3) := by decide +kernel
theorem dX12_isSide_17 : decode cX12_isSide 17 = .ok (.iconst 1, 1) := by decide +kernel
theorem dX12_isSide_18 : decode cX12_isSide 18 = .ok (.goto 4, 3) := by decide +kernel
theorem dX12_isSide_21 : decode cX12_isSide 21 = .ok (.iconst 0, 1) := by decide +kernel
theorem dX12_isSide_22 : decode cX12_isSide 22 = .ok (.ireturn, 1) := by decide +kernel
theorem dX12_isSigned_0 : decode cX12_isSigned 0 = .ok (.aload_n 0, 1) := by decide +kernel
theorem dX12_isSigned_1 : decode cX12_isSigned 1 = .ok (.iload_n 1, 1) := by decide +kernel
theorem dX12_isSigned_2 : decode cX12_isSigned 2 = .ok (.iconst 0, 1) := by decide +kernel
theorem dX12_isSigned_3 : decode cX12_isSigned 3 = .ok (.invokevirtual 361, 3) := by decide +kernel
theorem dX12_isSigned_6 : decode cX12_isSigned 6 = .ok (.ifCond .lt 16, 3) := by decide +kernel
theorem dX12_isSigned_9 : decode cX12_isSigned 9 = .ok (.aload_n 0, 1) := by decide +kernel
theorem dX12_isSigned_10 : decode cX12_isSigned 10 = .ok (.iload_n 1, 1) := by decide +kernel
theorem dX12_isSigned_11 : decode cX12_isSigned 11 = .ok (.iconst 1, 1) := by decide +kernel
theorem dX12_isSigned_12 : decode cX12_isSigned 12 = .ok (.invokevirtual 361, 3) := by decide +kernel
theorem dX12_isSigned_15 : decode cX12_isSigned 15 = .ok (.ifCond .lt 7, 3) := by decide +kernel
theorem dX12_isSigned_18 : decode cX12_isSigned 18 = .ok (.iconst 1, 1) := by decide +kernel
theorem dX12_isSigned_19 : decode cX12_isSigned 19 = .ok (.goto 4, 3) := by decide +kernel
theorem dX12_isSigned_22 : decode cX12_isSigned 22 = .ok (.iconst 0, 1) := by decide +kernel
theorem dX12_isSigned_23 : decode cX12_isSigned 23 = .ok (.ireturn, 1) := by decide +kernel
theorem dX12_isSlot_0 : decode cX12_isSlot 0 = .ok (.iload_n 0, 1) := by decide +kernel
theorem dX12_isSlot_1 : decode cX12_isSlot 1 = .ok (.i2l, 1) := by decide +kernel
theorem dX12_isSlot_2 : decode cX12_isSlot 2 = .ok (.lconst 0, 1) := by decide +kernel
theorem dX12_isSlot_3 : decode cX12_isSlot 3 = .ok (.ldc2_w 459, 3) := by decide +kernel
theorem dX12_isSlot_6 : decode cX12_isSlot 6 = .ok (.invokestatic 70, 3) := by decide +kernel
theorem dX12_isSlot_9 : decode cX12_isSlot 9 = .ok (.ireturn, 1) := by decide +kernel
theorem dX12_isSure_0 : decode cX12_isSure 0 = .ok (.bipush 10, 2) := by decide +kernel
theorem dX12_isSure_2 : decode cX12_isSure 2 = .ok (.aload_n 0, 1) := by decide +kernel
theorem dX12_isSure_3 : decode cX12_isSure 3 = .ok (.getfield 9, 3) := by decide +kernel
theorem dX12_isSure_6 : decode cX12_isSure 6 = .ok (.iconst 2, 1) := by decide +kernel
theorem dX12_isSure_7 : decode cX12_isSure 7 = .ok (.iaload, 1) := by decide +kernel
theorem dX12_isSure_8 : decode cX12_isSure 8 = .ok (.isub, 1) := by decide +kernel
theorem dX12_isSure_9 : decode cX12_isSure 9 = .ok (.i2l, 1) := by decide +kernel
theorem dX12_isSure_10 : decode cX12_isSure 10 = .ok (.iload_n 1, 1) := by decide +kernel
theorem dX12_isSure_11 : decode cX12_isSure 11 = .ok (.invokestatic 413, 3) := by decide +kernel
theorem dX12_isSure_14 : decode cX12_isSure 14 = .ok (.lstore_n 3, 1) := by decide +kernel
theorem dX12_isSure_15 : decode cX12_isSure 15 = .ok (.iload_n 1, 1) := by decide +kernel
theorem dX12_isSure_16 : decode cX12_isSure 16 = .ok (.iconst 2, 1) := by decide +kernel
theorem dX12_isSure_17 : decode cX12_isSure 17 = .ok (.if_icmp .ge 30, 3) := by decide +kernel
theorem dX12_isSure_20 : decode cX12_isSure 20 = .ok (.lload_n 3, 1) := by decide +kernel
theorem dX12_isSure_21 : decode cX12_isSure 21 = .ok (.ldc2_w 423, 3) := by decide +kernel
theorem dX12_isSure_24 : decode cX12_isSure 24 = .ok (.lmul, 1) := by decide +kernel
theorem dX12_isSure_25 : decode cX12_isSure 25 = .ok (.iload_n 2, 1) := by decide +kernel
theorem dX12_isSure_26 : decode cX12_isSure 26 = .ok (.i2l, 1) := by decide +kernel
theorem dX12_isSure_27 : decode cX12_isSure 27 = .ok (.ldc2_w 417, 3) := by decide +kernel
theorem dX12_isSure_30 : decode cX12_isSure 30 = .ok (.iload_n 1, 1) := by decide +kernel
theorem dX12_isSure_31 : decode cX12_isSure 31 = .ok (.invokestatic 413, 3) := by decide +kernel
theorem dX12_isSure_34 : decode cX12_isSure 34 = .ok (.lmul, 1) := by decide +kernel
theorem dX12_isSure_35 : decode cX12_isSure 35 = .ok (.lcmp, 1) := by decide +kernel
theorem dX12_isSure_36 : decode cX12_isSure 36 = .ok (.ifCond .lt 7, 3) := by decide +kernel
theorem dX12_isSure_39 : decode cX12_isSure 39 = .ok (.iconst 1, 1) := by decide +kernel
theorem dX12_isSure_40 : decode cX12_isSure 40 = .ok (.goto 29, 3) := by decide +kernel
theorem dX12_isSure_43 : decode cX12_isSure 43 = .ok (.iconst 0, 1) := by decide +kernel
theorem dX12_isSure_44 : decode cX12_isSure 44 = .ok (.goto 25, 3) := by decide +kernel
theorem dX12_isSure_47 : decode cX12_isSure 47 = .ok (.lload_n 3, 1) := by decide +kernel
theorem dX12_isSure_48 : decode cX12_isSure 48 = .ok (.iload_n 2, 1) := by decide +kernel
theorem dX12_isSure_49 : decode cX12_isSure 49 = .ok (.i2l, 1) := by decide +kernel
theorem dX12_isSure_50 : decode cX12_isSure 50 = .ok (.ldc2_w 417, 3) := by decide +kernel
theorem dX12_isSure_53 : decode cX12_isSure 53 = .ok (.iload_n 1, 1) := by decide +kernel
theorem dX12_isSure_54 : decode cX12_isSure 54 = .ok (.iconst 2, 1) := by decide +kernel
theorem dX12_isSure_55 : decode cX12_isSure 55 = .ok (.isub, 1) := by decide +kernel
theorem dX12_isSure_56 : decode cX12_isSure 56 = .ok (.invokestatic 413, 3) := by decide +kernel
theorem dX12_isSure_59 : decode cX12_isSure 59 = .ok (.lmul, 1) := by decide +kernel
theorem dX12_isSure_60 : decode cX12_isSure 60 = .ok (.lcmp, 1) := by decide +kernel
theorem dX12_isSure_61 : decode cX12_isSure 61 = .ok (.ifCond .lt 7, 3) := by decide +kernel
theorem dX12_isSure_64 : decode cX12_isSure 64 = .ok (.iconst 1, 1) := by decide +kernel
theorem dX12_isSure_65 : decode cX12_isSure 65 = .ok (.goto 4, 3) := by decide +kernel
theorem dX12_isSure_68 : decode cX12_isSure 68 = .ok (.iconst 0, 1) := by decide +kernel
theorem dX12_isSure_69 : decode cX12_isSure 69 = .ok (.ireturn, 1) := by decide +kernel
theorem dX12_keepAct_0 : decode cX12_keepAct 0 = .ok (.aload_n 0, 1) := by decide +kernel
theorem dX12_keepAct_1 : decode cX12_keepAct 1 = .ok (.getfield 9, 3) := by decide +kernel
theorem dX12_keepAct_4 : decode cX12_keepAct 4 = .ok (.bipush 7, 2) := by decide +kernel
theorem dX12_keepAct_6 : decode cX12_keepAct 6 = .ok (.iaload, 1) := by decide +kernel
theorem dX12_keepAct_7 : decode cX12_keepAct 7 = .ok (.bipush 60, 2) := by decide +kernel
theorem dX12_keepAct_9 : decode cX12_keepAct 9 = .ok (.if_icmp .ne 5, 3) := by decide +kernel
theorem dX12_keepAct_12 : decode cX12_keepAct 12 = .ok (.iconst 0, 1) := by decide +kernel
theorem dX12_keepAct_13 : decode cX12_keepAct 13 = .ok (.ireturn, 1) := by decide +kernel
theorem dX12_keepAct_14 : decode cX12_keepAct 14 = .ok (.aload_n 0, 1) := by decide +kernel
theorem dX12_keepAct_15 : decode cX12_keepAct 15 = .ok (.getfield 9, 3) := by decide +kernel
theorem dX12_keepAct_18 : decode cX12_keepAct 18 = .ok (.bipush 62, 2) := by decide +kernel
theorem dX12_keepAct_20 : decode cX12_keepAct 20 = .ok (.aload_n 0, 1) := by decide +kernel
theorem dX12_keepAct_21 : decode cX12_keepAct 21 = .ok (.getfield 9, 3) := by decide +kernel
theorem dX12_keepAct_24 : decode cX12_keepAct 24 = .ok (.bipush 7, 2) := by decide +kernel
theorem dX12_keepAct_26 : decode cX12_keepAct 26 = .ok (.iaload, 1) := by decide +kernel
theorem dX12_keepAct_27 : decode cX12_keepAct 27 = .ok (.iadd, 1) := by decide +kernel
theorem dX12_keepAct_28 : decode cX12_keepAct 28 = .ok (.bipush 100, 2) := by decide +kernel
theorem dX12_keepAct_30 : decode cX12_keepAct 30 = .ok (.iload_n 1, 1) := by decide +kernel
theorem dX12_keepAct_31 : decode cX12_keepAct 31 = .ok (.imul, 1) := by decide +kernel
theorem dX12_keepAct_32 : decode cX12_keepAct 32 = .ok (.iload_n 2, 1) := by decide +kernel
theorem dX12_keepAct_33 : decode cX12_keepAct 33 = .ok (.iadd, 1) := by decide +kernel
theorem dX12_keepAct_34 : decode cX12_keepAct 34 = .ok (.iastore, 1) := by decide +kernel
theorem dX12_keepAct_35 : decode cX12_keepAct 35 = .ok (.aload_n 0, 1) := by decide +kernel
theorem dX12_keepAct_36 : decode cX12_keepAct 36 = .ok (.getfield 9, 3) := by decide +kernel
theorem dX12_keepAct_39 : decode cX12_keepAct 39 = .ok (.bipush 7, 2) := by decide +kernel
theorem dX12_keepAct_41 : decode cX12_keepAct 41 = .ok (.dup2, 1) := by decide +kernel
theorem dX12_keepAct_42 : decode cX12_keepAct 42 = .ok (.iaload, 1) := by decide +kernel
theorem dX12_keepAct_43 : decode cX12_keepAct 43 = .ok (.iconst 1, 1) := by decide +kernel
theorem dX12_keepAct_44 : decode cX12_keepAct 44 = .ok (.iadd, 1) := by decide +kernel
theorem dX12_keepAct_45 : decode cX12_keepAct 45 = .ok (.iastore, 1) := by decide +kernel
theorem dX12_keepAct_46 : decode cX12_keepAct 46 = .ok (.aload_n 0, 1) := by decide +kernel
theorem dX12_keepAct_47 : decode cX12_keepAct 47 = .ok (.invokevirtual 259, 3) := by decide +kernel
theorem dX12_keepAct_50 : decode cX12_keepAct 50 = .ok (.iconst 1, 1) := by decide +kernel
theorem dX12_keepAct_51 : decode cX12_keepAct 51 = .ok (.ireturn, 1) := by decide +kernel
theorem dX12_kept_0 : decode cX12_kept 0 = .ok (.aload_n 0, 1) := by decide +kernel
theorem dX12_kept_1 : decode cX12_kept 1 = .ok (.invokevirtual 74, 3) := by decide +kernel
theorem dX12_kept_4 : decode cX12_kept 4 = .ok (.ifCond .ne 6, 3) := by decide +kernel
theorem dX12_kept_7 : decode cX12_kept 7 = .ok (.bipush (-2), 2) := by decide +kernel
theorem dX12_kept_9 : decode cX12_kept 9 = .ok (.ireturn, 1) := by decide +kernel
theorem dX12_kept_10 : decode cX12_kept 10 = .ok (.aload_n 0, 1) := by decide +kernel
theorem dX12_kept_11 : decode cX12_kept 11 = .ok (.invokevirtual 259, 3) := by decide +kernel
theorem dX12_kept_14 : decode cX12_kept 14 = .ok (.iconst 0, 1) := by decide +kernel
theorem dX12_kept_15 : decode cX12_kept 15 = .ok (.istore_n 1, 1) := by decide +kernel
theorem dX12_kept_16 : decode cX12_kept 16 = .ok (.iconst 0, 1) := by decide +kernel
theorem dX12_kept_17 : decode cX12_kept 17 = .ok (.istore_n 2, 1) := by decide +kernel
theorem dX12_kept_18 : decode cX12_kept 18 = .ok (.iload_n 2, 1) := by decide +kernel
theorem dX12_kept_19 : decode cX12_kept 19 = .ok (.sipush 10000, 3) := by decide +kernel
theorem dX12_kept_22 : decode cX12_kept 22 = .ok (.if_icmp .gt 33, 3) := by decide +kernel
theorem dX12_kept_25 : decode cX12_kept 25 = .ok (.iload_n 1, 1) := by decide +kernel
theorem dX12_kept_26 : decode cX12_kept 26 = .ok (.aload_n 0, 1) := by decide +kernel
theorem dX12_kept_27 : decode cX12_kept 27 = .ok (.iload_n 2, 1) := by decide +kernel
theorem dX12_kept_28 : decode cX12_kept 28 = .ok (.invokevirtual 246, 3) := by decide +kernel
theorem dX12_kept_31 : decode cX12_kept 31 = .ok (.ifCond .eq 15, 3) := by decide +kernel
theorem dX12_kept_34 : decode cX12_kept 34 = .ok (.aload_n 0, 1) := by decide +kernel
theorem dX12_kept_35 : decode cX12_kept 35 = .ok (.iload_n 2, 1) := by decide +kernel
theorem dX12_kept_36 : decode cX12_kept 36 = .ok (.invokevirtual 250, 3) := by decide +kernel
theorem dX12_kept_39 : decode cX12_kept 39 = .ok (.ifCond .eq 7, 3) := by decide +kernel
theorem dX12_kept_42 : decode cX12_kept 42 = .ok (.iconst 1, 1) := by decide +kernel
theorem dX12_kept_43 : decode cX12_kept 43 = .ok (.goto 4, 3) := by decide +kernel
theorem dX12_kept_46 : decode cX12_kept 46 = .ok (.iconst 0, 1) := by decide +kernel
theorem dX12_kept_47 : decode cX12_kept 47 = .ok (.iadd, 1) := by decide +kernel
theorem dX12_kept_48 : decode cX12_kept 48 = .ok (.istore_n 1, 1) := by decide +kernel
theorem dX12_kept_49 : decode cX12_kept 49 = .ok (.iinc 2 1, 3) := by decide +kernel
theorem dX12_kept_52 : decode cX12_kept 52 = .ok (.goto (-34), 3) := by decide +kernel
theorem dX12_kept_55 : decode cX12_kept 55 = .ok (.iload_n 1, 1) := by decide +kernel
theorem dX12_kept_56 : decode cX12_kept 56 = .ok (.ireturn, 1) := by decide +kernel
theorem dX12_layBundles_0 : decode cX12_layBundles 0 = .ok (.aload_n 0, 1) := by decide +kernel
theorem dX12_layBundles_1 : decode cX12_layBundles 1 = .ok (.iconst (-1), 1) := by decide +kernel
theorem dX12_layBundles_2 : decode cX12_layBundles 2 = .ok (.putfield 376, 3) := by decide +kernel
theorem dX12_layBundles_5 : decode cX12_layBundles 5 = .ok (.iconst 0, 1) := by decide +kernel
theorem dX12_layBundles_6 : decode cX12_layBundles 6 = .ok (.istore_n 1, 1) := by decide +kernel
theorem dX12_layBundles_7 : decode cX12_layBundles 7 = .ok (.aload_n 0, 1) := by decide +kernel
theorem dX12_layBundles_8 : decode cX12_layBundles 8 = .ok (.getfield 9, 3) := by decide +kernel
theorem dX12_layBundles_11 : decode cX12_layBundles 11 = .ok (.iconst 5, 1) := by decide +kernel
theorem dX12_layBundles_12 : decode cX12_layBundles 12 = .ok (.iaload, 1) := by decide +kernel
theorem dX12_layBundles_13 : decode cX12_layBundles 13 = .ok (.iconst 1, 1) := by decide +kernel
theorem dX12_layBundles_14 : decode cX12_layBundles 14 = .ok (.isub, 1) := by decide +kernel
theorem dX12_layBundles_15 : decode cX12_layBundles 15 = .ok (.istore_n 2, 1) := by decide +kernel
theorem dX12_layBundles_16 : decode cX12_layBundles 16 = .ok (.iload_n 2, 1) := by decide +kernel
theorem dX12_layBundles_17 : decode cX12_layBundles 17 = .ok (.ifCond .lt 79, 3) := by decide +kernel
theorem dX12_layBundles_20 : decode cX12_layBundles 20 = .ok (.aload_n 0, 1) := by decide +kernel
theorem dX12_layBundles_21 : decode cX12_layBundles 21 = .ok (.getfield 9, 3) := by decide +kernel
theorem dX12_layBundles_24 : decode cX12_layBundles 24 = .ok (.iconst 5, 1) := by decide +kernel
theorem dX12_layBundles_25 : decode cX12_layBundles 25 = .ok (.iaload, 1) := by decide +kernel
theorem dX12_layBundles_26 : decode cX12_layBundles 26 = .ok (.iconst 1, 1) := by decide +kernel
theorem dX12_layBundles_27 : decode cX12_layBundles 27 = .ok (.isub, 1) := by decide +kernel
theorem dX12_layBundles_28 : decode cX12_layBundles 28 = .ok (.istore_n 3, 1) := by decide +kernel
theorem dX12_layBundles_29 : decode cX12_layBundles 29 = .ok (.iload_n 3, 1) := by decide +kernel
theorem dX12_layBundles_30 : decode cX12_layBundles 30 = .ok (.iload_n 2, 1) := by decide +kernel
theorem dX12_layBundles_31 : decode cX12_layBundles 31 = .ok (.if_icmp .le 59, 3) := by decide +kernel
theorem dX12_layBundles_34 : decode cX12_layBundles 34 = .ok (.aload_n 0, 1) := by decide +kernel
theorem dX12_layBundles_35 : decode cX12_layBundles 35 = .ok (.iconst 1, 1) := by decide +kernel
theorem dX12_layBundles_36 : decode cX12_layBundles 36 = .ok (.iload_n 2, 1) := by decide +kernel
theorem dX12_layBundles_37 : decode cX12_layBundles 37 = .ok (.ishl, 1) := by decide +kernel
theorem dX12_layBundles_38 : decode cX12_layBundles 38 = .ok (.invokevirtual 370, 3) := by decide +kernel
theorem dX12_layBundles_41 : decode cX12_layBundles 41 = .ok (.ifCond .ne 43, 3) := by decide +kernel
theorem dX12_layBundles_44 : decode cX12_layBundles 44 = .ok (.aload_n 0, 1) := by decide +kernel
theorem dX12_layBundles_45 : decode cX12_layBundles 45 = .ok (.iconst 1, 1) := by decide +kernel
theorem dX12_layBundles_46 : decode cX12_layBundles 46 = .ok (.iload_n 3, 1) := by decide +kernel
theorem dX12_layBundles_47 : decode cX12_layBundles 47 = .ok (.ishl, 1) := by decide +kernel
theorem dX12_layBundles_48 : decode cX12_layBundles 48 = .ok (.invokevirtual 370, 3) := by decide +kernel
theorem dX12_layBundles_51 : decode cX12_layBundles 51 = .ok (.ifCond .ne 33, 3) := by decide +kernel
theorem dX12_layBundles_54 : decode cX12_layBundles 54 = .ok (.aload_n 0, 1) := by decide +kernel
theorem dX12_layBundles_55 : decode cX12_layBundles 55 = .ok (.iconst 1, 1) := by decide +kernel
theorem dX12_layBundles_56 : decode cX12_layBundles 56 = .ok (.iload_n 2, 1) := by decide +kernel
theorem dX12_layBundles_57 : decode cX12_layBundles 57 = .ok (.ishl, 1) := by decide +kernel
theorem dX12_layBundles_58 : decode cX12_layBundles 58 = .ok (.iconst 1, 1) := by decide +kernel
theorem dX12_layBundles_59 : decode cX12_layBundles 59 = .ok (.iload_n 3, 1) := by decide +kernel
theorem dX12_layBundles_60 : decode cX12_layBundles 60 = .ok (.ishl, 1) := by decide +kernel
theorem dX12_layBundles_61 : decode cX12_layBundles 61 = .ok (.ior, 1) := by decide +kernel
theorem dX12_layBundles_62 : decode cX12_layBundles 62 = .ok (.invokevirtual 370, 3) := by decide +kernel
theorem dX12_layBundles_65 : decode cX12_layBundles 65 = .ok (.ifCond .ne 6, 3) := by decide +kernel
theorem dX12_layBundles_68 : decode cX12_layBundles 68 = .ok (.goto 16, 3) := by decide +kernel
theorem dX12_layBundles_71 : decode cX12_layBundles 71 = .ok (.aload_n 0, 1) := by decide +kernel
theorem dX12_layBundles_72 : decode cX12_layBundles 72 = .ok (.bipush 10, 2) := by decide +kernel
theorem dX12_layBundles_74 : decode cX12_layBundles 74 = .ok (.iload_n 2, 1) := by decide +kernel
theorem dX12_layBundles_75 : decode cX12_layBundles 75 = .ok (.imul, 1) := by decide +kernel
theorem dX12_layBundles_76 : decode cX12_layBundles 76 = .ok (.iload_n 3, 1) := by decide +kernel
theorem dX12_layBundles_77 : decode cX12_layBundles 77 = .ok (.iadd, 1) := by decide +kernel
theorem dX12_layBundles_78 : decode cX12_layBundles 78 = .ok (.putfield 376, 3) := by decide +kernel
theorem dX12_layBundles_81 : decode cX12_layBundles 81 = .ok (.iinc 1 1, 3) := by decide +kernel
theorem dX12_layBundles_84 : decode cX12_layBundles 84 = .ok (.iinc 3 (-1), 3) := by decide +kernel
theorem dX12_layBundles_87 : decode cX12_layBundles 87 = .ok (.goto (-58), 3) := by decide +kernel
theorem dX12_layBundles_90 : decode cX12_layBundles 90 = .ok (.iinc 2 (-1), 3) := by decide +kernel
theorem dX12_layBundles_93 : decode cX12_layBundles 93 = .ok (.goto (-77), 3) := by decide +kernel
theorem dX12_layBundles_96 : decode cX12_layBundles 96 = .ok (.iload_n 1, 1) := by decide +kernel
theorem dX12_layBundles_97 : decode cX12_layBundles 97 = .ok (.ireturn, 1) := by decide +kernel
theorem dX12_layMatch_0 : decode cX12_layMatch 0 = .ok (.aload_n 0, 1) := by decide +kernel
theorem dX12_layMatch_1 : decode cX12_layMatch 1 = .ok (.getfield 9, 3) := by decide +kernel
theorem dX12_layMatch_4 : decode cX12_layMatch 4 = .ok (.iconst 4, 1) := by decide +kernel
theorem dX12_layMatch_5 : decode cX12_layMatch 5 = .ok (.iaload, 1) := by decide +kernel
theorem dX12_layMatch_6 : decode cX12_layMatch 6 = .ok (.istore_n 2, 1) := by decide +kernel
theorem dX12_layMatch_7 : decode cX12_layMatch 7 = .ok (.iload_n 2, 1) := by decide +kernel
theorem dX12_layMatch_8 : decode cX12_layMatch 8 = .ok (.istore_n 3, 1) := by decide +kernel
theorem dX12_layMatch_9 : decode cX12_layMatch 9 = .ok (.iload_n 3, 1) := by decide +kernel
theorem dX12_layMatch_10 : decode cX12_layMatch 10 = .ok (.ifCond .lt 221, 3) := by decide +kernel
theorem dX12_layMatch_13 : decode cX12_layMatch 13 = .ok (.iconst 0, 1) := by decide +kernel
theorem dX12_layMatch_14 : decode cX12_layMatch 14 = .ok (.istore 4, 2) := by decide +kernel
theorem dX12_layMatch_16 : decode cX12_layMatch 16 = .ok (.iload 4, 2) := by decide +kernel
theorem dX12_layMatch_18 : decode cX12_layMatch 18 = .ok (.iconst 1, 1) := by decide +kernel
theorem dX12_layMatch_19 : decode cX12_layMatch 19 = .ok (.iload_n 2, 1) := by decide +kernel
theorem dX12_layMatch_20 : decode cX12_layMatch 20 = .ok (.ishl, 1) := by decide +kernel
theorem dX12_layMatch_21 : decode cX12_layMatch 21 = .ok (.if_icmp .ge 204, 3) := by decide +kernel
theorem dX12_layMatch_24 : decode cX12_layMatch 24 = .ok (.iload_n 3, 1) := by decide +kernel
theorem dX12_layMatch_25 : decode cX12_layMatch 25 = .ok (.iload_n 2, 1) := by decide +kernel
theorem dX12_layMatch_26 : decode cX12_layMatch 26 = .ok (.if_icmp .ne 7, 3) := by decide +kernel
theorem dX12_layMatch_29 : decode cX12_layMatch 29 = .ok (.iconst 0, 1) := by decide +kernel
theorem dX12_layMatch_30 : decode cX12_layMatch 30 = .ok (.goto 12, 3) := by decide +kernel
theorem dX12_layMatch_33 : decode cX12_layMatch 33 = .ok (.aload_n 0, 1) := by decide +kernel
theorem dX12_layMatch_34 : decode cX12_layMatch 34 = .ok (.iload_n 3, 1) := by decide +kernel
theorem dX12_layMatch_35 : decode cX12_layMatch 35 = .ok (.iconst 1, 1) := by decide +kernel
theorem dX12_layMatch_36 : decode cX12_layMatch 36 = .ok (.iadd, 1) := by decide +kernel
theorem dX12_layMatch_37 : decode cX12_layMatch 37 = .ok (.iload 4, 2) := by decide +kernel
theorem dX12_layMatch_39 : decode cX12_layMatch 39 = .ok (.invokevirtual 296, 3) := by decide +kernel
theorem dX12_layMatch_42 : decode cX12_layMatch 42 = .ok (.istore 5, 2) := by decide +kernel
theorem dX12_layMatch_44 : decode cX12_layMatch 44 = .ok (.iload_n 3, 1) := by decide +kernel
theorem dX12_layMatch_45 : decode cX12_layMatch 45 = .ok (.iload_n 2, 1) := by decide +kernel
theorem dX12_layMatch_46 : decode cX12_layMatch 46 = .ok (.if_icmp .ne 7, 3) := by decide +kernel
theorem dX12_layMatch_49 : decode cX12_layMatch 49 = .ok (.iconst 0, 1) := by decide +kernel
theorem dX12_layMatch_50 : decode cX12_layMatch 50 = .ok (.goto 17, 3) := by decide +kernel
theorem dX12_layMatch_53 : decode cX12_layMatch 53 = .ok (.aload_n 0, 1) := by decide +kernel
theorem dX12_layMatch_54 : decode cX12_layMatch 54 = .ok (.getfield 37, 3) := by decide +kernel
theorem dX12_layMatch_57 : decode cX12_layMatch 57 = .ok (.iload_n 3, 1) := by decide +kernel
theorem dX12_layMatch_58 : decode cX12_layMatch 58 = .ok (.iconst 1, 1) := by decide +kernel
theorem dX12_layMatch_59 : decode cX12_layMatch 59 = .ok (.iadd, 1) := by decide +kernel
theorem dX12_layMatch_60 : decode cX12_layMatch 60 = .ok (.bipush 8, 2) := by decide +kernel
theorem dX12_layMatch_62 : decode cX12_layMatch 62 = .ok (.ishl, 1) := by decide +kernel
theorem dX12_layMatch_63 : decode cX12_layMatch 63 = .ok (.iload 4, 2) := by decide +kernel
theorem dX12_layMatch_65 : decode cX12_layMatch 65 = .ok (.ior, 1) := by decide +kernel
theorem dX12_layMatch_66 : decode cX12_layMatch 66 = .ok (.iaload, 1) := by decide +kernel
theorem dX12_layMatch_67 : decode cX12_layMatch 67 = .ok (.istore 6, 2) := by decide +kernel
theorem dX12_layMatch_69 : decode cX12_layMatch 69 = .ok (.iconst 0, 1) := by decide +kernel
theorem dX12_layMatch_70 : decode cX12_layMatch 70 = .ok (.istore 7, 2) := by decide +kernel
theorem dX12_layMatch_72 : decode cX12_layMatch 72 = .ok (.iload 7, 2) := by decide +kernel
theorem dX12_layMatch_74 : decode cX12_layMatch 74 = .ok (.iload_n 2, 1) := by decide +kernel
theorem dX12_layMatch_75 : decode cX12_layMatch 75 = .ok (.if_icmp .ge 116, 3) := by decide +kernel
theorem dX12_layMatch_78 : decode cX12_layMatch 78 = .ok (.iload_n 3, 1) := by decide +kernel
theorem dX12_layMatch_79 : decode cX12_layMatch 79 = .ok (.iload_n 2, 1) := by decide +kernel
theorem dX12_layMatch_80 : decode cX12_layMatch 80 = .ok (.if_icmp .ge 111, 3) := by decide +kernel
theorem dX12_layMatch_83 : decode cX12_layMatch 83 = .ok (.aload_n 0, 1) := by decide +kernel
theorem dX12_layMatch_84 : decode cX12_layMatch 84 = .ok (.iload_n 3, 1) := by decide +kernel
theorem dX12_layMatch_85 : decode cX12_layMatch 85 = .ok (.iconst 0, 1) := by decide +kernel
theorem dX12_layMatch_86 : decode cX12_layMatch 86 = .ok (.invokevirtual 202, 3) := by decide +kernel
theorem dX12_layMatch_89 : decode cX12_layMatch 89 = .ok (.ifCond .ne 96, 3) := by decide +kernel
theorem dX12_layMatch_92 : decode cX12_layMatch 92 = .ok (.aload_n 0, 1) := by decide +kernel
theorem dX12_layMatch_93 : decode cX12_layMatch 93 = .ok (.iload 7, 2) := by decide +kernel
theorem dX12_layMatch_95 : decode cX12_layMatch 95 = .ok (.iconst 0, 1) := by decide +kernel
theorem dX12_layMatch_96 : decode cX12_layMatch 96 = .ok (.invokevirtual 202, 3) := by decide +kernel
theorem dX12_layMatch_99 : decode cX12_layMatch 99 = .ok (.iconst 1, 1) := by decide +kernel
theorem dX12_layMatch_100 : decode cX12_layMatch 100 = .ok (.if_icmp .ne 85, 3) := by decide +kernel
theorem dX12_layMatch_103 : decode cX12_layMatch 103 = .ok (.iload 4, 2) := by decide +kernel
theorem dX12_layMatch_105 : decode cX12_layMatch 105 = .ok (.iload 7, 2) := by decide +kernel
theorem dX12_layMatch_107 : decode cX12_layMatch 107 = .ok (.invokestatic 299, 3) := by decide +kernel
theorem dX12_layMatch_110 : decode cX12_layMatch 110 = .ok (.iconst 1, 1) := by decide +kernel
theorem dX12_layMatch_111 : decode cX12_layMatch 111 = .ok (.if_icmp .ne 6, 3) := by decide +kernel
theorem dX12_layMatch_114 : decode cX12_layMatch 114 = .ok (.goto 71, 3) := by decide +kernel
theorem dX12_layMatch_117 : decode cX12_layMatch 117 = .ok (.iload 5, 2) := by decide +kernel
theorem dX12_layMatch_119 : decode cX12_layMatch 119 = .ok (.aload_n 0, 1) := by decide +kernel
theorem dX12_layMatch_120 : decode cX12_layMatch 120 = .ok (.iload_n 3, 1) := by decide +kernel
theorem dX12_layMatch_121 : decode cX12_layMatch 121 = .ok (.iload 7, 2) := by decide +kernel
theorem dX12_layMatch_123 : decode cX12_layMatch 123 = .ok (.invokevirtual 239, 3) := by decide +kernel
theorem dX12_layMatch_126 : decode cX12_layMatch 126 = .ok (.aload_n 0, 1) := by decide +kernel
theorem dX12_layMatch_127 : decode cX12_layMatch 127 = .ok (.iload_n 3, 1) := by decide +kernel
theorem dX12_layMatch_128 : decode cX12_layMatch 128 = .ok (.iconst 1, 1) := by decide +kernel
theorem dX12_layMatch_129 : decode cX12_layMatch 129 = .ok (.iadd, 1) := by decide +kernel
theorem dX12_layMatch_130 : decode cX12_layMatch 130 = .ok (.iload 4, 2) := by decide +kernel
theorem dX12_layMatch_132 : decode cX12_layMatch 132 = .ok (.iconst 1, 1) := by decide +kernel
theorem dX12_layMatch_133 : decode cX12_layMatch 133 = .ok (.iload 7, 2) := by decide +kernel
theorem dX12_layMatch_135 : decode cX12_layMatch 135 = .ok (.ishl, 1) := by decide +kernel
theorem dX12_layMatch_136 : decode cX12_layMatch 136 = .ok (.ior, 1) := by decide +kernel
theorem dX12_layMatch_137 : decode cX12_layMatch 137 = .ok (.invokevirtual 296, 3) := by decide +kernel
theorem dX12_layMatch_140 : decode cX12_layMatch 140 = .ok (.iadd, 1) := by decide +kernel
theorem dX12_layMatch_141 : decode cX12_layMatch 141 = .ok (.invokestatic 271, 3) := by decide +kernel
theorem dX12_layMatch_144 : decode cX12_layMatch 144 = .ok (.istore 5, 2) := by decide +kernel
theorem dX12_layMatch_146 : decode cX12_layMatch 146 = .ok (.aload_n 0, 1) := by decide +kernel
theorem dX12_layMatch_147 : decode cX12_layMatch 147 = .ok (.iload_n 3, 1) := by decide +kernel
theorem dX12_layMatch_148 : decode cX12_layMatch 148 = .ok (.iload 7, 2) := by decide +kernel
theorem dX12_layMatch_150 : decode cX12_layMatch 150 = .ok (.invokevirtual 239, 3) := by decide +kernel
theorem dX12_layMatch_153 : decode cX12_layMatch 153 = .ok (.iload_n 1, 1) := by decide +kernel
theorem dX12_layMatch_154 : decode cX12_layMatch 154 = .ok (.if_icmp .lt 31, 3) := by decide +kernel
theorem dX12_layMatch_157 : decode cX12_layMatch 157 = .ok (.iload 6, 2) := by decide +kernel
theorem dX12_layMatch_159 : decode cX12_layMatch 159 = .ok (.iconst 1, 1) := by decide +kernel
theorem dX12_layMatch_160 : decode cX12_layMatch 160 = .ok (.aload_n 0, 1) := by decide +kernel
theorem dX12_layMatch_161 : decode cX12_layMatch 161 = .ok (.getfield 37, 3) := by decide +kernel
theorem dX12_layMatch_164 : decode cX12_layMatch 164 = .ok (.iload_n 3, 1) := by decide +kernel
theorem dX12_layMatch_165 : decode cX12_layMatch 165 = .ok (.iconst 1, 1) := by decide +kernel
theorem dX12_layMatch_166 : decode cX12_layMatch 166 = .ok (.iadd, 1) := by decide +kernel
theorem dX12_layMatch_167 : decode cX12_layMatch 167 = .ok (.bipush 8, 2) := by decide +kernel
theorem dX12_layMatch_169 : decode cX12_layMatch 169 = .ok (.ishl, 1) := by decide +kernel
theorem dX12_layMatch_170 : decode cX12_layMatch 170 = .ok (.iload 4, 2) := by decide +kernel
theorem dX12_layMatch_172 : decode cX12_layMatch 172 = .ok (.ior, 1) := by decide +kernel
theorem dX12_layMatch_173 : decode cX12_layMatch 173 = .ok (.iconst 1, 1) := by decide +kernel
theorem dX12_layMatch_174 : decode cX12_layMatch 174 = .ok (.iload 7, 2) := by decide +kernel
theorem dX12_layMatch_176 : decode cX12_layMatch 176 = .ok (.ishl, 1) := by decide +kernel
theorem dX12_layMatch_177 : decode cX12_layMatch 177 = .ok (.ior, 1) := by decide +kernel
theorem dX12_layMatch_178 : decode cX12_layMatch 178 = .ok (.iaload, 1) := by decide +kernel
theorem dX12_layMatch_179 : decode cX12_layMatch 179 = .ok (.iadd, 1) := by decide +kernel
theorem dX12_layMatch_180 : decode cX12_layMatch 180 = .ok (.invokestatic 271, 3) := by decide +kernel
theorem dX12_layMatch_183 : decode cX12_layMatch 183 = .ok (.istore 6, 2) := by decide +kernel
theorem dX12_layMatch_185 : decode cX12_layMatch 185 = .ok (.iinc 7 1, 3) := by decide +kernel
theorem dX12_layMatch_188 : decode cX12_layMatch 188 = .ok (.goto (-116), 3) := by decide +kernel
theorem dX12_layMatch_191 : decode cX12_layMatch 191 = .ok (.aload_n 0, 1) := by decide +kernel
theorem dX12_layMatch_192 : decode cX12_layMatch 192 = .ok (.getfield 34, 3) := by decide +kernel
theorem dX12_layMatch_195 : decode cX12_layMatch 195 = .ok (.iload_n 3, 1) := by decide +kernel
theorem dX12_layMatch_196 : decode cX12_layMatch 196 = .ok (.bipush 8, 2) := by decide +kernel
theorem dX12_layMatch_198 : decode cX12_layMatch 198 = .ok (.ishl, 1) := by decide +kernel
theorem dX12_layMatch_199 : decode cX12_layMatch 199 = .ok (.iload 4, 2) := by decide +kernel
theorem dX12_layMatch_201 : decode cX12_layMatch 201 = .ok (.ior, 1) := by decide +kernel
theorem dX12_layMatch_202 : decode cX12_layMatch 202 = .ok (.iload 5, 2) := by decide +kernel
theorem dX12_layMatch_204 : decode cX12_layMatch 204 = .ok (.iastore, 1) := by decide +kernel
theorem dX12_layMatch_205 : decode cX12_layMatch 205 = .ok (.aload_n 0, 1) := by decide +kernel
theorem dX12_layMatch_206 : decode cX12_layMatch 206 = .ok (.getfield 37, 3) := by decide +kernel
theorem dX12_layMatch_209 : decode cX12_layMatch 209 = .ok (.iload_n 3, 1) := by decide +kernel
theorem dX12_layMatch_210 : decode cX12_layMatch 210 = .ok (.bipush 8, 2) := by decide +kernel
theorem dX12_layMatch_212 : decode cX12_layMatch 212 = .ok (.ishl, 1) := by decide +kernel
theorem dX12_layMatch_213 : decode cX12_layMatch 213 = .ok (.iload 4, 2) := by decide +kernel
theorem dX12_layMatch_215 : decode cX12_layMatch 215 = .ok (.ior, 1) := by decide +kernel
theorem dX12_layMatch_216 : decode cX12_layMatch 216 = .ok (.iload 6, 2) := by decide +kernel
theorem dX12_layMatch_218 : decode cX12_layMatch 218 = .ok (.iastore, 1) := by decide +kernel
theorem dX12_layMatch_219 : decode cX12_layMatch 219 = .ok (.iinc 4 1, 3) := by decide +kernel
theorem dX12_layMatch_222 : decode cX12_layMatch 222 = .ok (.goto (-206), 3) := by decide +kernel
theorem dX12_layMatch_225 : decode cX12_layMatch 225 = .ok (.iinc 3 (-1), 3) := by decide +kernel
theorem dX12_layMatch_228 : decode cX12_layMatch 228 = .ok (.goto (-219), 3) := by decide +kernel
theorem dX12_layMatch_231 : decode cX12_layMatch 231 = .ok (.return_, 1) := by decide +kernel
theorem dX12_layMatched_0 : decode cX12_layMatched 0 = .ok (.aload_n 0, 1) := by decide +kernel
theorem dX12_layMatched_1 : decode cX12_layMatched 1 = .ok (.iconst 0, 1) := by decide +kernel
theorem dX12_layMatched_2 : decode cX12_layMatched 2 = .ok (.invokevirtual 302, 3) := by decide +kernel
theorem dX12_layMatched_5 : decode cX12_layMatched 5 = .ok (.aload_n 0, 1) := by decide +kernel
theorem dX12_layMatched_6 : decode cX12_layMatched 6 = .ok (.getfield 9, 3) := by decide +kernel
theorem dX12_layMatched_9 : decode cX12_layMatched 9 = .ok (.iconst 4, 1) := by decide +kernel
theorem dX12_layMatched_10 : decode cX12_layMatched 10 = .ok (.iaload, 1) := by decide +kernel
theorem dX12_layMatched_11 : decode cX12_layMatched 11 = .ok (.istore_n 1, 1) := by decide +kernel
theorem dX12_layMatched_12 : decode cX12_layMatched 12 = .ok (.iconst 0, 1) := by decide +kernel
theorem dX12_layMatched_13 : decode cX12_layMatched 13 = .ok (.istore_n 2, 1) := by decide +kernel
theorem dX12_layMatched_14 : decode cX12_layMatched 14 = .ok (.iconst 0, 1) := by decide +kernel
theorem dX12_layMatched_15 : decode cX12_layMatched 15 = .ok (.istore_n 3, 1) := by decide +kernel
theorem dX12_layMatched_16 : decode cX12_layMatched 16 = .ok (.iload_n 3, 1) := by decide +kernel
theorem dX12_layMatched_17 : decode cX12_layMatched 17 = .ok (.iload_n 1, 1) := by decide +kernel
theorem dX12_layMatched_18 : decode cX12_layMatched 18 = .ok (.if_icmp .ge 16, 3) := by decide +kernel
theorem dX12_layMatched_21 : decode cX12_layMatched 21 = .ok (.aload_n 0, 1) := by decide +kernel
theorem dX12_layMatched_22 : decode cX12_layMatched 22 = .ok (.getfield 40, 3) := by decide +kernel
theorem dX12_layMatched_25 : decode cX12_layMatched 25 = .ok (.iload_n 3, 1) := by decide +kernel
theorem dX12_layMatched_26 : decode cX12_layMatched 26 = .ok (.iconst (-1), 1) := by decide +kernel
theorem dX12_layMatched_27 : decode cX12_layMatched 27 = .ok (.iastore, 1) := by decide +kernel
theorem dX12_layMatched_28 : decode cX12_layMatched 28 = .ok (.iinc 3 1, 3) := by decide +kernel
theorem dX12_layMatched_31 : decode cX12_layMatched 31 = .ok (.goto (-15), 3) := by decide +kernel
theorem dX12_layMatched_34 : decode cX12_layMatched 34 = .ok (.iconst 0, 1) := by decide +kernel
theorem dX12_layMatched_35 : decode cX12_layMatched 35 = .ok (.istore_n 3, 1) := by decide +kernel
theorem dX12_layMatched_36 : decode cX12_layMatched 36 = .ok (.iload_n 3, 1) := by decide +kernel
theorem dX12_layMatched_37 : decode cX12_layMatched 37 = .ok (.iload_n 1, 1) := by decide +kernel
theorem dX12_layMatched_38 : decode cX12_layMatched 38 = .ok (.if_icmp .ge 131, 3) := by decide +kernel
theorem dX12_layMatched_41 : decode cX12_layMatched 41 = .ok (.aload_n 0, 1) := by decide +kernel
theorem dX12_layMatched_42 : decode cX12_layMatched 42 = .ok (.iload_n 3, 1) := by decide +kernel
theorem dX12_layMatched_43 : decode cX12_layMatched 43 = .ok (.iconst 0, 1) := by decide +kernel
theorem dX12_layMatched_44 : decode cX12_layMatched 44 = .ok (.invokevirtual 202, 3) := by decide +kernel
theorem dX12_layMatched_47 : decode cX12_layMatched 47 = .ok (.ifCond .eq 6, 3) := by decide +kernel
theorem dX12_layMatched_50 : decode cX12_layMatched 50 = .ok (.goto 113, 3) := by decide +kernel
theorem dX12_layMatched_53 : decode cX12_layMatched 53 = .ok (.iconst (-1), 1) := by decide +kernel
theorem dX12_layMatched_54 : decode cX12_layMatched 54 = .ok (.istore 4, 2) := by decide +kernel
theorem dX12_layMatched_56 : decode cX12_layMatched 56 = .ok (.iconst 0, 1) := by decide +kernel
theorem dX12_layMatched_57 : decode cX12_layMatched 57 = .ok (.istore 5, 2) := by decide +kernel
theorem dX12_layMatched_59 : decode cX12_layMatched 59 = .ok (.iload 5, 2) := by decide +kernel
theorem dX12_layMatched_61 : decode cX12_layMatched 61 = .ok (.iload_n 1, 1) := by decide +kernel
theorem dX12_layMatched_62 : decode cX12_layMatched 62 = .ok (.if_icmp .ge 69, 3) := by decide +kernel
theorem dX12_layMatched_65 : decode cX12_layMatched 65 = .ok (.iload 4, 2) := by decide +kernel
theorem dX12_layMatched_67 : decode cX12_layMatched 67 = .ok (.iconst (-1), 1) := by decide +kernel
theorem dX12_layMatched_68 : decode cX12_layMatched 68 = .ok (.if_icmp .ne 63, 3) := by decide +kernel
theorem dX12_layMatched_71 : decode cX12_layMatched 71 = .ok (.aload_n 0, 1) := by decide +kernel
theorem dX12_layMatched_72 : decode cX12_layMatched 72 = .ok (.iload 5, 2) := by decide +kernel
theorem dX12_layMatched_74 : decode cX12_layMatched 74 = .ok (.iconst 0, 1) := by decide +kernel
theorem dX12_layMatched_75 : decode cX12_layMatched 75 = .ok (.invokevirtual 202, 3) := by decide +kernel
theorem dX12_layMatched_78 : decode cX12_layMatched 78 = .ok (.iconst 1, 1) := by decide +kernel

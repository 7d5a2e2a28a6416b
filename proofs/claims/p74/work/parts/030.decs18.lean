theorem dX1_meetingFrom_46 : decode cX1_meetingFrom 46 = .ok (.iload_n 2, 1) := by decide +kernel
theorem dX1_meetingFrom_47 : decode cX1_meetingFrom 47 = .ok (.invokevirtual 37, 3) := by decide +kernel
theorem dX1_meetingFrom_50 : decode cX1_meetingFrom 50 = .ok (.ifCond .ne 5, 3) := by decide +kernel
theorem dX1_meetingFrom_53 : decode cX1_meetingFrom 53 = .ok (.iload_n 2, 1) := by decide +kernel
theorem dX1_meetingFrom_54 : decode cX1_meetingFrom 54 = .ok (.ireturn, 1) := by decide +kernel
theorem dX1_meetingFrom_55 : decode cX1_meetingFrom 55 = .ok (.iload_n 2, 1) := by decide +kernel
theorem dX1_meetingFrom_56 : decode cX1_meetingFrom 56 = .ok (.aload_n 0, 1) := by decide +kernel
theorem dX1_meetingFrom_57 : decode cX1_meetingFrom 57 = .ok (.getfield 15, 3) := by decide +kernel
theorem dX1_meetingFrom_60 : decode cX1_meetingFrom 60 = .ok (.iadd, 1) := by decide +kernel
theorem dX1_meetingFrom_61 : decode cX1_meetingFrom 61 = .ok (.istore_n 2, 1) := by decide +kernel
theorem dX1_meetingFrom_62 : decode cX1_meetingFrom 62 = .ok (.goto (-27), 3) := by decide +kernel
theorem dX1_meetingFrom_65 : decode cX1_meetingFrom 65 = .ok (.iconst (-1), 1) := by decide +kernel
theorem dX1_meetingFrom_66 : decode cX1_meetingFrom 66 = .ok (.ireturn, 1) := by decide +kernel
theorem dX1_meetingOf_0 : decode cX1_meetingOf 0 = .ok (.iconst 0, 1) := by decide +kernel
theorem dX1_meetingOf_1 : decode cX1_meetingOf 1 = .ok (.istore_n 2, 1) := by decide +kernel
theorem dX1_meetingOf_2 : decode cX1_meetingOf 2 = .ok (.aload_n 0, 1) := by decide +kernel
theorem dX1_meetingOf_3 : decode cX1_meetingOf 3 = .ok (.getfield 9, 3) := by decide +kernel
theorem dX1_meetingOf_6 : decode cX1_meetingOf 6 = .ok (.istore_n 3, 1) := by decide +kernel
theorem dX1_meetingOf_7 : decode cX1_meetingOf 7 = .ok (.iload_n 3, 1) := by decide +kernel
theorem dX1_meetingOf_8 : decode cX1_meetingOf 8 = .ok (.iconst (-1), 1) := by decide +kernel
theorem dX1_meetingOf_9 : decode cX1_meetingOf 9 = .ok (.if_icmp .eq 41, 3) := by decide +kernel
theorem dX1_meetingOf_12 : decode cX1_meetingOf 12 = .ok (.iload_n 3, 1) := by decide +kernel
theorem dX1_meetingOf_13 : decode cX1_meetingOf 13 = .ok (.sipush 10000, 3) := by decide +kernel
theorem dX1_meetingOf_16 : decode cX1_meetingOf 16 = .ok (.if_icmp .gt 34, 3) := by decide +kernel
theorem dX1_meetingOf_19 : decode cX1_meetingOf 19 = .ok (.aload_n 0, 1) := by decide +kernel
theorem dX1_meetingOf_20 : decode cX1_meetingOf 20 = .ok (.getfield 18, 3) := by decide +kernel
theorem dX1_meetingOf_23 : decode cX1_meetingOf 23 = .ok (.iload_n 3, 1) := by decide +kernel
theorem dX1_meetingOf_24 : decode cX1_meetingOf 24 = .ok (.invokevirtual 37, 3) := by decide +kernel
theorem dX1_meetingOf_27 : decode cX1_meetingOf 27 = .ok (.ifCond .ne 13, 3) := by decide +kernel
theorem dX1_meetingOf_30 : decode cX1_meetingOf 30 = .ok (.iload_n 2, 1) := by decide +kernel
theorem dX1_meetingOf_31 : decode cX1_meetingOf 31 = .ok (.iload_n 1, 1) := by decide +kernel
theorem dX1_meetingOf_32 : decode cX1_meetingOf 32 = .ok (.if_icmp .ne 5, 3) := by decide +kernel
theorem dX1_meetingOf_35 : decode cX1_meetingOf 35 = .ok (.iload_n 3, 1) := by decide +kernel
theorem dX1_meetingOf_36 : decode cX1_meetingOf 36 = .ok (.ireturn, 1) := by decide +kernel
theorem dX1_meetingOf_37 : decode cX1_meetingOf 37 = .ok (.iinc 2 1, 3) := by decide +kernel
theorem dX1_meetingOf_40 : decode cX1_meetingOf 40 = .ok (.iload_n 3, 1) := by decide +kernel
theorem dX1_meetingOf_41 : decode cX1_meetingOf 41 = .ok (.aload_n 0, 1) := by decide +kernel
theorem dX1_meetingOf_42 : decode cX1_meetingOf 42 = .ok (.getfield 15, 3) := by decide +kernel
theorem dX1_meetingOf_45 : decode cX1_meetingOf 45 = .ok (.iadd, 1) := by decide +kernel
theorem dX1_meetingOf_46 : decode cX1_meetingOf 46 = .ok (.istore_n 3, 1) := by decide +kernel
theorem dX1_meetingOf_47 : decode cX1_meetingOf 47 = .ok (.goto (-40), 3) := by decide +kernel
theorem dX1_meetingOf_50 : decode cX1_meetingOf 50 = .ok (.iconst (-1), 1) := by decide +kernel
theorem dX1_meetingOf_51 : decode cX1_meetingOf 51 = .ok (.ireturn, 1) := by decide +kernel
theorem dX1_meetingsTo_0 : decode cX1_meetingsTo 0 = .ok (.iconst 0, 1) := by decide +kernel
theorem dX1_meetingsTo_1 : decode cX1_meetingsTo 1 = .ok (.istore_n 2, 1) := by decide +kernel
theorem dX1_meetingsTo_2 : decode cX1_meetingsTo 2 = .ok (.aload_n 0, 1) := by decide +kernel
theorem dX1_meetingsTo_3 : decode cX1_meetingsTo 3 = .ok (.getfield 9, 3) := by decide +kernel
theorem dX1_meetingsTo_6 : decode cX1_meetingsTo 6 = .ok (.istore_n 3, 1) := by decide +kernel
theorem dX1_meetingsTo_7 : decode cX1_meetingsTo 7 = .ok (.iload_n 3, 1) := by decide +kernel
theorem dX1_meetingsTo_8 : decode cX1_meetingsTo 8 = .ok (.iconst (-1), 1) := by decide +kernel
theorem dX1_meetingsTo_9 : decode cX1_meetingsTo 9 = .ok (.if_icmp .eq 32, 3) := by decide +kernel
theorem dX1_meetingsTo_12 : decode cX1_meetingsTo 12 = .ok (.iload_n 3, 1) := by decide +kernel
theorem dX1_meetingsTo_13 : decode cX1_meetingsTo 13 = .ok (.iload_n 1, 1) := by decide +kernel
theorem dX1_meetingsTo_14 : decode cX1_meetingsTo 14 = .ok (.if_icmp .gt 27, 3) := by decide +kernel
theorem dX1_meetingsTo_17 : decode cX1_meetingsTo 17 = .ok (.aload_n 0, 1) := by decide +kernel
theorem dX1_meetingsTo_18 : decode cX1_meetingsTo 18 = .ok (.getfield 18, 3) := by decide +kernel
theorem dX1_meetingsTo_21 : decode cX1_meetingsTo 21 = .ok (.iload_n 3, 1) := by decide +kernel
theorem dX1_meetingsTo_22 : decode cX1_meetingsTo 22 = .ok (.invokevirtual 37, 3) := by decide +kernel
theorem dX1_meetingsTo_25 : decode cX1_meetingsTo 25 = .ok (.ifCond .ne 6, 3) := by decide +kernel
theorem dX1_meetingsTo_28 : decode cX1_meetingsTo 28 = .ok (.iinc 2 1, 3) := by decide +kernel
theorem dX1_meetingsTo_31 : decode cX1_meetingsTo 31 = .ok (.iload_n 3, 1) := by decide +kernel
theorem dX1_meetingsTo_32 : decode cX1_meetingsTo 32 = .ok (.aload_n 0, 1) := by decide +kernel
theorem dX1_meetingsTo_33 : decode cX1_meetingsTo 33 = .ok (.getfield 15, 3) := by decide +kernel
theorem dX1_meetingsTo_36 : decode cX1_meetingsTo 36 = .ok (.iadd, 1) := by decide +kernel
theorem dX1_meetingsTo_37 : decode cX1_meetingsTo 37 = .ok (.istore_n 3, 1) := by decide +kernel
theorem dX1_meetingsTo_38 : decode cX1_meetingsTo 38 = .ok (.goto (-31), 3) := by decide +kernel
theorem dX1_meetingsTo_41 : decode cX1_meetingsTo 41 = .ok (.iload_n 2, 1) := by decide +kernel
theorem dX1_meetingsTo_42 : decode cX1_meetingsTo 42 = .ok (.ireturn, 1) := by decide +kernel
theorem dX1_spoiled_0 : decode cX1_spoiled 0 = .ok (.iconst 0, 1) := by decide +kernel
theorem dX1_spoiled_1 : decode cX1_spoiled 1 = .ok (.istore_n 1, 1) := by decide +kernel
theorem dX1_spoiled_2 : decode cX1_spoiled 2 = .ok (.aload_n 0, 1) := by decide +kernel
theorem dX1_spoiled_3 : decode cX1_spoiled 3 = .ok (.getfield 9, 3) := by decide +kernel
theorem dX1_spoiled_6 : decode cX1_spoiled 6 = .ok (.istore_n 2, 1) := by decide +kernel
theorem dX1_spoiled_7 : decode cX1_spoiled 7 = .ok (.iload_n 2, 1) := by decide +kernel
theorem dX1_spoiled_8 : decode cX1_spoiled 8 = .ok (.iconst (-1), 1) := by decide +kernel
theorem dX1_spoiled_9 : decode cX1_spoiled 9 = .ok (.if_icmp .eq 34, 3) := by decide +kernel
theorem dX1_spoiled_12 : decode cX1_spoiled 12 = .ok (.iload_n 2, 1) := by decide +kernel
theorem dX1_spoiled_13 : decode cX1_spoiled 13 = .ok (.sipush 999, 3) := by decide +kernel
theorem dX1_spoiled_16 : decode cX1_spoiled 16 = .ok (.if_icmp .gt 27, 3) := by decide +kernel
theorem dX1_spoiled_19 : decode cX1_spoiled 19 = .ok (.aload_n 0, 1) := by decide +kernel
theorem dX1_spoiled_20 : decode cX1_spoiled 20 = .ok (.getfield 18, 3) := by decide +kernel
theorem dX1_spoiled_23 : decode cX1_spoiled 23 = .ok (.iload_n 2, 1) := by decide +kernel
theorem dX1_spoiled_24 : decode cX1_spoiled 24 = .ok (.invokevirtual 37, 3) := by decide +kernel
theorem dX1_spoiled_27 : decode cX1_spoiled 27 = .ok (.ifCond .eq 6, 3) := by decide +kernel
theorem dX1_spoiled_30 : decode cX1_spoiled 30 = .ok (.iinc 1 1, 3) := by decide +kernel
theorem dX1_spoiled_33 : decode cX1_spoiled 33 = .ok (.iload_n 2, 1) := by decide +kernel
theorem dX1_spoiled_34 : decode cX1_spoiled 34 = .ok (.aload_n 0, 1) := by decide +kernel
theorem dX1_spoiled_35 : decode cX1_spoiled 35 = .ok (.getfield 15, 3) := by decide +kernel
theorem dX1_spoiled_38 : decode cX1_spoiled 38 = .ok (.iadd, 1) := by decide +kernel
theorem dX1_spoiled_39 : decode cX1_spoiled 39 = .ok (.istore_n 2, 1) := by decide +kernel
theorem dX1_spoiled_40 : decode cX1_spoiled 40 = .ok (.goto (-33), 3) := by decide +kernel
theorem dX1_spoiled_43 : decode cX1_spoiled 43 = .ok (.iload_n 1, 1) := by decide +kernel
theorem dX1_spoiled_44 : decode cX1_spoiled 44 = .ok (.ireturn, 1) := by decide +kernel
theorem dX2_clear_0 : decode cX2_clear 0 = .ok (.aload_n 0, 1) := by decide +kernel
theorem dX2_clear_1 : decode cX2_clear 1 = .ok (.iconst (-1), 1) := by decide +kernel
theorem dX2_clear_2 : decode cX2_clear 2 = .ok (.putfield 9, 3) := by decide +kernel
theorem dX2_clear_5 : decode cX2_clear 5 = .ok (.aload_n 0, 1) := by decide +kernel
theorem dX2_clear_6 : decode cX2_clear 6 = .ok (.iconst (-1), 1) := by decide +kernel
theorem dX2_clear_7 : decode cX2_clear 7 = .ok (.putfield 15, 3) := by decide +kernel
theorem dX2_clear_10 : decode cX2_clear 10 = .ok (.aload_n 0, 1) := by decide +kernel
theorem dX2_clear_11 : decode cX2_clear 11 = .ok (.iconst 0, 1) := by decide +kernel
theorem dX2_clear_12 : decode cX2_clear 12 = .ok (.putfield 28, 3) := by decide +kernel
theorem dX2_clear_15 : decode cX2_clear 15 = .ok (.aload_n 0, 1) := by decide +kernel
theorem dX2_clear_16 : decode cX2_clear 16 = .ok (.iconst 0, 1) := by decide +kernel
theorem dX2_clear_17 : decode cX2_clear 17 = .ok (.putfield 31, 3) := by decide +kernel
theorem dX2_clear_20 : decode cX2_clear 20 = .ok (.aload_n 0, 1) := by decide +kernel
theorem dX2_clear_21 : decode cX2_clear 21 = .ok (.iconst 0, 1) := by decide +kernel
theorem dX2_clear_22 : decode cX2_clear 22 = .ok (.putfield 34, 3) := by decide +kernel
theorem dX2_clear_25 : decode cX2_clear 25 = .ok (.aload_n 0, 1) := by decide +kernel
theorem dX2_clear_26 : decode cX2_clear 26 = .ok (.iconst 0, 1) := by decide +kernel
theorem dX2_clear_27 : decode cX2_clear 27 = .ok (.putfield 37, 3) := by decide +kernel
theorem dX2_clear_30 : decode cX2_clear 30 = .ok (.aload_n 0, 1) := by decide +kernel
theorem dX2_clear_31 : decode cX2_clear 31 = .ok (.iconst 0, 1) := by decide +kernel
theorem dX2_clear_32 : decode cX2_clear 32 = .ok (.putfield 40, 3) := by decide +kernel
theorem dX2_clear_35 : decode cX2_clear 35 = .ok (.return_, 1) := by decide +kernel
theorem dX2_copyFrom_0 : decode cX2_copyFrom 0 = .ok (.aload_n 0, 1) := by decide +kernel
theorem dX2_copyFrom_1 : decode cX2_copyFrom 1 = .ok (.aload_n 1, 1) := by decide +kernel
theorem dX2_copyFrom_2 : decode cX2_copyFrom 2 = .ok (.getfield 9, 3) := by decide +kernel
theorem dX2_copyFrom_5 : decode cX2_copyFrom 5 = .ok (.putfield 9, 3) := by decide +kernel
theorem dX2_copyFrom_8 : decode cX2_copyFrom 8 = .ok (.aload_n 0, 1) := by decide +kernel
theorem dX2_copyFrom_9 : decode cX2_copyFrom 9 = .ok (.aload_n 1, 1) := by decide +kernel
theorem dX2_copyFrom_10 : decode cX2_copyFrom 10 = .ok (.getfield 15, 3) := by decide +kernel
theorem dX2_copyFrom_13 : decode cX2_copyFrom 13 = .ok (.putfield 15, 3) := by decide +kernel
theorem dX2_copyFrom_16 : decode cX2_copyFrom 16 = .ok (.aload_n 0, 1) := by decide +kernel
theorem dX2_copyFrom_17 : decode cX2_copyFrom 17 = .ok (.aload_n 1, 1) := by decide +kernel
theorem dX2_copyFrom_18 : decode cX2_copyFrom 18 = .ok (.getfield 28, 3) := by decide +kernel
theorem dX2_copyFrom_21 : decode cX2_copyFrom 21 = .ok (.putfield 28, 3) := by decide +kernel
theorem dX2_copyFrom_24 : decode cX2_copyFrom 24 = .ok (.aload_n 0, 1) := by decide +kernel
theorem dX2_copyFrom_25 : decode cX2_copyFrom 25 = .ok (.aload_n 1, 1) := by decide +kernel
theorem dX2_copyFrom_26 : decode cX2_copyFrom 26 = .ok (.getfield 31, 3) := by decide +kernel
theorem dX2_copyFrom_29 : decode cX2_copyFrom 29 = .ok (.putfield 31, 3) := by decide +kernel
theorem dX2_copyFrom_32 : decode cX2_copyFrom 32 = .ok (.aload_n 0, 1) := by decide +kernel
theorem dX2_copyFrom_33 : decode cX2_copyFrom 33 = .ok (.aload_n 1, 1) := by decide +kernel
theorem dX2_copyFrom_34 : decode cX2_copyFrom 34 = .ok (.getfield 34, 3) := by decide +kernel
theorem dX2_copyFrom_37 : decode cX2_copyFrom 37 = .ok (.putfield 34, 3) := by decide +kernel
theorem dX2_copyFrom_40 : decode cX2_copyFrom 40 = .ok (.aload_n 0, 1) := by decide +kernel
theorem dX2_copyFrom_41 : decode cX2_copyFrom 41 = .ok (.aload_n 1, 1) := by decide +kernel
theorem dX2_copyFrom_42 : decode cX2_copyFrom 42 = .ok (.getfield 37, 3) := by decide +kernel
theorem dX2_copyFrom_45 : decode cX2_copyFrom 45 = .ok (.putfield 37, 3) := by decide +kernel
theorem dX2_copyFrom_48 : decode cX2_copyFrom 48 = .ok (.aload_n 0, 1) := by decide +kernel
theorem dX2_copyFrom_49 : decode cX2_copyFrom 49 = .ok (.aload_n 1, 1) := by decide +kernel
theorem dX2_copyFrom_50 : decode cX2_copyFrom 50 = .ok (.getfield 40, 3) := by decide +kernel
theorem dX2_copyFrom_53 : decode cX2_copyFrom 53 = .ok (.putfield 40, 3) := by decide +kernel
theorem dX2_copyFrom_56 : decode cX2_copyFrom 56 = .ok (.aload_n 1, 1) := by decide +kernel
theorem dX2_copyFrom_57 : decode cX2_copyFrom 57 = .ok (.getfield 18, 3) := by decide +kernel
theorem dX2_copyFrom_60 : decode cX2_copyFrom 60 = .ok (.iconst 0, 1) := by decide +kernel
theorem dX2_copyFrom_61 : decode cX2_copyFrom 61 = .ok (.aload_n 0, 1) := by decide +kernel
theorem dX2_copyFrom_62 : decode cX2_copyFrom 62 = .ok (.getfield 18, 3) := by decide +kernel
theorem dX2_copyFrom_65 : decode cX2_copyFrom 65 = .ok (.iconst 0, 1) := by decide +kernel
theorem dX2_copyFrom_66 : decode cX2_copyFrom 66 = .ok (.bipush 60, 2) := by decide +kernel
theorem dX2_copyFrom_68 : decode cX2_copyFrom 68 = .ok (.invokestatic 43, 3) := by decide +kernel
theorem dX2_copyFrom_71 : decode cX2_copyFrom 71 = .ok (.aload_n 1, 1) := by decide +kernel
theorem dX2_copyFrom_72 : decode cX2_copyFrom 72 = .ok (.getfield 22, 3) := by decide +kernel
theorem dX2_copyFrom_75 : decode cX2_copyFrom 75 = .ok (.iconst 0, 1) := by decide +kernel
theorem dX2_copyFrom_76 : decode cX2_copyFrom 76 = .ok (.aload_n 0, 1) := by decide +kernel
theorem dX2_copyFrom_77 : decode cX2_copyFrom 77 = .ok (.getfield 22, 3) := by decide +kernel
theorem dX2_copyFrom_80 : decode cX2_copyFrom 80 = .ok (.iconst 0, 1) := by decide +kernel
theorem dX2_copyFrom_81 : decode cX2_copyFrom 81 = .ok (.bipush 60, 2) := by decide +kernel
theorem dX2_copyFrom_83 : decode cX2_copyFrom 83 = .ok (.invokestatic 43, 3) := by decide +kernel
theorem dX2_copyFrom_86 : decode cX2_copyFrom 86 = .ok (.aload_n 1, 1) := by decide +kernel
theorem dX2_copyFrom_87 : decode cX2_copyFrom 87 = .ok (.getfield 25, 3) := by decide +kernel
theorem dX2_copyFrom_90 : decode cX2_copyFrom 90 = .ok (.iconst 0, 1) := by decide +kernel
theorem dX2_copyFrom_91 : decode cX2_copyFrom 91 = .ok (.aload_n 0, 1) := by decide +kernel
theorem dX2_copyFrom_92 : decode cX2_copyFrom 92 = .ok (.getfield 25, 3) := by decide +kernel
theorem dX2_copyFrom_95 : decode cX2_copyFrom 95 = .ok (.iconst 0, 1) := by decide +kernel
theorem dX2_copyFrom_96 : decode cX2_copyFrom 96 = .ok (.bipush 60, 2) := by decide +kernel
theorem dX2_copyFrom_98 : decode cX2_copyFrom 98 = .ok (.invokestatic 43, 3) := by decide +kernel
theorem dX2_copyFrom_101 : decode cX2_copyFrom 101 = .ok (.return_, 1) := by decide +kernel
theorem dX2_hasSigned_0 : decode cX2_hasSigned 0 = .ok (.aload_n 0, 1) := by decide +kernel
theorem dX2_hasSigned_1 : decode cX2_hasSigned 1 = .ok (.getfield 28, 3) := by decide +kernel
theorem dX2_hasSigned_4 : decode cX2_hasSigned 4 = .ok (.iload_n 1, 1) := by decide +kernel
theorem dX2_hasSigned_5 : decode cX2_hasSigned 5 = .ok (.ishr, 1) := by decide +kernel
theorem dX2_hasSigned_6 : decode cX2_hasSigned 6 = .ok (.iconst 1, 1) := by decide +kernel
theorem dX2_hasSigned_7 : decode cX2_hasSigned 7 = .ok (.iand, 1) := by decide +kernel
theorem dX2_hasSigned_8 : decode cX2_hasSigned 8 = .ok (.iconst 1, 1) := by decide +kernel
theorem dX2_hasSigned_9 : decode cX2_hasSigned 9 = .ok (.if_icmp .ne 7, 3) := by decide +kernel
theorem dX2_hasSigned_12 : decode cX2_hasSigned 12 = .ok (.iconst 1, 1) := by decide +kernel
theorem dX2_hasSigned_13 : decode cX2_hasSigned 13 = .ok (.goto 4, 3) := by decide +kernel
theorem dX2_hasSigned_16 : decode cX2_hasSigned 16 = .ok (.iconst 0, 1) := by decide +kernel
theorem dX2_hasSigned_17 : decode cX2_hasSigned 17 = .ok (.ireturn, 1) := by decide +kernel
theorem dX2_init_0 : decode cX2_init 0 = .ok (.aload_n 0, 1) := by decide +kernel
theorem dX2_init_1 : decode cX2_init 1 = .ok (.invokespecial 3, 3) := by decide +kernel
theorem dX2_init_4 : decode cX2_init 4 = .ok (.aload_n 0, 1) := by decide +kernel
theorem dX2_init_5 : decode cX2_init 5 = .ok (.iconst (-1), 1) := by decide +kernel
theorem dX2_init_6 : decode cX2_init 6 = .ok (.putfield 9, 3) := by decide +kernel
theorem dX2_init_9 : decode cX2_init 9 = .ok (.aload_n 0, 1) := by decide +kernel
theorem dX2_init_10 : decode cX2_init 10 = .ok (.iconst (-1), 1) := by decide +kernel
theorem dX2_init_11 : decode cX2_init 11 = .ok (.putfield 15, 3) := by decide +kernel
theorem dX2_init_14 : decode cX2_init 14 = .ok (.aload_n 0, 1) := by decide +kernel
theorem dX2_init_15 : decode cX2_init 15 = .ok (.bipush 60, 2) := by decide +kernel
theorem dX2_init_17 : decode cX2_init 17 = .ok (.newarray .int, 2) := by decide +kernel
theorem dX2_init_19 : decode cX2_init 19 = .ok (.putfield 18, 3) := by decide +kernel
theorem dX2_init_22 : decode cX2_init 22 = .ok (.aload_n 0, 1) := by decide +kernel
theorem dX2_init_23 : decode cX2_init 23 = .ok (.bipush 60, 2) := by decide +kernel
theorem dX2_init_25 : decode cX2_init 25 = .ok (.newarray .int, 2) := by decide +kernel
theorem dX2_init_27 : decode cX2_init 27 = .ok (.putfield 22, 3) := by decide +kernel
theorem dX2_init_30 : decode cX2_init 30 = .ok (.aload_n 0, 1) := by decide +kernel
theorem dX2_init_31 : decode cX2_init 31 = .ok (.bipush 60, 2) := by decide +kernel
theorem dX2_init_33 : decode cX2_init 33 = .ok (.newarray .int, 2) := by decide +kernel
theorem dX2_init_35 : decode cX2_init 35 = .ok (.putfield 25, 3) := by decide +kernel
theorem dX2_init_38 : decode cX2_init 38 = .ok (.return_, 1) := by decide +kernel
theorem dX2_isHolding_0 : decode cX2_isHolding 0 = .ok (.aload_n 0, 1) := by decide +kernel
theorem dX2_isHolding_1 : decode cX2_isHolding 1 = .ok (.getfield 15, 3) := by decide +kernel
theorem dX2_isHolding_4 : decode cX2_isHolding 4 = .ok (.iconst (-1), 1) := by decide +kernel
theorem dX2_isHolding_5 : decode cX2_isHolding 5 = .ok (.if_icmp .eq 7, 3) := by decide +kernel
theorem dX2_isHolding_8 : decode cX2_isHolding 8 = .ok (.iconst 1, 1) := by decide +kernel
theorem dX2_isHolding_9 : decode cX2_isHolding 9 = .ok (.goto 4, 3) := by decide +kernel
theorem dX2_isHolding_12 : decode cX2_isHolding 12 = .ok (.iconst 0, 1) := by decide +kernel
theorem dX2_isHolding_13 : decode cX2_isHolding 13 = .ok (.ireturn, 1) := by decide +kernel
theorem dX2_isOver_0 : decode cX2_isOver 0 = .ok (.aload_n 0, 1) := by decide +kernel
theorem dX2_isOver_1 : decode cX2_isOver 1 = .ok (.getfield 34, 3) := by decide +kernel
theorem dX2_isOver_4 : decode cX2_isOver 4 = .ok (.bipush 60, 2) := by decide +kernel
theorem dX2_isOver_6 : decode cX2_isOver 6 = .ok (.if_icmp .lt 7, 3) := by decide +kernel
theorem dX2_isOver_9 : decode cX2_isOver 9 = .ok (.iconst 1, 1) := by decide +kernel
theorem dX2_isOver_10 : decode cX2_isOver 10 = .ok (.goto 4, 3) := by decide +kernel
theorem dX2_isOver_13 : decode cX2_isOver 13 = .ok (.iconst 0, 1) := by decide +kernel
theorem dX2_isOver_14 : decode cX2_isOver 14 = .ok (.ireturn, 1) := by decide +kernel
theorem dX2_letGo_0 : decode cX2_letGo 0 = .ok (.aload_n 0, 1) := by decide +kernel
theorem dX2_letGo_1 : decode cX2_letGo 1 = .ok (.iconst 3, 1) := by decide +kernel
theorem dX2_letGo_2 : decode cX2_letGo 2 = .ok (.iconst 0, 1) := by decide +kernel
theorem dX2_letGo_3 : decode cX2_letGo 3 = .ok (.aload_n 0, 1) := by decide +kernel
theorem dX2_letGo_4 : decode cX2_letGo 4 = .ok (.getfield 15, 3) := by decide +kernel
theorem dX2_letGo_7 : decode cX2_letGo 7 = .ok (.invokevirtual 53, 3) := by decide +kernel
theorem dX2_letGo_10 : decode cX2_letGo 10 = .ok (.aload_n 0, 1) := by decide +kernel
theorem dX2_letGo_11 : decode cX2_letGo 11 = .ok (.iconst (-1), 1) := by decide +kernel
theorem dX2_letGo_12 : decode cX2_letGo 12 = .ok (.putfield 15, 3) := by decide +kernel
theorem dX2_letGo_15 : decode cX2_letGo 15 = .ok (.return_, 1) := by decide +kernel
theorem dX2_moveStart_0 : decode cX2_moveStart 0 = .ok (.aload_n 0, 1) := by decide +kernel
theorem dX2_moveStart_1 : decode cX2_moveStart 1 = .ok (.iconst 0, 1) := by decide +kernel
theorem dX2_moveStart_2 : decode cX2_moveStart 2 = .ok (.iload_n 1, 1) := by decide +kernel
theorem dX2_moveStart_3 : decode cX2_moveStart 3 = .ok (.aload_n 0, 1) := by decide +kernel
theorem dX2_moveStart_4 : decode cX2_moveStart 4 = .ok (.iload_n 1, 1) := by decide +kernel
theorem dX2_moveStart_5 : decode cX2_moveStart 5 = .ok (.invokevirtual 49, 3) := by decide +kernel
theorem dX2_moveStart_8 : decode cX2_moveStart 8 = .ok (.invokevirtual 53, 3) := by decide +kernel
theorem dX2_moveStart_11 : decode cX2_moveStart 11 = .ok (.aload_n 0, 1) := by decide +kernel
theorem dX2_moveStart_12 : decode cX2_moveStart 12 = .ok (.iload_n 1, 1) := by decide +kernel
theorem dX2_moveStart_13 : decode cX2_moveStart 13 = .ok (.iload_n 2, 1) := by decide +kernel
theorem dX2_moveStart_14 : decode cX2_moveStart 14 = .ok (.invokevirtual 57, 3) := by decide +kernel
theorem dX2_moveStart_17 : decode cX2_moveStart 17 = .ok (.return_, 1) := by decide +kernel
theorem dX2_note_0 : decode cX2_note 0 = .ok (.aload_n 0, 1) := by decide +kernel
theorem dX2_note_1 : decode cX2_note 1 = .ok (.getfield 34, 3) := by decide +kernel
theorem dX2_note_4 : decode cX2_note 4 = .ok (.bipush 60, 2) := by decide +kernel
theorem dX2_note_6 : decode cX2_note 6 = .ok (.if_icmp .ge 43, 3) := by decide +kernel
theorem dX2_note_9 : decode cX2_note 9 = .ok (.aload_n 0, 1) := by decide +kernel
theorem dX2_note_10 : decode cX2_note 10 = .ok (.getfield 18, 3) := by decide +kernel
theorem dX2_note_13 : decode cX2_note 13 = .ok (.aload_n 0, 1) := by decide +kernel
theorem dX2_note_14 : decode cX2_note 14 = .ok (.getfield 34, 3) := by decide +kernel
theorem dX2_note_17 : decode cX2_note 17 = .ok (.iload_n 1, 1) := by decide +kernel
theorem dX2_note_18 : decode cX2_note 18 = .ok (.iastore, 1) := by decide +kernel
theorem dX2_note_19 : decode cX2_note 19 = .ok (.aload_n 0, 1) := by decide +kernel
theorem dX2_note_20 : decode cX2_note 20 = .ok (.getfield 22, 3) := by decide +kernel
theorem dX2_note_23 : decode cX2_note 23 = .ok (.aload_n 0, 1) := by decide +kernel
theorem dX2_note_24 : decode cX2_note 24 = .ok (.getfield 34, 3) := by decide +kernel
theorem dX2_note_27 : decode cX2_note 27 = .ok (.iload_n 2, 1) := by decide +kernel
theorem dX2_note_28 : decode cX2_note 28 = .ok (.iastore, 1) := by decide +kernel
theorem dX2_note_29 : decode cX2_note 29 = .ok (.aload_n 0, 1) := by decide +kernel
theorem dX2_note_30 : decode cX2_note 30 = .ok (.getfield 25, 3) := by decide +kernel
theorem dX2_note_33 : decode cX2_note 33 = .ok (.aload_n 0, 1) := by decide +kernel
theorem dX2_note_34 : decode cX2_note 34 = .ok (.getfield 34, 3) := by decide +kernel
theorem dX2_note_37 : decode cX2_note 37 = .ok (.iload_n 3, 1) := by decide +kernel
theorem dX2_note_38 : decode cX2_note 38 = .ok (.iastore, 1) := by decide +kernel
theorem dX2_note_39 : decode cX2_note 39 = .ok (.aload_n 0, 1) := by decide +kernel
theorem dX2_note_40 : decode cX2_note 40 = .ok (.dup, 1) := by decide +kernel
theorem dX2_note_41 : decode cX2_note 41 = .ok (.getfield 34, 3) := by decide +kernel
theorem dX2_note_44 : decode cX2_note 44 = .ok (.iconst 1, 1) := by decide +kernel
theorem dX2_note_45 : decode cX2_note 45 = .ok (.iadd, 1) := by decide +kernel
theorem dX2_note_46 : decode cX2_note 46 = .ok (.putfield 34, 3) := by decide +kernel
theorem dX2_note_49 : decode cX2_note 49 = .ok (.return_, 1) := by decide +kernel
theorem dX2_putName_0 : decode cX2_putName 0 = .ok (.aload_n 0, 1) := by decide +kernel
theorem dX2_putName_1 : decode cX2_putName 1 = .ok (.iconst 2, 1) := by decide +kernel
theorem dX2_putName_2 : decode cX2_putName 2 = .ok (.iload_n 1, 1) := by decide +kernel
theorem dX2_putName_3 : decode cX2_putName 3 = .ok (.aload_n 0, 1) := by decide +kernel
theorem dX2_putName_4 : decode cX2_putName 4 = .ok (.getfield 15, 3) := by decide +kernel
theorem dX2_putName_7 : decode cX2_putName 7 = .ok (.invokevirtual 53, 3) := by decide +kernel
theorem dX2_putName_10 : decode cX2_putName 10 = .ok (.aload_n 0, 1) := by decide +kernel
theorem dX2_putName_11 : decode cX2_putName 11 = .ok (.dup, 1) := by decide +kernel
theorem dX2_putName_12 : decode cX2_putName 12 = .ok (.getfield 15, 3) := by decide +kernel
theorem dX2_putName_15 : decode cX2_putName 15 = .ok (.iload_n 2, 1) := by decide +kernel
theorem dX2_putName_16 : decode cX2_putName 16 = .ok (.isub, 1) := by decide +kernel
theorem dX2_putName_17 : decode cX2_putName 17 = .ok (.putfield 15, 3) := by decide +kernel
theorem dX2_putName_20 : decode cX2_putName 20 = .ok (.aload_n 0, 1) := by decide +kernel
theorem dX2_putName_21 : decode cX2_putName 21 = .ok (.dup, 1) := by decide +kernel
theorem dX2_putName_22 : decode cX2_putName 22 = .ok (.getfield 28, 3) := by decide +kernel
theorem dX2_putName_25 : decode cX2_putName 25 = .ok (.iconst 1, 1) := by decide +kernel
theorem dX2_putName_26 : decode cX2_putName 26 = .ok (.iload_n 1, 1) := by decide +kernel
theorem dX2_putName_27 : decode cX2_putName 27 = .ok (.ishl, 1) := by decide +kernel
theorem dX2_putName_28 : decode cX2_putName 28 = .ok (.ior, 1) := by decide +kernel
theorem dX2_putName_29 : decode cX2_putName 29 = .ok (.putfield 28, 3) := by decide +kernel
theorem dX2_putName_32 : decode cX2_putName 32 = .ok (.return_, 1) := by decide +kernel
theorem dX2_setStart_0 : decode cX2_setStart 0 = .ok (.iload_n 1, 1) := by decide +kernel
theorem dX2_setStart_1 : decode cX2_setStart 1 = .ok (.ifCond .ne 11, 3) := by decide +kernel
theorem dX2_setStart_4 : decode cX2_setStart 4 = .ok (.aload_n 0, 1) := by decide +kernel
theorem dX2_setStart_5 : decode cX2_setStart 5 = .ok (.iload_n 2, 1) := by decide +kernel
theorem dX2_setStart_6 : decode cX2_setStart 6 = .ok (.putfield 37, 3) := by decide +kernel
theorem dX2_setStart_9 : decode cX2_setStart 9 = .ok (.goto 8, 3) := by decide +kernel
theorem dX2_setStart_12 : decode cX2_setStart 12 = .ok (.aload_n 0, 1) := by decide +kernel
theorem dX2_setStart_13 : decode cX2_setStart 13 = .ok (.iload_n 2, 1) := by decide +kernel
theorem dX2_setStart_14 : decode cX2_setStart 14 = .ok (.putfield 40, 3) := by decide +kernel
theorem dX2_setStart_17 : decode cX2_setStart 17 = .ok (.return_, 1) := by decide +kernel
theorem dX2_startOf_0 : decode cX2_startOf 0 = .ok (.iload_n 1, 1) := by decide +kernel
theorem dX2_startOf_1 : decode cX2_startOf 1 = .ok (.ifCond .ne 10, 3) := by decide +kernel
theorem dX2_startOf_4 : decode cX2_startOf 4 = .ok (.aload_n 0, 1) := by decide +kernel
theorem dX2_startOf_5 : decode cX2_startOf 5 = .ok (.getfield 37, 3) := by decide +kernel
theorem dX2_startOf_8 : decode cX2_startOf 8 = .ok (.goto 7, 3) := by decide +kernel
theorem dX2_startOf_11 : decode cX2_startOf 11 = .ok (.aload_n 0, 1) := by decide +kernel
theorem dX2_startOf_12 : decode cX2_startOf 12 = .ok (.getfield 40, 3) := by decide +kernel
theorem dX2_startOf_15 : decode cX2_startOf 15 = .ok (.ireturn, 1) := by decide +kernel
theorem dX2_takeBack_0 : decode cX2_takeBack 0 = .ok (.aload_n 0, 1) := by decide +kernel
theorem dX2_takeBack_1 : decode cX2_takeBack 1 = .ok (.getfield 34, 3) := by decide +kernel
theorem dX2_takeBack_4 : decode cX2_takeBack 4 = .ok (.iconst 1, 1) := by decide +kernel
theorem dX2_takeBack_5 : decode cX2_takeBack 5 = .ok (.bipush 60, 2) := by decide +kernel
theorem dX2_takeBack_7 : decode cX2_takeBack 7 = .ok (.invokestatic 61, 3) := by decide +kernel
theorem dX2_takeBack_10 : decode cX2_takeBack 10 = .ok (.ifCond .ne 4, 3) := by decide +kernel
theorem dX2_takeBack_13 : decode cX2_takeBack 13 = .ok (.return_, 1) := by decide +kernel
theorem dX2_takeBack_14 : decode cX2_takeBack 14 = .ok (.aload_n 0, 1) := by decide +kernel
theorem dX2_takeBack_15 : decode cX2_takeBack 15 = .ok (.dup, 1) := by decide +kernel
theorem dX2_takeBack_16 : decode cX2_takeBack 16 = .ok (.getfield 34, 3) := by decide +kernel
theorem dX2_takeBack_19 : decode cX2_takeBack 19 = .ok (.iconst 1, 1) := by decide +kernel
theorem dX2_takeBack_20 : decode cX2_takeBack 20 = .ok (.isub, 1) := by decide +kernel
theorem dX2_takeBack_21 : decode cX2_takeBack 21 = .ok (.putfield 34, 3) := by decide +kernel
theorem dX2_takeBack_24 : decode cX2_takeBack 24 = .ok (.aload_n 0, 1) := by decide +kernel
theorem dX2_takeBack_25 : decode cX2_takeBack 25 = .ok (.getfield 25, 3) := by decide +kernel
theorem dX2_takeBack_28 : decode cX2_takeBack 28 = .ok (.aload_n 0, 1) := by decide +kernel
theorem dX2_takeBack_29 : decode cX2_takeBack 29 = .ok (.getfield 34, 3) := by decide +kernel
theorem dX2_takeBack_32 : decode cX2_takeBack 32 = .ok (.iaload, 1) := by decide +kernel
theorem dX2_takeBack_33 : decode cX2_takeBack 33 = .ok (.istore_n 1, 1) := by decide +kernel
theorem dX2_takeBack_34 : decode cX2_takeBack 34 = .ok (.aload_n 0, 1) := by decide +kernel
theorem dX2_takeBack_35 : decode cX2_takeBack 35 = .ok (.getfield 18, 3) := by decide +kernel
theorem dX2_takeBack_38 : decode cX2_takeBack 38 = .ok (.aload_n 0, 1) := by decide +kernel
theorem dX2_takeBack_39 : decode cX2_takeBack 39 = .ok (.getfield 34, 3) := by decide +kernel
theorem dX2_takeBack_42 : decode cX2_takeBack 42 = .ok (.iaload, 1) := by decide +kernel
theorem dX2_takeBack_43 : decode cX2_takeBack 43 = .ok (.tableswitch 95 0 2 #[25, 42, 65], 25) := by decide +kernel
theorem dX2_takeBack_68 : decode cX2_takeBack 68 = .ok (.aload_n 0, 1) := by decide +kernel
theorem dX2_takeBack_69 : decode cX2_takeBack 69 = .ok (.aload_n 0, 1) := by decide +kernel
theorem dX2_takeBack_70 : decode cX2_takeBack 70 = .ok (.getfield 22, 3) := by decide +kernel
theorem dX2_takeBack_73 : decode cX2_takeBack 73 = .ok (.aload_n 0, 1) := by decide +kernel
theorem dX2_takeBack_74 : decode cX2_takeBack 74 = .ok (.getfield 34, 3) := by decide +kernel
theorem dX2_takeBack_77 : decode cX2_takeBack 77 = .ok (.iaload, 1) := by decide +kernel
theorem dX2_takeBack_78 : decode cX2_takeBack 78 = .ok (.iload_n 1, 1) := by decide +kernel
theorem dX2_takeBack_79 : decode cX2_takeBack 79 = .ok (.invokevirtual 57, 3) := by decide +kernel
theorem dX2_takeBack_82 : decode cX2_takeBack 82 = .ok (.goto 61, 3) := by decide +kernel
theorem dX2_takeBack_85 : decode cX2_takeBack 85 = .ok (.aload_n 0, 1) := by decide +kernel
theorem dX2_takeBack_86 : decode cX2_takeBack 86 = .ok (.iload_n 1, 1) := by decide +kernel
theorem dX2_takeBack_87 : decode cX2_takeBack 87 = .ok (.putfield 9, 3) := by decide +kernel
theorem dX2_takeBack_90 : decode cX2_takeBack 90 = .ok (.aload_n 0, 1) := by decide +kernel
theorem dX2_takeBack_91 : decode cX2_takeBack 91 = .ok (.iconst (-1), 1) := by decide +kernel
theorem dX2_takeBack_92 : decode cX2_takeBack 92 = .ok (.putfield 15, 3) := by decide +kernel
theorem dX2_takeBack_95 : decode cX2_takeBack 95 = .ok (.aload_n 0, 1) := by decide +kernel
theorem dX2_takeBack_96 : decode cX2_takeBack 96 = .ok (.dup, 1) := by decide +kernel
theorem dX2_takeBack_97 : decode cX2_takeBack 97 = .ok (.getfield 31, 3) := by decide +kernel
theorem dX2_takeBack_100 : decode cX2_takeBack 100 = .ok (.iconst 1, 1) := by decide +kernel
theorem dX2_takeBack_101 : decode cX2_takeBack 101 = .ok (.isub, 1) := by decide +kernel
theorem dX2_takeBack_102 : decode cX2_takeBack 102 = .ok (.putfield 31, 3) := by decide +kernel
theorem dX2_takeBack_105 : decode cX2_takeBack 105 = .ok (.goto 38, 3) := by decide +kernel
theorem dX2_takeBack_108 : decode cX2_takeBack 108 = .ok (.aload_n 0, 1) := by decide +kernel
theorem dX2_takeBack_109 : decode cX2_takeBack 109 = .ok (.iload_n 1, 1) := by decide +kernel
theorem dX2_takeBack_110 : decode cX2_takeBack 110 = .ok (.putfield 15, 3) := by decide +kernel
theorem dX2_takeBack_113 : decode cX2_takeBack 113 = .ok (.aload_n 0, 1) := by decide +kernel
theorem dX2_takeBack_114 : decode cX2_takeBack 114 = .ok (.dup, 1) := by decide +kernel
theorem dX2_takeBack_115 : decode cX2_takeBack 115 = .ok (.getfield 28, 3) := by decide +kernel
theorem dX2_takeBack_118 : decode cX2_takeBack 118 = .ok (.iconst 1, 1) := by decide +kernel
theorem dX2_takeBack_119 : decode cX2_takeBack 119 = .ok (.aload_n 0, 1) := by decide +kernel
theorem dX2_takeBack_120 : decode cX2_takeBack 120 = .ok (.getfield 22, 3) := by decide +kernel
theorem dX2_takeBack_123 : decode cX2_takeBack 123 = .ok (.aload_n 0, 1) := by decide +kernel
theorem dX2_takeBack_124 : decode cX2_takeBack 124 = .ok (.getfield 34, 3) := by decide +kernel
theorem dX2_takeBack_127 : decode cX2_takeBack 127 = .ok (.iaload, 1) := by decide +kernel
theorem dX2_takeBack_128 : decode cX2_takeBack 128 = .ok (.ishl, 1) := by decide +kernel
theorem dX2_takeBack_129 : decode cX2_takeBack 129 = .ok (.iconst (-1), 1) := by decide +kernel
theorem dX2_takeBack_130 : decode cX2_takeBack 130 = .ok (.ixor, 1) := by decide +kernel
theorem dX2_takeBack_131 : decode cX2_takeBack 131 = .ok (.iand, 1) := by decide +kernel
theorem dX2_takeBack_132 : decode cX2_takeBack 132 = .ok (.putfield 28, 3) := by decide +kernel
theorem dX2_takeBack_135 : decode cX2_takeBack 135 = .ok (.goto 8, 3) := by decide +kernel
theorem dX2_takeBack_138 : decode cX2_takeBack 138 = .ok (.aload_n 0, 1) := by decide +kernel
theorem dX2_takeBack_139 : decode cX2_takeBack 139 = .ok (.iload_n 1, 1) := by decide +kernel
theorem dX2_takeBack_140 : decode cX2_takeBack 140 = .ok (.putfield 15, 3) := by decide +kernel
theorem dX2_takeBack_143 : decode cX2_takeBack 143 = .ok (.return_, 1) := by decide +kernel
theorem dX2_takeHold_0 : decode cX2_takeHold 0 = .ok (.aload_n 0, 1) := by decide +kernel
theorem dX2_takeHold_1 : decode cX2_takeHold 1 = .ok (.iconst 1, 1) := by decide +kernel
theorem dX2_takeHold_2 : decode cX2_takeHold 2 = .ok (.iconst 0, 1) := by decide +kernel
theorem dX2_takeHold_3 : decode cX2_takeHold 3 = .ok (.aload_n 0, 1) := by decide +kernel
theorem dX2_takeHold_4 : decode cX2_takeHold 4 = .ok (.getfield 9, 3) := by decide +kernel
theorem dX2_takeHold_7 : decode cX2_takeHold 7 = .ok (.invokevirtual 53, 3) := by decide +kernel
theorem dX2_takeHold_10 : decode cX2_takeHold 10 = .ok (.aload_n 0, 1) := by decide +kernel
theorem dX2_takeHold_11 : decode cX2_takeHold 11 = .ok (.iload_n 1, 1) := by decide +kernel
theorem dX2_takeHold_12 : decode cX2_takeHold 12 = .ok (.putfield 9, 3) := by decide +kernel
theorem dX2_takeHold_15 : decode cX2_takeHold 15 = .ok (.aload_n 0, 1) := by decide +kernel
theorem dX2_takeHold_16 : decode cX2_takeHold 16 = .ok (.iload_n 2, 1) := by decide +kernel
theorem dX2_takeHold_17 : decode cX2_takeHold 17 = .ok (.putfield 15, 3) := by decide +kernel
theorem dX2_takeHold_20 : decode cX2_takeHold 20 = .ok (.aload_n 0, 1) := by decide +kernel
theorem dX2_takeHold_21 : decode cX2_takeHold 21 = .ok (.dup, 1) := by decide +kernel
theorem dX2_takeHold_22 : decode cX2_takeHold 22 = .ok (.getfield 31, 3) := by decide +kernel
theorem dX2_takeHold_25 : decode cX2_takeHold 25 = .ok (.iconst 1, 1) := by decide +kernel
theorem dX2_takeHold_26 : decode cX2_takeHold 26 = .ok (.iadd, 1) := by decide +kernel
theorem dX2_takeHold_27 : decode cX2_takeHold 27 = .ok (.putfield 31, 3) := by decide +kernel
theorem dX2_takeHold_30 : decode cX2_takeHold 30 = .ok (.return_, 1) := by decide +kernel
theorem dX3_addClause_0 : decode cX3_addClause 0 = .ok (.aload_n 0, 1) := by decide +kernel
theorem dX3_addClause_1 : decode cX3_addClause 1 = .ok (.getfield 53, 3) := by decide +kernel
theorem dX3_addClause_4 : decode cX3_addClause 4 = .ok (.bipush 7, 2) := by decide +kernel
theorem dX3_addClause_6 : decode cX3_addClause 6 = .ok (.if_icmp .ge 43, 3) := by decide +kernel
theorem dX3_addClause_9 : decode cX3_addClause 9 = .ok (.aload_n 0, 1) := by decide +kernel
theorem dX3_addClause_10 : decode cX3_addClause 10 = .ok (.getfield 21, 3) := by decide +kernel
theorem dX3_addClause_13 : decode cX3_addClause 13 = .ok (.aload_n 0, 1) := by decide +kernel
theorem dX3_addClause_14 : decode cX3_addClause 14 = .ok (.getfield 53, 3) := by decide +kernel
theorem dX3_addClause_17 : decode cX3_addClause 17 = .ok (.iload_n 1, 1) := by decide +kernel
theorem dX3_addClause_18 : decode cX3_addClause 18 = .ok (.iastore, 1) := by decide +kernel
theorem dX3_addClause_19 : decode cX3_addClause 19 = .ok (.aload_n 0, 1) := by decide +kernel
theorem dX3_addClause_20 : decode cX3_addClause 20 = .ok (.getfield 24, 3) := by decide +kernel
theorem dX3_addClause_23 : decode cX3_addClause 23 = .ok (.aload_n 0, 1) := by decide +kernel
theorem dX3_addClause_24 : decode cX3_addClause 24 = .ok (.getfield 53, 3) := by decide +kernel
theorem dX3_addClause_27 : decode cX3_addClause 27 = .ok (.iload_n 2, 1) := by decide +kernel
theorem dX3_addClause_28 : decode cX3_addClause 28 = .ok (.iastore, 1) := by decide +kernel
theorem dX3_addClause_29 : decode cX3_addClause 29 = .ok (.aload_n 0, 1) := by decide +kernel
theorem dX3_addClause_30 : decode cX3_addClause 30 = .ok (.getfield 27, 3) := by decide +kernel
theorem dX3_addClause_33 : decode cX3_addClause 33 = .ok (.aload_n 0, 1) := by decide +kernel
theorem dX3_addClause_34 : decode cX3_addClause 34 = .ok (.getfield 53, 3) := by decide +kernel
theorem dX3_addClause_37 : decode cX3_addClause 37 = .ok (.iload_n 3, 1) := by decide +kernel
theorem dX3_addClause_38 : decode cX3_addClause 38 = .ok (.iastore, 1) := by decide +kernel
theorem dX3_addClause_39 : decode cX3_addClause 39 = .ok (.aload_n 0, 1) := by decide +kernel
theorem dX3_addClause_40 : decode cX3_addClause 40 = .ok (.dup, 1) := by decide +kernel
theorem dX3_addClause_41 : decode cX3_addClause 41 = .ok (.getfield 53, 3) := by decide +kernel
theorem dX3_addClause_44 : decode cX3_addClause 44 = .ok (.iconst 1, 1) := by decide +kernel
theorem dX3_addClause_45 : decode cX3_addClause 45 = .ok (.iadd, 1) := by decide +kernel
theorem dX3_addClause_46 : decode cX3_addClause 46 = .ok (.putfield 53, 3) := by decide +kernel
theorem dX3_addClause_49 : decode cX3_addClause 49 = .ok (.return_, 1) := by decide +kernel
theorem dX3_addMan_0 : decode cX3_addMan 0 = .ok (.aload_n 0, 1) := by decide +kernel
theorem dX3_addMan_1 : decode cX3_addMan 1 = .ok (.getfield 50, 3) := by decide +kernel
theorem dX3_addMan_4 : decode cX3_addMan 4 = .ok (.bipush 8, 2) := by decide +kernel
theorem dX3_addMan_6 : decode cX3_addMan 6 = .ok (.if_icmp .ge 43, 3) := by decide +kernel
theorem dX3_addMan_9 : decode cX3_addMan 9 = .ok (.aload_n 0, 1) := by decide +kernel
theorem dX3_addMan_10 : decode cX3_addMan 10 = .ok (.getfield 9, 3) := by decide +kernel
theorem dX3_addMan_13 : decode cX3_addMan 13 = .ok (.aload_n 0, 1) := by decide +kernel
theorem dX3_addMan_14 : decode cX3_addMan 14 = .ok (.getfield 50, 3) := by decide +kernel
theorem dX3_addMan_17 : decode cX3_addMan 17 = .ok (.iload_n 1, 1) := by decide +kernel
theorem dX3_addMan_18 : decode cX3_addMan 18 = .ok (.iastore, 1) := by decide +kernel
theorem dX3_addMan_19 : decode cX3_addMan 19 = .ok (.aload_n 0, 1) := by decide +kernel
theorem dX3_addMan_20 : decode cX3_addMan 20 = .ok (.getfield 15, 3) := by decide +kernel
theorem dX3_addMan_23 : decode cX3_addMan 23 = .ok (.aload_n 0, 1) := by decide +kernel
theorem dX3_addMan_24 : decode cX3_addMan 24 = .ok (.getfield 50, 3) := by decide +kernel
theorem dX3_addMan_27 : decode cX3_addMan 27 = .ok (.iload_n 2, 1) := by decide +kernel
theorem dX3_addMan_28 : decode cX3_addMan 28 = .ok (.iastore, 1) := by decide +kernel
theorem dX3_addMan_29 : decode cX3_addMan 29 = .ok (.aload_n 0, 1) := by decide +kernel
theorem dX3_addMan_30 : decode cX3_addMan 30 = .ok (.getfield 18, 3) := by decide +kernel
theorem dX3_addMan_33 : decode cX3_addMan 33 = .ok (.aload_n 0, 1) := by decide +kernel
theorem dX3_addMan_34 : decode cX3_addMan 34 = .ok (.getfield 50, 3) := by decide +kernel
theorem dX3_addMan_37 : decode cX3_addMan 37 = .ok (.iload_n 3, 1) := by decide +kernel
theorem dX3_addMan_38 : decode cX3_addMan 38 = .ok (.iastore, 1) := by decide +kernel
theorem dX3_addMan_39 : decode cX3_addMan 39 = .ok (.aload_n 0, 1) := by decide +kernel
theorem dX3_addMan_40 : decode cX3_addMan 40 = .ok (.dup, 1) := by decide +kernel
theorem dX3_addMan_41 : decode cX3_addMan 41 = .ok (.getfield 50, 3) := by decide +kernel
theorem dX3_addMan_44 : decode cX3_addMan 44 = .ok (.iconst 1, 1) := by decide +kernel

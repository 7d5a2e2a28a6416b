theorem dX12_takes_0 : decode cX12_takes 0 = .ok (.aload_n 0, 1) := by decide +kernel
theorem dX12_takes_1 : decode cX12_takes 1 = .ok (.aload_n 1, 1) := by decide +kernel
theorem dX12_takes_2 : decode cX12_takes 2 = .ok (.invokevirtual 131, 3) := by decide +kernel
theorem dX12_takes_5 : decode cX12_takes 5 = .ok (.istore_n 2, 1) := by decide +kernel
theorem dX12_takes_6 : decode cX12_takes 6 = .ok (.iload_n 2, 1) := by decide +kernel
theorem dX12_takes_7 : decode cX12_takes 7 = .ok (.ifCond .eq 7, 3) := by decide +kernel
theorem dX12_takes_10 : decode cX12_takes 10 = .ok (.aload_n 0, 1) := by decide +kernel
theorem dX12_takes_11 : decode cX12_takes 11 = .ok (.invokevirtual 135, 3) := by decide +kernel
theorem dX12_takes_14 : decode cX12_takes 14 = .ok (.iload_n 2, 1) := by decide +kernel
theorem dX12_takes_15 : decode cX12_takes 15 = .ok (.ireturn, 1) := by decide +kernel
theorem dX12_tired_0 : decode cX12_tired 0 = .ok (.aload_n 0, 1) := by decide +kernel
theorem dX12_tired_1 : decode cX12_tired 1 = .ok (.iload_n 1, 1) := by decide +kernel
theorem dX12_tired_2 : decode cX12_tired 2 = .ok (.iconst 1, 1) := by decide +kernel
theorem dX12_tired_3 : decode cX12_tired 3 = .ok (.invokevirtual 396, 3) := by decide +kernel
theorem dX12_tired_6 : decode cX12_tired 6 = .ok (.istore_n 2, 1) := by decide +kernel
theorem dX12_tired_7 : decode cX12_tired 7 = .ok (.iload_n 2, 1) := by decide +kernel
theorem dX12_tired_8 : decode cX12_tired 8 = .ok (.ifCond .ge 5, 3) := by decide +kernel
theorem dX12_tired_11 : decode cX12_tired 11 = .ok (.iload_n 2, 1) := by decide +kernel
theorem dX12_tired_12 : decode cX12_tired 12 = .ok (.ireturn, 1) := by decide +kernel
theorem dX12_tired_13 : decode cX12_tired 13 = .ok (.iconst 0, 1) := by decide +kernel
theorem dX12_tired_14 : decode cX12_tired 14 = .ok (.istore_n 3, 1) := by decide +kernel
theorem dX12_tired_15 : decode cX12_tired 15 = .ok (.iconst 0, 1) := by decide +kernel
theorem dX12_tired_16 : decode cX12_tired 16 = .ok (.istore 4, 2) := by decide +kernel
theorem dX12_tired_18 : decode cX12_tired 18 = .ok (.iload 4, 2) := by decide +kernel
theorem dX12_tired_20 : decode cX12_tired 20 = .ok (.aload_n 0, 1) := by decide +kernel
theorem dX12_tired_21 : decode cX12_tired 21 = .ok (.getfield 389, 3) := by decide +kernel
theorem dX12_tired_24 : decode cX12_tired 24 = .ok (.if_icmp .ge 24, 3) := by decide +kernel
theorem dX12_tired_27 : decode cX12_tired 27 = .ok (.iload_n 3, 1) := by decide +kernel
theorem dX12_tired_28 : decode cX12_tired 28 = .ok (.iconst 1, 1) := by decide +kernel
theorem dX12_tired_29 : decode cX12_tired 29 = .ok (.aload_n 0, 1) := by decide +kernel
theorem dX12_tired_30 : decode cX12_tired 30 = .ok (.getfield 49, 3) := by decide +kernel
theorem dX12_tired_33 : decode cX12_tired 33 = .ok (.iload 4, 2) := by decide +kernel
theorem dX12_tired_35 : decode cX12_tired 35 = .ok (.iaload, 1) := by decide +kernel
theorem dX12_tired_36 : decode cX12_tired 36 = .ok (.bipush 100, 2) := by decide +kernel
theorem dX12_tired_38 : decode cX12_tired 38 = .ok (.idiv, 1) := by decide +kernel
theorem dX12_tired_39 : decode cX12_tired 39 = .ok (.ishl, 1) := by decide +kernel
theorem dX12_tired_40 : decode cX12_tired 40 = .ok (.ior, 1) := by decide +kernel
theorem dX12_tired_41 : decode cX12_tired 41 = .ok (.istore_n 3, 1) := by decide +kernel
theorem dX12_tired_42 : decode cX12_tired 42 = .ok (.iinc 4 1, 3) := by decide +kernel
theorem dX12_tired_45 : decode cX12_tired 45 = .ok (.goto (-27), 3) := by decide +kernel
theorem dX12_tired_48 : decode cX12_tired 48 = .ok (.iload_n 3, 1) := by decide +kernel
theorem dX12_tired_49 : decode cX12_tired 49 = .ok (.ireturn, 1) := by decide +kernel
theorem dX12_told_0 : decode cX12_told 0 = .ok (.aload_n 0, 1) := by decide +kernel
theorem dX12_told_1 : decode cX12_told 1 = .ok (.aload_n 1, 1) := by decide +kernel
theorem dX12_told_2 : decode cX12_told 2 = .ok (.invokevirtual 145, 3) := by decide +kernel
theorem dX12_told_5 : decode cX12_told 5 = .ok (.aload_n 0, 1) := by decide +kernel
theorem dX12_told_6 : decode cX12_told 6 = .ok (.iload_n 2, 1) := by decide +kernel
theorem dX12_told_7 : decode cX12_told 7 = .ok (.iload_n 3, 1) := by decide +kernel
theorem dX12_told_8 : decode cX12_told 8 = .ok (.invokevirtual 149, 3) := by decide +kernel
theorem dX12_told_11 : decode cX12_told 11 = .ok (.ireturn, 1) := by decide +kernel
theorem dX12_undo_0 : decode cX12_undo 0 = .ok (.aload_n 0, 1) := by decide +kernel
theorem dX12_undo_1 : decode cX12_undo 1 = .ok (.invokevirtual 74, 3) := by decide +kernel
theorem dX12_undo_4 : decode cX12_undo 4 = .ok (.ifCond .ne 6, 3) := by decide +kernel
theorem dX12_undo_7 : decode cX12_undo 7 = .ok (.bipush (-2), 2) := by decide +kernel
theorem dX12_undo_9 : decode cX12_undo 9 = .ok (.ireturn, 1) := by decide +kernel
theorem dX12_undo_10 : decode cX12_undo 10 = .ok (.aload_n 0, 1) := by decide +kernel
theorem dX12_undo_11 : decode cX12_undo 11 = .ok (.getfield 9, 3) := by decide +kernel
theorem dX12_undo_14 : decode cX12_undo 14 = .ok (.bipush 7, 2) := by decide +kernel
theorem dX12_undo_16 : decode cX12_undo 16 = .ok (.iaload, 1) := by decide +kernel
theorem dX12_undo_17 : decode cX12_undo 17 = .ok (.ifCond .ne 6, 3) := by decide +kernel
theorem dX12_undo_20 : decode cX12_undo 20 = .ok (.bipush (-5), 2) := by decide +kernel
theorem dX12_undo_22 : decode cX12_undo 22 = .ok (.ireturn, 1) := by decide +kernel
theorem dX12_undo_23 : decode cX12_undo 23 = .ok (.aload_n 0, 1) := by decide +kernel
theorem dX12_undo_24 : decode cX12_undo 24 = .ok (.getfield 9, 3) := by decide +kernel
theorem dX12_undo_27 : decode cX12_undo 27 = .ok (.bipush 7, 2) := by decide +kernel
theorem dX12_undo_29 : decode cX12_undo 29 = .ok (.dup2, 1) := by decide +kernel
theorem dX12_undo_30 : decode cX12_undo 30 = .ok (.iaload, 1) := by decide +kernel
theorem dX12_undo_31 : decode cX12_undo 31 = .ok (.iconst 1, 1) := by decide +kernel
theorem dX12_undo_32 : decode cX12_undo 32 = .ok (.isub, 1) := by decide +kernel
theorem dX12_undo_33 : decode cX12_undo 33 = .ok (.iastore, 1) := by decide +kernel
theorem dX12_undo_34 : decode cX12_undo 34 = .ok (.aload_n 0, 1) := by decide +kernel
theorem dX12_undo_35 : decode cX12_undo 35 = .ok (.getfield 9, 3) := by decide +kernel
theorem dX12_undo_38 : decode cX12_undo 38 = .ok (.bipush 7, 2) := by decide +kernel
theorem dX12_undo_40 : decode cX12_undo 40 = .ok (.iaload, 1) := by decide +kernel
theorem dX12_undo_41 : decode cX12_undo 41 = .ok (.ireturn, 1) := by decide +kernel
theorem dX12_veto_0 : decode cX12_veto 0 = .ok (.aload_n 0, 1) := by decide +kernel
theorem dX12_veto_1 : decode cX12_veto 1 = .ok (.iload_n 1, 1) := by decide +kernel
theorem dX12_veto_2 : decode cX12_veto 2 = .ok (.invokevirtual 256, 3) := by decide +kernel
theorem dX12_veto_5 : decode cX12_veto 5 = .ok (.ifCond .ne 6, 3) := by decide +kernel
theorem dX12_veto_8 : decode cX12_veto 8 = .ok (.bipush (-2), 2) := by decide +kernel
theorem dX12_veto_10 : decode cX12_veto 10 = .ok (.ireturn, 1) := by decide +kernel
theorem dX12_veto_11 : decode cX12_veto 11 = .ok (.iconst 0, 1) := by decide +kernel
theorem dX12_veto_12 : decode cX12_veto 12 = .ok (.istore_n 2, 1) := by decide +kernel
theorem dX12_veto_13 : decode cX12_veto 13 = .ok (.iconst 0, 1) := by decide +kernel
theorem dX12_veto_14 : decode cX12_veto 14 = .ok (.istore_n 3, 1) := by decide +kernel
theorem dX12_veto_15 : decode cX12_veto 15 = .ok (.iload_n 3, 1) := by decide +kernel
theorem dX12_veto_16 : decode cX12_veto 16 = .ok (.aload_n 0, 1) := by decide +kernel
theorem dX12_veto_17 : decode cX12_veto 17 = .ok (.getfield 9, 3) := by decide +kernel
theorem dX12_veto_20 : decode cX12_veto 20 = .ok (.iconst 5, 1) := by decide +kernel
theorem dX12_veto_21 : decode cX12_veto 21 = .ok (.iaload, 1) := by decide +kernel
theorem dX12_veto_22 : decode cX12_veto 22 = .ok (.if_icmp .ge 30, 3) := by decide +kernel
theorem dX12_veto_25 : decode cX12_veto 25 = .ok (.iload_n 2, 1) := by decide +kernel
theorem dX12_veto_26 : decode cX12_veto 26 = .ok (.aload_n 0, 1) := by decide +kernel
theorem dX12_veto_27 : decode cX12_veto 27 = .ok (.iload_n 3, 1) := by decide +kernel
theorem dX12_veto_28 : decode cX12_veto 28 = .ok (.iconst 1, 1) := by decide +kernel
theorem dX12_veto_29 : decode cX12_veto 29 = .ok (.iload_n 1, 1) := by decide +kernel
theorem dX12_veto_30 : decode cX12_veto 30 = .ok (.iadd, 1) := by decide +kernel
theorem dX12_veto_31 : decode cX12_veto 31 = .ok (.invokevirtual 208, 3) := by decide +kernel
theorem dX12_veto_34 : decode cX12_veto 34 = .ok (.ifCond .ge 9, 3) := by decide +kernel
theorem dX12_veto_37 : decode cX12_veto 37 = .ok (.iconst 1, 1) := by decide +kernel
theorem dX12_veto_38 : decode cX12_veto 38 = .ok (.iload_n 3, 1) := by decide +kernel
theorem dX12_veto_39 : decode cX12_veto 39 = .ok (.ishl, 1) := by decide +kernel
theorem dX12_veto_40 : decode cX12_veto 40 = .ok (.goto 4, 3) := by decide +kernel
theorem dX12_veto_43 : decode cX12_veto 43 = .ok (.iconst 0, 1) := by decide +kernel
theorem dX12_veto_44 : decode cX12_veto 44 = .ok (.ior, 1) := by decide +kernel
theorem dX12_veto_45 : decode cX12_veto 45 = .ok (.istore_n 2, 1) := by decide +kernel
theorem dX12_veto_46 : decode cX12_veto 46 = .ok (.iinc 3 1, 3) := by decide +kernel
theorem dX12_veto_49 : decode cX12_veto 49 = .ok (.goto (-34), 3) := by decide +kernel
theorem dX12_veto_52 : decode cX12_veto 52 = .ok (.iload_n 2, 1) := by decide +kernel
theorem dX12_veto_53 : decode cX12_veto 53 = .ok (.ireturn, 1) := by decide +kernel
theorem dX12_waits_0 : decode cX12_waits 0 = .ok (.aload_n 0, 1) := by decide +kernel
theorem dX12_waits_1 : decode cX12_waits 1 = .ok (.iload_n 1, 1) := by decide +kernel
theorem dX12_waits_2 : decode cX12_waits 2 = .ok (.iload_n 2, 1) := by decide +kernel
theorem dX12_waits_3 : decode cX12_waits 3 = .ok (.invokevirtual 326, 3) := by decide +kernel
theorem dX12_waits_6 : decode cX12_waits 6 = .ok (.istore_n 3, 1) := by decide +kernel
theorem dX12_waits_7 : decode cX12_waits 7 = .ok (.iload_n 3, 1) := by decide +kernel
theorem dX12_waits_8 : decode cX12_waits 8 = .ok (.ifCond .ge 5, 3) := by decide +kernel
theorem dX12_waits_11 : decode cX12_waits 11 = .ok (.iload_n 3, 1) := by decide +kernel
theorem dX12_waits_12 : decode cX12_waits 12 = .ok (.ireturn, 1) := by decide +kernel
theorem dX12_waits_13 : decode cX12_waits 13 = .ok (.aload_n 0, 1) := by decide +kernel
theorem dX12_waits_14 : decode cX12_waits 14 = .ok (.iload_n 1, 1) := by decide +kernel
theorem dX12_waits_15 : decode cX12_waits 15 = .ok (.invokevirtual 329, 3) := by decide +kernel
theorem dX12_waits_18 : decode cX12_waits 18 = .ok (.aload_n 0, 1) := by decide +kernel
theorem dX12_waits_19 : decode cX12_waits 19 = .ok (.iload_n 2, 1) := by decide +kernel
theorem dX12_waits_20 : decode cX12_waits 20 = .ok (.invokevirtual 332, 3) := by decide +kernel
theorem dX12_waits_23 : decode cX12_waits 23 = .ok (.pop, 1) := by decide +kernel
theorem dX12_waits_24 : decode cX12_waits 24 = .ok (.aload_n 0, 1) := by decide +kernel
theorem dX12_waits_25 : decode cX12_waits 25 = .ok (.getfield 323, 3) := by decide +kernel
theorem dX12_waits_28 : decode cX12_waits 28 = .ok (.ireturn, 1) := by decide +kernel
theorem dX12_weak_0 : decode cX12_weak 0 = .ok (.aload_n 0, 1) := by decide +kernel
theorem dX12_weak_1 : decode cX12_weak 1 = .ok (.iload_n 1, 1) := by decide +kernel
theorem dX12_weak_2 : decode cX12_weak 2 = .ok (.invokevirtual 256, 3) := by decide +kernel
theorem dX12_weak_5 : decode cX12_weak 5 = .ok (.ifCond .ne 6, 3) := by decide +kernel
theorem dX12_weak_8 : decode cX12_weak 8 = .ok (.bipush (-2), 2) := by decide +kernel
theorem dX12_weak_10 : decode cX12_weak 10 = .ok (.ireturn, 1) := by decide +kernel
theorem dX12_weak_11 : decode cX12_weak 11 = .ok (.iconst (-1), 1) := by decide +kernel
theorem dX12_weak_12 : decode cX12_weak 12 = .ok (.istore_n 2, 1) := by decide +kernel
theorem dX12_weak_13 : decode cX12_weak 13 = .ok (.iconst 0, 1) := by decide +kernel
theorem dX12_weak_14 : decode cX12_weak 14 = .ok (.istore_n 3, 1) := by decide +kernel
theorem dX12_weak_15 : decode cX12_weak 15 = .ok (.iload_n 3, 1) := by decide +kernel
theorem dX12_weak_16 : decode cX12_weak 16 = .ok (.aload_n 0, 1) := by decide +kernel
theorem dX12_weak_17 : decode cX12_weak 17 = .ok (.getfield 9, 3) := by decide +kernel
theorem dX12_weak_20 : decode cX12_weak 20 = .ok (.iconst 4, 1) := by decide +kernel
theorem dX12_weak_21 : decode cX12_weak 21 = .ok (.iaload, 1) := by decide +kernel
theorem dX12_weak_22 : decode cX12_weak 22 = .ok (.if_icmp .ge 41, 3) := by decide +kernel
theorem dX12_weak_25 : decode cX12_weak 25 = .ok (.aload_n 0, 1) := by decide +kernel
theorem dX12_weak_26 : decode cX12_weak 26 = .ok (.iload_n 3, 1) := by decide +kernel
theorem dX12_weak_27 : decode cX12_weak 27 = .ok (.iconst 0, 1) := by decide +kernel
theorem dX12_weak_28 : decode cX12_weak 28 = .ok (.invokevirtual 202, 3) := by decide +kernel
theorem dX12_weak_31 : decode cX12_weak 31 = .ok (.iload_n 1, 1) := by decide +kernel
theorem dX12_weak_32 : decode cX12_weak 32 = .ok (.if_icmp .ne 25, 3) := by decide +kernel
theorem dX12_weak_35 : decode cX12_weak 35 = .ok (.iload_n 2, 1) := by decide +kernel
theorem dX12_weak_36 : decode cX12_weak 36 = .ok (.iconst (-1), 1) := by decide +kernel
theorem dX12_weak_37 : decode cX12_weak 37 = .ok (.if_icmp .eq 18, 3) := by decide +kernel
theorem dX12_weak_40 : decode cX12_weak 40 = .ok (.aload_n 0, 1) := by decide +kernel
theorem dX12_weak_41 : decode cX12_weak 41 = .ok (.iload_n 3, 1) := by decide +kernel
theorem dX12_weak_42 : decode cX12_weak 42 = .ok (.iconst 1, 1) := by decide +kernel
theorem dX12_weak_43 : decode cX12_weak 43 = .ok (.invokevirtual 202, 3) := by decide +kernel
theorem dX12_weak_46 : decode cX12_weak 46 = .ok (.aload_n 0, 1) := by decide +kernel
theorem dX12_weak_47 : decode cX12_weak 47 = .ok (.iload_n 2, 1) := by decide +kernel
theorem dX12_weak_48 : decode cX12_weak 48 = .ok (.iconst 1, 1) := by decide +kernel
theorem dX12_weak_49 : decode cX12_weak 49 = .ok (.invokevirtual 202, 3) := by decide +kernel
theorem dX12_weak_52 : decode cX12_weak 52 = .ok (.if_icmp .ge 5, 3) := by decide +kernel
theorem dX12_weak_55 : decode cX12_weak 55 = .ok (.iload_n 3, 1) := by decide +kernel
theorem dX12_weak_56 : decode cX12_weak 56 = .ok (.istore_n 2, 1) := by decide +kernel
theorem dX12_weak_57 : decode cX12_weak 57 = .ok (.iinc 3 1, 3) := by decide +kernel
theorem dX12_weak_60 : decode cX12_weak 60 = .ok (.goto (-45), 3) := by decide +kernel
theorem dX12_weak_63 : decode cX12_weak 63 = .ok (.iload_n 2, 1) := by decide +kernel
theorem dX12_weak_64 : decode cX12_weak 64 = .ok (.ireturn, 1) := by decide +kernel
theorem dX12_worstOf_0 : decode cX12_worstOf 0 = .ok (.iconst 0, 1) := by decide +kernel
theorem dX12_worstOf_1 : decode cX12_worstOf 1 = .ok (.istore_n 3, 1) := by decide +kernel
theorem dX12_worstOf_2 : decode cX12_worstOf 2 = .ok (.iconst 0, 1) := by decide +kernel
theorem dX12_worstOf_3 : decode cX12_worstOf 3 = .ok (.istore 4, 2) := by decide +kernel
theorem dX12_worstOf_5 : decode cX12_worstOf 5 = .ok (.iload 4, 2) := by decide +kernel
theorem dX12_worstOf_7 : decode cX12_worstOf 7 = .ok (.bipush 99, 2) := by decide +kernel
theorem dX12_worstOf_9 : decode cX12_worstOf 9 = .ok (.if_icmp .gt 78, 3) := by decide +kernel
theorem dX12_worstOf_12 : decode cX12_worstOf 12 = .ok (.iconst 0, 1) := by decide +kernel
theorem dX12_worstOf_13 : decode cX12_worstOf 13 = .ok (.istore 5, 2) := by decide +kernel
theorem dX12_worstOf_15 : decode cX12_worstOf 15 = .ok (.iconst 0, 1) := by decide +kernel
theorem dX12_worstOf_16 : decode cX12_worstOf 16 = .ok (.istore 6, 2) := by decide +kernel
theorem dX12_worstOf_18 : decode cX12_worstOf 18 = .ok (.iload 6, 2) := by decide +kernel
theorem dX12_worstOf_20 : decode cX12_worstOf 20 = .ok (.aload_n 0, 1) := by decide +kernel
theorem dX12_worstOf_21 : decode cX12_worstOf 21 = .ok (.getfield 389, 3) := by decide +kernel
theorem dX12_worstOf_24 : decode cX12_worstOf 24 = .ok (.if_icmp .ge 50, 3) := by decide +kernel
theorem dX12_worstOf_27 : decode cX12_worstOf 27 = .ok (.iload 5, 2) := by decide +kernel
theorem dX12_worstOf_29 : decode cX12_worstOf 29 = .ok (.aload_n 0, 1) := by decide +kernel
theorem dX12_worstOf_30 : decode cX12_worstOf 30 = .ok (.iload_n 1, 1) := by decide +kernel
theorem dX12_worstOf_31 : decode cX12_worstOf 31 = .ok (.iload_n 2, 1) := by decide +kernel
theorem dX12_worstOf_32 : decode cX12_worstOf 32 = .ok (.aload_n 0, 1) := by decide +kernel
theorem dX12_worstOf_33 : decode cX12_worstOf 33 = .ok (.getfield 49, 3) := by decide +kernel
theorem dX12_worstOf_36 : decode cX12_worstOf 36 = .ok (.iload 6, 2) := by decide +kernel
theorem dX12_worstOf_38 : decode cX12_worstOf 38 = .ok (.iaload, 1) := by decide +kernel
theorem dX12_worstOf_39 : decode cX12_worstOf 39 = .ok (.bipush 100, 2) := by decide +kernel
theorem dX12_worstOf_41 : decode cX12_worstOf 41 = .ok (.idiv, 1) := by decide +kernel
theorem dX12_worstOf_42 : decode cX12_worstOf 42 = .ok (.aload_n 0, 1) := by decide +kernel
theorem dX12_worstOf_43 : decode cX12_worstOf 43 = .ok (.getfield 49, 3) := by decide +kernel
theorem dX12_worstOf_46 : decode cX12_worstOf 46 = .ok (.iload 6, 2) := by decide +kernel
theorem dX12_worstOf_48 : decode cX12_worstOf 48 = .ok (.iaload, 1) := by decide +kernel
theorem dX12_worstOf_49 : decode cX12_worstOf 49 = .ok (.bipush 100, 2) := by decide +kernel
theorem dX12_worstOf_51 : decode cX12_worstOf 51 = .ok (.irem, 1) := by decide +kernel
theorem dX12_worstOf_52 : decode cX12_worstOf 52 = .ok (.invokevirtual 286, 3) := by decide +kernel
theorem dX12_worstOf_55 : decode cX12_worstOf 55 = .ok (.iload 4, 2) := by decide +kernel
theorem dX12_worstOf_57 : decode cX12_worstOf 57 = .ok (.if_icmp .ne 7, 3) := by decide +kernel
theorem dX12_worstOf_60 : decode cX12_worstOf 60 = .ok (.iconst 1, 1) := by decide +kernel
theorem dX12_worstOf_61 : decode cX12_worstOf 61 = .ok (.goto 4, 3) := by decide +kernel
theorem dX12_worstOf_64 : decode cX12_worstOf 64 = .ok (.iconst 0, 1) := by decide +kernel
theorem dX12_worstOf_65 : decode cX12_worstOf 65 = .ok (.iadd, 1) := by decide +kernel
theorem dX12_worstOf_66 : decode cX12_worstOf 66 = .ok (.istore 5, 2) := by decide +kernel
theorem dX12_worstOf_68 : decode cX12_worstOf 68 = .ok (.iinc 6 1, 3) := by decide +kernel
theorem dX12_worstOf_71 : decode cX12_worstOf 71 = .ok (.goto (-53), 3) := by decide +kernel
theorem dX12_worstOf_74 : decode cX12_worstOf 74 = .ok (.iload_n 3, 1) := by decide +kernel
theorem dX12_worstOf_75 : decode cX12_worstOf 75 = .ok (.iload 5, 2) := by decide +kernel
theorem dX12_worstOf_77 : decode cX12_worstOf 77 = .ok (.invokestatic 271, 3) := by decide +kernel
theorem dX12_worstOf_80 : decode cX12_worstOf 80 = .ok (.istore_n 3, 1) := by decide +kernel
theorem dX12_worstOf_81 : decode cX12_worstOf 81 = .ok (.iinc 4 1, 3) := by decide +kernel
theorem dX12_worstOf_84 : decode cX12_worstOf 84 = .ok (.goto (-79), 3) := by decide +kernel
theorem dX12_worstOf_87 : decode cX12_worstOf 87 = .ok (.iload_n 3, 1) := by decide +kernel
theorem dX12_worstOf_88 : decode cX12_worstOf 88 = .ok (.ireturn, 1) := by decide +kernel
theorem dX12_worth_0 : decode cX12_worth 0 = .ok (.aload_n 0, 1) := by decide +kernel
theorem dX12_worth_1 : decode cX12_worth 1 = .ok (.iload_n 2, 1) := by decide +kernel
theorem dX12_worth_2 : decode cX12_worth 2 = .ok (.invokevirtual 256, 3) := by decide +kernel
theorem dX12_worth_5 : decode cX12_worth 5 = .ok (.ifCond .eq 26, 3) := by decide +kernel
theorem dX12_worth_8 : decode cX12_worth 8 = .ok (.iload_n 1, 1) := by decide +kernel
theorem dX12_worth_9 : decode cX12_worth 9 = .ok (.i2l, 1) := by decide +kernel
theorem dX12_worth_10 : decode cX12_worth 10 = .ok (.lconst 0, 1) := by decide +kernel
theorem dX12_worth_11 : decode cX12_worth 11 = .ok (.aload_n 0, 1) := by decide +kernel
theorem dX12_worth_12 : decode cX12_worth 12 = .ok (.invokevirtual 349, 3) := by decide +kernel
theorem dX12_worth_15 : decode cX12_worth 15 = .ok (.i2l, 1) := by decide +kernel
theorem dX12_worth_16 : decode cX12_worth 16 = .ok (.invokestatic 70, 3) := by decide +kernel
theorem dX12_worth_19 : decode cX12_worth 19 = .ok (.ifCond .eq 12, 3) := by decide +kernel
theorem dX12_worth_22 : decode cX12_worth 22 = .ok (.aload_n 0, 1) := by decide +kernel
theorem dX12_worth_23 : decode cX12_worth 23 = .ok (.iload_n 1, 1) := by decide +kernel
theorem dX12_worth_24 : decode cX12_worth 24 = .ok (.iload_n 2, 1) := by decide +kernel
theorem dX12_worth_25 : decode cX12_worth 25 = .ok (.invokevirtual 361, 3) := by decide +kernel
theorem dX12_worth_28 : decode cX12_worth 28 = .ok (.goto 6, 3) := by decide +kernel
theorem dX12_worth_31 : decode cX12_worth 31 = .ok (.sipush (-1000), 3) := by decide +kernel
theorem dX12_worth_34 : decode cX12_worth 34 = .ok (.ireturn, 1) := by decide +kernel
theorem dX12_worthOf_0 : decode cX12_worthOf 0 = .ok (.iconst 0, 1) := by decide +kernel
theorem dX12_worthOf_1 : decode cX12_worthOf 1 = .ok (.istore_n 3, 1) := by decide +kernel
theorem dX12_worthOf_2 : decode cX12_worthOf 2 = .ok (.iconst 0, 1) := by decide +kernel
theorem dX12_worthOf_3 : decode cX12_worthOf 3 = .ok (.istore 4, 2) := by decide +kernel
theorem dX12_worthOf_5 : decode cX12_worthOf 5 = .ok (.iload 4, 2) := by decide +kernel
theorem dX12_worthOf_7 : decode cX12_worthOf 7 = .ok (.aload_n 0, 1) := by decide +kernel
theorem dX12_worthOf_8 : decode cX12_worthOf 8 = .ok (.getfield 9, 3) := by decide +kernel
theorem dX12_worthOf_11 : decode cX12_worthOf 11 = .ok (.iconst 5, 1) := by decide +kernel
theorem dX12_worthOf_12 : decode cX12_worthOf 12 = .ok (.iaload, 1) := by decide +kernel
theorem dX12_worthOf_13 : decode cX12_worthOf 13 = .ok (.if_icmp .ge 28, 3) := by decide +kernel
theorem dX12_worthOf_16 : decode cX12_worthOf 16 = .ok (.iload_n 3, 1) := by decide +kernel
theorem dX12_worthOf_17 : decode cX12_worthOf 17 = .ok (.iload_n 1, 1) := by decide +kernel
theorem dX12_worthOf_18 : decode cX12_worthOf 18 = .ok (.iload 4, 2) := by decide +kernel
theorem dX12_worthOf_20 : decode cX12_worthOf 20 = .ok (.invokestatic 299, 3) := by decide +kernel
theorem dX12_worthOf_23 : decode cX12_worthOf 23 = .ok (.aload_n 0, 1) := by decide +kernel
theorem dX12_worthOf_24 : decode cX12_worthOf 24 = .ok (.iload 4, 2) := by decide +kernel
theorem dX12_worthOf_26 : decode cX12_worthOf 26 = .ok (.iconst 1, 1) := by decide +kernel
theorem dX12_worthOf_27 : decode cX12_worthOf 27 = .ok (.iload_n 2, 1) := by decide +kernel
theorem dX12_worthOf_28 : decode cX12_worthOf 28 = .ok (.iadd, 1) := by decide +kernel
theorem dX12_worthOf_29 : decode cX12_worthOf 29 = .ok (.invokevirtual 208, 3) := by decide +kernel
theorem dX12_worthOf_32 : decode cX12_worthOf 32 = .ok (.imul, 1) := by decide +kernel
theorem dX12_worthOf_33 : decode cX12_worthOf 33 = .ok (.iadd, 1) := by decide +kernel
theorem dX12_worthOf_34 : decode cX12_worthOf 34 = .ok (.istore_n 3, 1) := by decide +kernel
theorem dX12_worthOf_35 : decode cX12_worthOf 35 = .ok (.iinc 4 1, 3) := by decide +kernel
theorem dX12_worthOf_38 : decode cX12_worthOf 38 = .ok (.goto (-33), 3) := by decide +kernel
theorem dX12_worthOf_41 : decode cX12_worthOf 41 = .ok (.iload_n 3, 1) := by decide +kernel
theorem dX12_worthOf_42 : decode cX12_worthOf 42 = .ok (.ireturn, 1) := by decide +kernel
theorem dX12_write_0 : decode cX12_write 0 = .ok (.iload_n 1, 1) := by decide +kernel
theorem dX12_write_1 : decode cX12_write 1 = .ok (.invokestatic 311, 3) := by decide +kernel
theorem dX12_write_4 : decode cX12_write 4 = .ok (.ifCond .ne 6, 3) := by decide +kernel
theorem dX12_write_7 : decode cX12_write 7 = .ok (.bipush (-2), 2) := by decide +kernel
theorem dX12_write_9 : decode cX12_write 9 = .ok (.ireturn, 1) := by decide +kernel
theorem dX12_write_10 : decode cX12_write 10 = .ok (.aload_n 0, 1) := by decide +kernel
theorem dX12_write_11 : decode cX12_write 11 = .ok (.getfield 52, 3) := by decide +kernel
theorem dX12_write_14 : decode cX12_write 14 = .ok (.iload_n 1, 1) := by decide +kernel
theorem dX12_write_15 : decode cX12_write 15 = .ok (.iaload, 1) := by decide +kernel
theorem dX12_write_16 : decode cX12_write 16 = .ok (.iconst (-1), 1) := by decide +kernel
theorem dX12_write_17 : decode cX12_write 17 = .ok (.if_icmp .ne 6, 3) := by decide +kernel
theorem dX12_write_20 : decode cX12_write 20 = .ok (.bipush (-6), 2) := by decide +kernel
theorem dX12_write_22 : decode cX12_write 22 = .ok (.ireturn, 1) := by decide +kernel
theorem dX12_write_23 : decode cX12_write 23 = .ok (.iload_n 2, 1) := by decide +kernel
theorem dX12_write_24 : decode cX12_write 24 = .ok (.i2l, 1) := by decide +kernel
theorem dX12_write_25 : decode cX12_write 25 = .ok (.lconst 0, 1) := by decide +kernel
theorem dX12_write_26 : decode cX12_write 26 = .ok (.aload_n 0, 1) := by decide +kernel
theorem dX12_write_27 : decode cX12_write 27 = .ok (.getfield 52, 3) := by decide +kernel
theorem dX12_write_30 : decode cX12_write 30 = .ok (.iload_n 1, 1) := by decide +kernel
theorem dX12_write_31 : decode cX12_write 31 = .ok (.iaload, 1) := by decide +kernel
theorem dX12_write_32 : decode cX12_write 32 = .ok (.iconst 1, 1) := by decide +kernel
theorem dX12_write_33 : decode cX12_write 33 = .ok (.isub, 1) := by decide +kernel
theorem dX12_write_34 : decode cX12_write 34 = .ok (.i2l, 1) := by decide +kernel
theorem dX12_write_35 : decode cX12_write 35 = .ok (.invokestatic 70, 3) := by decide +kernel
theorem dX12_write_38 : decode cX12_write 38 = .ok (.ifCond .ne 6, 3) := by decide +kernel
theorem dX12_write_41 : decode cX12_write 41 = .ok (.bipush (-7), 2) := by decide +kernel
theorem dX12_write_43 : decode cX12_write 43 = .ok (.ireturn, 1) := by decide +kernel
theorem dX12_write_44 : decode cX12_write 44 = .ok (.aload_n 0, 1) := by decide +kernel
theorem dX12_write_45 : decode cX12_write 45 = .ok (.getfield 58, 3) := by decide +kernel
theorem dX12_write_48 : decode cX12_write 48 = .ok (.bipush 60, 2) := by decide +kernel
theorem dX12_write_50 : decode cX12_write 50 = .ok (.iload_n 1, 1) := by decide +kernel
theorem dX12_write_51 : decode cX12_write 51 = .ok (.imul, 1) := by decide +kernel
theorem dX12_write_52 : decode cX12_write 52 = .ok (.iload_n 2, 1) := by decide +kernel
theorem dX12_write_53 : decode cX12_write 53 = .ok (.iadd, 1) := by decide +kernel
theorem dX12_write_54 : decode cX12_write 54 = .ok (.lload_n 3, 1) := by decide +kernel
theorem dX12_write_55 : decode cX12_write 55 = .ok (.aload_n 0, 1) := by decide +kernel
theorem dX12_write_56 : decode cX12_write 56 = .ok (.getfield 55, 3) := by decide +kernel
theorem dX12_write_59 : decode cX12_write 59 = .ok (.iload_n 1, 1) := by decide +kernel
theorem dX12_write_60 : decode cX12_write 60 = .ok (.iaload, 1) := by decide +kernel
theorem dX12_write_61 : decode cX12_write 61 = .ok (.invokestatic 461, 3) := by decide +kernel
theorem dX12_write_64 : decode cX12_write 64 = .ok (.lastore, 1) := by decide +kernel
theorem dX12_write_65 : decode cX12_write 65 = .ok (.iconst 0, 1) := by decide +kernel
theorem dX12_write_66 : decode cX12_write 66 = .ok (.ireturn, 1) := by decide +kernel
theorem dX1_init_0 : decode cX1_init 0 = .ok (.aload_n 0, 1) := by decide +kernel
theorem dX1_init_1 : decode cX1_init 1 = .ok (.invokespecial 3, 3) := by decide +kernel
theorem dX1_init_4 : decode cX1_init 4 = .ok (.aload_n 0, 1) := by decide +kernel
theorem dX1_init_5 : decode cX1_init 5 = .ok (.iconst (-1), 1) := by decide +kernel
theorem dX1_init_6 : decode cX1_init 6 = .ok (.putfield 9, 3) := by decide +kernel
theorem dX1_init_9 : decode cX1_init 9 = .ok (.aload_n 0, 1) := by decide +kernel
theorem dX1_init_10 : decode cX1_init 10 = .ok (.iconst 1, 1) := by decide +kernel
theorem dX1_init_11 : decode cX1_init 11 = .ok (.putfield 15, 3) := by decide +kernel
theorem dX1_init_14 : decode cX1_init 14 = .ok (.aload_n 0, 1) := by decide +kernel
theorem dX1_init_15 : decode cX1_init 15 = .ok (.aload_n 1, 1) := by decide +kernel
theorem dX1_init_16 : decode cX1_init 16 = .ok (.putfield 18, 3) := by decide +kernel
theorem dX1_init_19 : decode cX1_init 19 = .ok (.return_, 1) := by decide +kernel
theorem dX1_lead_0 : decode cX1_lead 0 = .ok (.aload_n 0, 1) := by decide +kernel
theorem dX1_lead_1 : decode cX1_lead 1 = .ok (.getfield 18, 3) := by decide +kernel
theorem dX1_lead_4 : decode cX1_lead 4 = .ok (.iconst 0, 1) := by decide +kernel
theorem dX1_lead_5 : decode cX1_lead 5 = .ok (.invokevirtual 22, 3) := by decide +kernel
theorem dX1_lead_8 : decode cX1_lead 8 = .ok (.istore_n 3, 1) := by decide +kernel
theorem dX1_lead_9 : decode cX1_lead 9 = .ok (.aload_n 0, 1) := by decide +kernel
theorem dX1_lead_10 : decode cX1_lead 10 = .ok (.getfield 18, 3) := by decide +kernel
theorem dX1_lead_13 : decode cX1_lead 13 = .ok (.iconst 1, 1) := by decide +kernel
theorem dX1_lead_14 : decode cX1_lead 14 = .ok (.invokevirtual 22, 3) := by decide +kernel
theorem dX1_lead_17 : decode cX1_lead 17 = .ok (.istore 4, 2) := by decide +kernel
theorem dX1_lead_19 : decode cX1_lead 19 = .ok (.aload_n 0, 1) := by decide +kernel
theorem dX1_lead_20 : decode cX1_lead 20 = .ok (.iconst (-1), 1) := by decide +kernel
theorem dX1_lead_21 : decode cX1_lead 21 = .ok (.putfield 9, 3) := by decide +kernel
theorem dX1_lead_24 : decode cX1_lead 24 = .ok (.aload_n 0, 1) := by decide +kernel
theorem dX1_lead_25 : decode cX1_lead 25 = .ok (.iconst 1, 1) := by decide +kernel
theorem dX1_lead_26 : decode cX1_lead 26 = .ok (.iload_n 3, 1) := by decide +kernel
theorem dX1_lead_27 : decode cX1_lead 27 = .ok (.iload 4, 2) := by decide +kernel
theorem dX1_lead_29 : decode cX1_lead 29 = .ok (.imul, 1) := by decide +kernel
theorem dX1_lead_30 : decode cX1_lead 30 = .ok (.invokestatic 28, 3) := by decide +kernel
theorem dX1_lead_33 : decode cX1_lead 33 = .ok (.putfield 15, 3) := by decide +kernel
theorem dX1_lead_36 : decode cX1_lead 36 = .ok (.iconst 0, 1) := by decide +kernel
theorem dX1_lead_37 : decode cX1_lead 37 = .ok (.istore 5, 2) := by decide +kernel
theorem dX1_lead_39 : decode cX1_lead 39 = .ok (.iload 5, 2) := by decide +kernel
theorem dX1_lead_41 : decode cX1_lead 41 = .ok (.iload 4, 2) := by decide +kernel
theorem dX1_lead_43 : decode cX1_lead 43 = .ok (.if_icmp .ge 43, 3) := by decide +kernel
theorem dX1_lead_46 : decode cX1_lead 46 = .ok (.aload_n 0, 1) := by decide +kernel
theorem dX1_lead_47 : decode cX1_lead 47 = .ok (.getfield 9, 3) := by decide +kernel
theorem dX1_lead_50 : decode cX1_lead 50 = .ok (.iconst (-1), 1) := by decide +kernel
theorem dX1_lead_51 : decode cX1_lead 51 = .ok (.if_icmp .ne 35, 3) := by decide +kernel
theorem dX1_lead_54 : decode cX1_lead 54 = .ok (.iload_n 1, 1) := by decide +kernel
theorem dX1_lead_55 : decode cX1_lead 55 = .ok (.iload 5, 2) := by decide +kernel
theorem dX1_lead_57 : decode cX1_lead 57 = .ok (.iload_n 3, 1) := by decide +kernel
theorem dX1_lead_58 : decode cX1_lead 58 = .ok (.imul, 1) := by decide +kernel
theorem dX1_lead_59 : decode cX1_lead 59 = .ok (.iadd, 1) := by decide +kernel
theorem dX1_lead_60 : decode cX1_lead 60 = .ok (.istore 6, 2) := by decide +kernel
theorem dX1_lead_62 : decode cX1_lead 62 = .ok (.iload 6, 2) := by decide +kernel
theorem dX1_lead_64 : decode cX1_lead 64 = .ok (.iload_n 2, 1) := by decide +kernel
theorem dX1_lead_65 : decode cX1_lead 65 = .ok (.isub, 1) := by decide +kernel
theorem dX1_lead_66 : decode cX1_lead 66 = .ok (.iload 4, 2) := by decide +kernel
theorem dX1_lead_68 : decode cX1_lead 68 = .ok (.invokestatic 34, 3) := by decide +kernel
theorem dX1_lead_71 : decode cX1_lead 71 = .ok (.ifCond .ne 9, 3) := by decide +kernel
theorem dX1_lead_74 : decode cX1_lead 74 = .ok (.aload_n 0, 1) := by decide +kernel
theorem dX1_lead_75 : decode cX1_lead 75 = .ok (.iload 6, 2) := by decide +kernel
theorem dX1_lead_77 : decode cX1_lead 77 = .ok (.putfield 9, 3) := by decide +kernel
theorem dX1_lead_80 : decode cX1_lead 80 = .ok (.iinc 5 1, 3) := by decide +kernel
theorem dX1_lead_83 : decode cX1_lead 83 = .ok (.goto (-44), 3) := by decide +kernel
theorem dX1_lead_86 : decode cX1_lead 86 = .ok (.iconst 1, 1) := by decide +kernel
theorem dX1_lead_87 : decode cX1_lead 87 = .ok (.istore 5, 2) := by decide +kernel
theorem dX1_lead_89 : decode cX1_lead 89 = .ok (.iload 5, 2) := by decide +kernel
theorem dX1_lead_91 : decode cX1_lead 91 = .ok (.iload 4, 2) := by decide +kernel
theorem dX1_lead_93 : decode cX1_lead 93 = .ok (.if_icmp .gt 34, 3) := by decide +kernel
theorem dX1_lead_96 : decode cX1_lead 96 = .ok (.iload 5, 2) := by decide +kernel
theorem dX1_lead_98 : decode cX1_lead 98 = .ok (.iload_n 3, 1) := by decide +kernel
theorem dX1_lead_99 : decode cX1_lead 99 = .ok (.imul, 1) := by decide +kernel
theorem dX1_lead_100 : decode cX1_lead 100 = .ok (.iload 4, 2) := by decide +kernel
theorem dX1_lead_102 : decode cX1_lead 102 = .ok (.invokestatic 34, 3) := by decide +kernel
theorem dX1_lead_105 : decode cX1_lead 105 = .ok (.ifCond .ne 16, 3) := by decide +kernel
theorem dX1_lead_108 : decode cX1_lead 108 = .ok (.aload_n 0, 1) := by decide +kernel
theorem dX1_lead_109 : decode cX1_lead 109 = .ok (.iconst 1, 1) := by decide +kernel
theorem dX1_lead_110 : decode cX1_lead 110 = .ok (.iload 5, 2) := by decide +kernel
theorem dX1_lead_112 : decode cX1_lead 112 = .ok (.iload_n 3, 1) := by decide +kernel
theorem dX1_lead_113 : decode cX1_lead 113 = .ok (.imul, 1) := by decide +kernel
theorem dX1_lead_114 : decode cX1_lead 114 = .ok (.invokestatic 28, 3) := by decide +kernel
theorem dX1_lead_117 : decode cX1_lead 117 = .ok (.putfield 15, 3) := by decide +kernel
theorem dX1_lead_120 : decode cX1_lead 120 = .ok (.return_, 1) := by decide +kernel
theorem dX1_lead_121 : decode cX1_lead 121 = .ok (.iinc 5 1, 3) := by decide +kernel
theorem dX1_lead_124 : decode cX1_lead 124 = .ok (.goto (-35), 3) := by decide +kernel
theorem dX1_lead_127 : decode cX1_lead 127 = .ok (.return_, 1) := by decide +kernel
theorem dX1_longestGap_0 : decode cX1_longestGap 0 = .ok (.iconst (-1), 1) := by decide +kernel
theorem dX1_longestGap_1 : decode cX1_longestGap 1 = .ok (.istore_n 2, 1) := by decide +kernel
theorem dX1_longestGap_2 : decode cX1_longestGap 2 = .ok (.iconst (-1), 1) := by decide +kernel
theorem dX1_longestGap_3 : decode cX1_longestGap 3 = .ok (.istore_n 3, 1) := by decide +kernel
theorem dX1_longestGap_4 : decode cX1_longestGap 4 = .ok (.aload_n 0, 1) := by decide +kernel
theorem dX1_longestGap_5 : decode cX1_longestGap 5 = .ok (.getfield 9, 3) := by decide +kernel
theorem dX1_longestGap_8 : decode cX1_longestGap 8 = .ok (.istore 4, 2) := by decide +kernel
theorem dX1_longestGap_10 : decode cX1_longestGap 10 = .ok (.iload 4, 2) := by decide +kernel
theorem dX1_longestGap_12 : decode cX1_longestGap 12 = .ok (.iconst (-1), 1) := by decide +kernel
theorem dX1_longestGap_13 : decode cX1_longestGap 13 = .ok (.if_icmp .eq 50, 3) := by decide +kernel
theorem dX1_longestGap_16 : decode cX1_longestGap 16 = .ok (.iload 4, 2) := by decide +kernel
theorem dX1_longestGap_18 : decode cX1_longestGap 18 = .ok (.iload_n 1, 1) := by decide +kernel
theorem dX1_longestGap_19 : decode cX1_longestGap 19 = .ok (.if_icmp .gt 44, 3) := by decide +kernel
theorem dX1_longestGap_22 : decode cX1_longestGap 22 = .ok (.aload_n 0, 1) := by decide +kernel
theorem dX1_longestGap_23 : decode cX1_longestGap 23 = .ok (.getfield 18, 3) := by decide +kernel
theorem dX1_longestGap_26 : decode cX1_longestGap 26 = .ok (.iload 4, 2) := by decide +kernel
theorem dX1_longestGap_28 : decode cX1_longestGap 28 = .ok (.invokevirtual 37, 3) := by decide +kernel
theorem dX1_longestGap_31 : decode cX1_longestGap 31 = .ok (.ifCond .ne 20, 3) := by decide +kernel
theorem dX1_longestGap_34 : decode cX1_longestGap 34 = .ok (.iload_n 3, 1) := by decide +kernel
theorem dX1_longestGap_35 : decode cX1_longestGap 35 = .ok (.iconst (-1), 1) := by decide +kernel
theorem dX1_longestGap_36 : decode cX1_longestGap 36 = .ok (.if_icmp .eq 12, 3) := by decide +kernel
theorem dX1_longestGap_39 : decode cX1_longestGap 39 = .ok (.iload_n 2, 1) := by decide +kernel
theorem dX1_longestGap_40 : decode cX1_longestGap 40 = .ok (.iload 4, 2) := by decide +kernel
theorem dX1_longestGap_42 : decode cX1_longestGap 42 = .ok (.iload_n 3, 1) := by decide +kernel
theorem dX1_longestGap_43 : decode cX1_longestGap 43 = .ok (.isub, 1) := by decide +kernel
theorem dX1_longestGap_44 : decode cX1_longestGap 44 = .ok (.invokestatic 28, 3) := by decide +kernel
theorem dX1_longestGap_47 : decode cX1_longestGap 47 = .ok (.istore_n 2, 1) := by decide +kernel
theorem dX1_longestGap_48 : decode cX1_longestGap 48 = .ok (.iload 4, 2) := by decide +kernel
theorem dX1_longestGap_50 : decode cX1_longestGap 50 = .ok (.istore_n 3, 1) := by decide +kernel
theorem dX1_longestGap_51 : decode cX1_longestGap 51 = .ok (.iload 4, 2) := by decide +kernel
theorem dX1_longestGap_53 : decode cX1_longestGap 53 = .ok (.aload_n 0, 1) := by decide +kernel
theorem dX1_longestGap_54 : decode cX1_longestGap 54 = .ok (.getfield 15, 3) := by decide +kernel
theorem dX1_longestGap_57 : decode cX1_longestGap 57 = .ok (.iadd, 1) := by decide +kernel
theorem dX1_longestGap_58 : decode cX1_longestGap 58 = .ok (.istore 4, 2) := by decide +kernel
theorem dX1_longestGap_60 : decode cX1_longestGap 60 = .ok (.goto (-50), 3) := by decide +kernel
theorem dX1_longestGap_63 : decode cX1_longestGap 63 = .ok (.iload_n 2, 1) := by decide +kernel
theorem dX1_longestGap_64 : decode cX1_longestGap 64 = .ok (.ireturn, 1) := by decide +kernel
theorem dX1_meetingFrom_0 : decode cX1_meetingFrom 0 = .ok (.aload_n 0, 1) := by decide +kernel
theorem dX1_meetingFrom_1 : decode cX1_meetingFrom 1 = .ok (.getfield 9, 3) := by decide +kernel
theorem dX1_meetingFrom_4 : decode cX1_meetingFrom 4 = .ok (.iconst (-1), 1) := by decide +kernel
theorem dX1_meetingFrom_5 : decode cX1_meetingFrom 5 = .ok (.if_icmp .ne 5, 3) := by decide +kernel
theorem dX1_meetingFrom_8 : decode cX1_meetingFrom 8 = .ok (.iconst (-1), 1) := by decide +kernel
theorem dX1_meetingFrom_9 : decode cX1_meetingFrom 9 = .ok (.ireturn, 1) := by decide +kernel
theorem dX1_meetingFrom_10 : decode cX1_meetingFrom 10 = .ok (.iload_n 1, 1) := by decide +kernel
theorem dX1_meetingFrom_11 : decode cX1_meetingFrom 11 = .ok (.aload_n 0, 1) := by decide +kernel
theorem dX1_meetingFrom_12 : decode cX1_meetingFrom 12 = .ok (.getfield 9, 3) := by decide +kernel
theorem dX1_meetingFrom_15 : decode cX1_meetingFrom 15 = .ok (.invokestatic 28, 3) := by decide +kernel
theorem dX1_meetingFrom_18 : decode cX1_meetingFrom 18 = .ok (.istore_n 2, 1) := by decide +kernel
theorem dX1_meetingFrom_19 : decode cX1_meetingFrom 19 = .ok (.iload_n 2, 1) := by decide +kernel
theorem dX1_meetingFrom_20 : decode cX1_meetingFrom 20 = .ok (.aload_n 0, 1) := by decide +kernel
theorem dX1_meetingFrom_21 : decode cX1_meetingFrom 21 = .ok (.getfield 9, 3) := by decide +kernel
theorem dX1_meetingFrom_24 : decode cX1_meetingFrom 24 = .ok (.iload_n 2, 1) := by decide +kernel
theorem dX1_meetingFrom_25 : decode cX1_meetingFrom 25 = .ok (.isub, 1) := by decide +kernel
theorem dX1_meetingFrom_26 : decode cX1_meetingFrom 26 = .ok (.aload_n 0, 1) := by decide +kernel
theorem dX1_meetingFrom_27 : decode cX1_meetingFrom 27 = .ok (.getfield 15, 3) := by decide +kernel
theorem dX1_meetingFrom_30 : decode cX1_meetingFrom 30 = .ok (.invokestatic 34, 3) := by decide +kernel
theorem dX1_meetingFrom_33 : decode cX1_meetingFrom 33 = .ok (.iadd, 1) := by decide +kernel
theorem dX1_meetingFrom_34 : decode cX1_meetingFrom 34 = .ok (.istore_n 2, 1) := by decide +kernel
theorem dX1_meetingFrom_35 : decode cX1_meetingFrom 35 = .ok (.iload_n 2, 1) := by decide +kernel
theorem dX1_meetingFrom_36 : decode cX1_meetingFrom 36 = .ok (.sipush 10000, 3) := by decide +kernel
theorem dX1_meetingFrom_39 : decode cX1_meetingFrom 39 = .ok (.if_icmp .gt 26, 3) := by decide +kernel
theorem dX1_meetingFrom_42 : decode cX1_meetingFrom 42 = .ok (.aload_n 0, 1) := by decide +kernel
theorem dX1_meetingFrom_43 : decode cX1_meetingFrom 43 = .ok (.getfield 18, 3) := by decide +kernel

theorem dX7_hasPart_15 : decode cX7_hasPart 15 = .ok (.iaload, 1) := by decide +kernel
theorem dX7_hasPart_16 : decode cX7_hasPart 16 = .ok (.invokestatic 39, 3) := by decide +kernel
theorem dX7_hasPart_19 : decode cX7_hasPart 19 = .ok (.ifCond .eq 23, 3) := by decide +kernel
theorem dX7_hasPart_22 : decode cX7_hasPart 22 = .ok (.iload_n 2, 1) := by decide +kernel
theorem dX7_hasPart_23 : decode cX7_hasPart 23 = .ok (.iconst 0, 1) := by decide +kernel
theorem dX7_hasPart_24 : decode cX7_hasPart 24 = .ok (.aload_n 0, 1) := by decide +kernel
theorem dX7_hasPart_25 : decode cX7_hasPart 25 = .ok (.getfield 9, 3) := by decide +kernel
theorem dX7_hasPart_28 : decode cX7_hasPart 28 = .ok (.iload_n 1, 1) := by decide +kernel
theorem dX7_hasPart_29 : decode cX7_hasPart 29 = .ok (.iaload, 1) := by decide +kernel
theorem dX7_hasPart_30 : decode cX7_hasPart 30 = .ok (.iload_n 3, 1) := by decide +kernel
theorem dX7_hasPart_31 : decode cX7_hasPart 31 = .ok (.isub, 1) := by decide +kernel
theorem dX7_hasPart_32 : decode cX7_hasPart 32 = .ok (.invokestatic 39, 3) := by decide +kernel
theorem dX7_hasPart_35 : decode cX7_hasPart 35 = .ok (.ifCond .eq 7, 3) := by decide +kernel
theorem dX7_hasPart_38 : decode cX7_hasPart 38 = .ok (.iconst 1, 1) := by decide +kernel
theorem dX7_hasPart_39 : decode cX7_hasPart 39 = .ok (.goto 4, 3) := by decide +kernel
theorem dX7_hasPart_42 : decode cX7_hasPart 42 = .ok (.iconst 0, 1) := by decide +kernel
theorem dX7_hasPart_43 : decode cX7_hasPart 43 = .ok (.ireturn, 1) := by decide +kernel
theorem dX7_init_0 : decode cX7_init 0 = .ok (.aload_n 0, 1) := by decide +kernel
theorem dX7_init_1 : decode cX7_init 1 = .ok (.invokespecial 3, 3) := by decide +kernel
theorem dX7_init_4 : decode cX7_init 4 = .ok (.aload_n 0, 1) := by decide +kernel
theorem dX7_init_5 : decode cX7_init 5 = .ok (.iconst 4, 1) := by decide +kernel
theorem dX7_init_6 : decode cX7_init 6 = .ok (.newarray .int, 2) := by decide +kernel
theorem dX7_init_8 : decode cX7_init 8 = .ok (.putfield 9, 3) := by decide +kernel
theorem dX7_init_11 : decode cX7_init 11 = .ok (.aload_n 0, 1) := by decide +kernel
theorem dX7_init_12 : decode cX7_init 12 = .ok (.iconst 4, 1) := by decide +kernel
theorem dX7_init_13 : decode cX7_init 13 = .ok (.newarray .int, 2) := by decide +kernel
theorem dX7_init_15 : decode cX7_init 15 = .ok (.putfield 15, 3) := by decide +kernel
theorem dX7_init_18 : decode cX7_init 18 = .ok (.aload_n 0, 1) := by decide +kernel
theorem dX7_init_19 : decode cX7_init 19 = .ok (.sipush 240, 3) := by decide +kernel
theorem dX7_init_22 : decode cX7_init 22 = .ok (.newarray .long, 2) := by decide +kernel
theorem dX7_init_24 : decode cX7_init 24 = .ok (.putfield 18, 3) := by decide +kernel
theorem dX7_init_27 : decode cX7_init 27 = .ok (.aload_n 0, 1) := by decide +kernel
theorem dX7_init_28 : decode cX7_init 28 = .ok (.getfield 9, 3) := by decide +kernel
theorem dX7_init_31 : decode cX7_init 31 = .ok (.iconst (-1), 1) := by decide +kernel
theorem dX7_init_32 : decode cX7_init 32 = .ok (.invokestatic 22, 3) := by decide +kernel
theorem dX7_init_35 : decode cX7_init 35 = .ok (.return_, 1) := by decide +kernel
theorem dX7_isBare_0 : decode cX7_isBare 0 = .ok (.aload_n 0, 1) := by decide +kernel
theorem dX7_isBare_1 : decode cX7_isBare 1 = .ok (.iload_n 1, 1) := by decide +kernel
theorem dX7_isBare_2 : decode cX7_isBare 2 = .ok (.invokevirtual 28, 3) := by decide +kernel
theorem dX7_isBare_5 : decode cX7_isBare 5 = .ok (.iconst (-1), 1) := by decide +kernel
theorem dX7_isBare_6 : decode cX7_isBare 6 = .ok (.if_icmp .ne 7, 3) := by decide +kernel
theorem dX7_isBare_9 : decode cX7_isBare 9 = .ok (.iconst 1, 1) := by decide +kernel
theorem dX7_isBare_10 : decode cX7_isBare 10 = .ok (.goto 4, 3) := by decide +kernel
theorem dX7_isBare_13 : decode cX7_isBare 13 = .ok (.iconst 0, 1) := by decide +kernel
theorem dX7_isBare_14 : decode cX7_isBare 14 = .ok (.ireturn, 1) := by decide +kernel
theorem dX7_make_0 : decode cX7_make 0 = .ok (.aload_n 0, 1) := by decide +kernel
theorem dX7_make_1 : decode cX7_make 1 = .ok (.iload_n 1, 1) := by decide +kernel
theorem dX7_make_2 : decode cX7_make 2 = .ok (.invokevirtual 32, 3) := by decide +kernel
theorem dX7_make_5 : decode cX7_make 5 = .ok (.ifCond .eq 55, 3) := by decide +kernel
theorem dX7_make_8 : decode cX7_make 8 = .ok (.iload_n 3, 1) := by decide +kernel
theorem dX7_make_9 : decode cX7_make 9 = .ok (.iconst 0, 1) := by decide +kernel
theorem dX7_make_10 : decode cX7_make 10 = .ok (.bipush 60, 2) := by decide +kernel
theorem dX7_make_12 : decode cX7_make 12 = .ok (.invokestatic 39, 3) := by decide +kernel
theorem dX7_make_15 : decode cX7_make 15 = .ok (.ifCond .eq 45, 3) := by decide +kernel
theorem dX7_make_18 : decode cX7_make 18 = .ok (.aload_n 0, 1) := by decide +kernel
theorem dX7_make_19 : decode cX7_make 19 = .ok (.getfield 9, 3) := by decide +kernel
theorem dX7_make_22 : decode cX7_make 22 = .ok (.iload_n 1, 1) := by decide +kernel
theorem dX7_make_23 : decode cX7_make 23 = .ok (.iload_n 3, 1) := by decide +kernel
theorem dX7_make_24 : decode cX7_make 24 = .ok (.iastore, 1) := by decide +kernel
theorem dX7_make_25 : decode cX7_make 25 = .ok (.aload_n 0, 1) := by decide +kernel
theorem dX7_make_26 : decode cX7_make 26 = .ok (.getfield 15, 3) := by decide +kernel
theorem dX7_make_29 : decode cX7_make 29 = .ok (.iload_n 1, 1) := by decide +kernel
theorem dX7_make_30 : decode cX7_make 30 = .ok (.iload_n 2, 1) := by decide +kernel
theorem dX7_make_31 : decode cX7_make 31 = .ok (.iastore, 1) := by decide +kernel
theorem dX7_make_32 : decode cX7_make 32 = .ok (.iconst 0, 1) := by decide +kernel
theorem dX7_make_33 : decode cX7_make 33 = .ok (.istore 4, 2) := by decide +kernel
theorem dX7_make_35 : decode cX7_make 35 = .ok (.iload 4, 2) := by decide +kernel
theorem dX7_make_37 : decode cX7_make 37 = .ok (.iload_n 3, 1) := by decide +kernel
theorem dX7_make_38 : decode cX7_make 38 = .ok (.if_icmp .ge 22, 3) := by decide +kernel
theorem dX7_make_41 : decode cX7_make 41 = .ok (.aload_n 0, 1) := by decide +kernel
theorem dX7_make_42 : decode cX7_make 42 = .ok (.getfield 18, 3) := by decide +kernel
theorem dX7_make_45 : decode cX7_make 45 = .ok (.iload_n 1, 1) := by decide +kernel
theorem dX7_make_46 : decode cX7_make 46 = .ok (.bipush 60, 2) := by decide +kernel
theorem dX7_make_48 : decode cX7_make 48 = .ok (.imul, 1) := by decide +kernel
theorem dX7_make_49 : decode cX7_make 49 = .ok (.iload 4, 2) := by decide +kernel
theorem dX7_make_51 : decode cX7_make 51 = .ok (.iadd, 1) := by decide +kernel
theorem dX7_make_52 : decode cX7_make 52 = .ok (.lconst 0, 1) := by decide +kernel
theorem dX7_make_53 : decode cX7_make 53 = .ok (.lastore, 1) := by decide +kernel
theorem dX7_make_54 : decode cX7_make 54 = .ok (.iinc 4 1, 3) := by decide +kernel
theorem dX7_make_57 : decode cX7_make 57 = .ok (.goto (-22), 3) := by decide +kernel
theorem dX7_make_60 : decode cX7_make 60 = .ok (.return_, 1) := by decide +kernel
theorem dX7_move_0 : decode cX7_move 0 = .ok (.aload_n 0, 1) := by decide +kernel
theorem dX7_move_1 : decode cX7_move 1 = .ok (.iload_n 1, 1) := by decide +kernel
theorem dX7_move_2 : decode cX7_move 2 = .ok (.iload_n 2, 1) := by decide +kernel
theorem dX7_move_3 : decode cX7_move 3 = .ok (.iload 5, 2) := by decide +kernel
theorem dX7_move_5 : decode cX7_move 5 = .ok (.invokevirtual 43, 3) := by decide +kernel
theorem dX7_move_8 : decode cX7_move 8 = .ok (.ifCond .eq 41, 3) := by decide +kernel
theorem dX7_move_11 : decode cX7_move 11 = .ok (.aload_n 0, 1) := by decide +kernel
theorem dX7_move_12 : decode cX7_move 12 = .ok (.iload_n 3, 1) := by decide +kernel
theorem dX7_move_13 : decode cX7_move 13 = .ok (.iload 4, 2) := by decide +kernel
theorem dX7_move_15 : decode cX7_move 15 = .ok (.iload 5, 2) := by decide +kernel
theorem dX7_move_17 : decode cX7_move 17 = .ok (.invokevirtual 43, 3) := by decide +kernel
theorem dX7_move_20 : decode cX7_move 20 = .ok (.ifCond .eq 29, 3) := by decide +kernel
theorem dX7_move_23 : decode cX7_move 23 = .ok (.aload_n 0, 1) := by decide +kernel
theorem dX7_move_24 : decode cX7_move 24 = .ok (.getfield 18, 3) := by decide +kernel
theorem dX7_move_27 : decode cX7_move 27 = .ok (.iload_n 1, 1) := by decide +kernel
theorem dX7_move_28 : decode cX7_move 28 = .ok (.bipush 60, 2) := by decide +kernel
theorem dX7_move_30 : decode cX7_move 30 = .ok (.imul, 1) := by decide +kernel
theorem dX7_move_31 : decode cX7_move 31 = .ok (.iload_n 2, 1) := by decide +kernel
theorem dX7_move_32 : decode cX7_move 32 = .ok (.iadd, 1) := by decide +kernel
theorem dX7_move_33 : decode cX7_move 33 = .ok (.aload_n 0, 1) := by decide +kernel
theorem dX7_move_34 : decode cX7_move 34 = .ok (.getfield 18, 3) := by decide +kernel
theorem dX7_move_37 : decode cX7_move 37 = .ok (.iload_n 3, 1) := by decide +kernel
theorem dX7_move_38 : decode cX7_move 38 = .ok (.bipush 60, 2) := by decide +kernel
theorem dX7_move_40 : decode cX7_move 40 = .ok (.imul, 1) := by decide +kernel
theorem dX7_move_41 : decode cX7_move 41 = .ok (.iload 4, 2) := by decide +kernel
theorem dX7_move_43 : decode cX7_move 43 = .ok (.iadd, 1) := by decide +kernel
theorem dX7_move_44 : decode cX7_move 44 = .ok (.iload 5, 2) := by decide +kernel
theorem dX7_move_46 : decode cX7_move 46 = .ok (.invokestatic 52, 3) := by decide +kernel
theorem dX7_move_49 : decode cX7_move 49 = .ok (.return_, 1) := by decide +kernel
theorem dX7_numberAt_0 : decode cX7_numberAt 0 = .ok (.aload_n 0, 1) := by decide +kernel
theorem dX7_numberAt_1 : decode cX7_numberAt 1 = .ok (.iload_n 1, 1) := by decide +kernel
theorem dX7_numberAt_2 : decode cX7_numberAt 2 = .ok (.iload_n 2, 1) := by decide +kernel
theorem dX7_numberAt_3 : decode cX7_numberAt 3 = .ok (.iconst 1, 1) := by decide +kernel
theorem dX7_numberAt_4 : decode cX7_numberAt 4 = .ok (.invokevirtual 43, 3) := by decide +kernel
theorem dX7_numberAt_7 : decode cX7_numberAt 7 = .ok (.ifCond .eq 17, 3) := by decide +kernel
theorem dX7_numberAt_10 : decode cX7_numberAt 10 = .ok (.aload_n 0, 1) := by decide +kernel
theorem dX7_numberAt_11 : decode cX7_numberAt 11 = .ok (.getfield 18, 3) := by decide +kernel
theorem dX7_numberAt_14 : decode cX7_numberAt 14 = .ok (.iload_n 1, 1) := by decide +kernel
theorem dX7_numberAt_15 : decode cX7_numberAt 15 = .ok (.bipush 60, 2) := by decide +kernel
theorem dX7_numberAt_17 : decode cX7_numberAt 17 = .ok (.imul, 1) := by decide +kernel
theorem dX7_numberAt_18 : decode cX7_numberAt 18 = .ok (.iload_n 2, 1) := by decide +kernel
theorem dX7_numberAt_19 : decode cX7_numberAt 19 = .ok (.iadd, 1) := by decide +kernel
theorem dX7_numberAt_20 : decode cX7_numberAt 20 = .ok (.laload, 1) := by decide +kernel
theorem dX7_numberAt_21 : decode cX7_numberAt 21 = .ok (.goto 6, 3) := by decide +kernel
theorem dX7_numberAt_24 : decode cX7_numberAt 24 = .ok (.ldc2_w 50, 3) := by decide +kernel
theorem dX7_numberAt_27 : decode cX7_numberAt 27 = .ok (.lreturn, 1) := by decide +kernel
theorem dX7_put_0 : decode cX7_put 0 = .ok (.aload_n 0, 1) := by decide +kernel
theorem dX7_put_1 : decode cX7_put 1 = .ok (.iload_n 1, 1) := by decide +kernel
theorem dX7_put_2 : decode cX7_put 2 = .ok (.iload_n 2, 1) := by decide +kernel
theorem dX7_put_3 : decode cX7_put 3 = .ok (.iconst 1, 1) := by decide +kernel
theorem dX7_put_4 : decode cX7_put 4 = .ok (.invokevirtual 43, 3) := by decide +kernel
theorem dX7_put_7 : decode cX7_put 7 = .ok (.ifCond .eq 24, 3) := by decide +kernel
theorem dX7_put_10 : decode cX7_put 10 = .ok (.aload_n 0, 1) := by decide +kernel
theorem dX7_put_11 : decode cX7_put 11 = .ok (.getfield 18, 3) := by decide +kernel
theorem dX7_put_14 : decode cX7_put 14 = .ok (.iload_n 1, 1) := by decide +kernel
theorem dX7_put_15 : decode cX7_put 15 = .ok (.bipush 60, 2) := by decide +kernel
theorem dX7_put_17 : decode cX7_put 17 = .ok (.imul, 1) := by decide +kernel
theorem dX7_put_18 : decode cX7_put 18 = .ok (.iload_n 2, 1) := by decide +kernel
theorem dX7_put_19 : decode cX7_put 19 = .ok (.iadd, 1) := by decide +kernel
theorem dX7_put_20 : decode cX7_put 20 = .ok (.aload_n 0, 1) := by decide +kernel
theorem dX7_put_21 : decode cX7_put 21 = .ok (.getfield 15, 3) := by decide +kernel
theorem dX7_put_24 : decode cX7_put 24 = .ok (.iload_n 1, 1) := by decide +kernel
theorem dX7_put_25 : decode cX7_put 25 = .ok (.iaload, 1) := by decide +kernel
theorem dX7_put_26 : decode cX7_put 26 = .ok (.lload_n 3, 1) := by decide +kernel
theorem dX7_put_27 : decode cX7_put 27 = .ok (.invokestatic 46, 3) := by decide +kernel
theorem dX7_put_30 : decode cX7_put 30 = .ok (.lastore, 1) := by decide +kernel
theorem dX7_put_31 : decode cX7_put 31 = .ok (.return_, 1) := by decide +kernel
theorem dX7_sizeOf_0 : decode cX7_sizeOf 0 = .ok (.aload_n 0, 1) := by decide +kernel
theorem dX7_sizeOf_1 : decode cX7_sizeOf 1 = .ok (.iload_n 1, 1) := by decide +kernel
theorem dX7_sizeOf_2 : decode cX7_sizeOf 2 = .ok (.invokevirtual 32, 3) := by decide +kernel
theorem dX7_sizeOf_5 : decode cX7_sizeOf 5 = .ok (.ifCond .eq 12, 3) := by decide +kernel
theorem dX7_sizeOf_8 : decode cX7_sizeOf 8 = .ok (.aload_n 0, 1) := by decide +kernel
theorem dX7_sizeOf_9 : decode cX7_sizeOf 9 = .ok (.getfield 9, 3) := by decide +kernel
theorem dX7_sizeOf_12 : decode cX7_sizeOf 12 = .ok (.iload_n 1, 1) := by decide +kernel
theorem dX7_sizeOf_13 : decode cX7_sizeOf 13 = .ok (.iaload, 1) := by decide +kernel
theorem dX7_sizeOf_14 : decode cX7_sizeOf 14 = .ok (.goto 4, 3) := by decide +kernel
theorem dX7_sizeOf_17 : decode cX7_sizeOf 17 = .ok (.iconst (-1), 1) := by decide +kernel
theorem dX7_sizeOf_18 : decode cX7_sizeOf 18 = .ok (.ireturn, 1) := by decide +kernel
theorem dX7_widthOf_0 : decode cX7_widthOf 0 = .ok (.aload_n 0, 1) := by decide +kernel
theorem dX7_widthOf_1 : decode cX7_widthOf 1 = .ok (.iload_n 1, 1) := by decide +kernel
theorem dX7_widthOf_2 : decode cX7_widthOf 2 = .ok (.invokevirtual 32, 3) := by decide +kernel
theorem dX7_widthOf_5 : decode cX7_widthOf 5 = .ok (.ifCond .eq 12, 3) := by decide +kernel
theorem dX7_widthOf_8 : decode cX7_widthOf 8 = .ok (.aload_n 0, 1) := by decide +kernel
theorem dX7_widthOf_9 : decode cX7_widthOf 9 = .ok (.getfield 15, 3) := by decide +kernel
theorem dX7_widthOf_12 : decode cX7_widthOf 12 = .ok (.iload_n 1, 1) := by decide +kernel
theorem dX7_widthOf_13 : decode cX7_widthOf 13 = .ok (.iaload, 1) := by decide +kernel
theorem dX7_widthOf_14 : decode cX7_widthOf 14 = .ok (.goto 4, 3) := by decide +kernel
theorem dX7_widthOf_17 : decode cX7_widthOf 17 = .ok (.iconst (-1), 1) := by decide +kernel
theorem dX7_widthOf_18 : decode cX7_widthOf 18 = .ok (.ireturn, 1) := by decide +kernel
theorem dX7_withRow_0 : decode cX7_withRow 0 = .ok (.iconst 0, 1) := by decide +kernel
theorem dX7_withRow_1 : decode cX7_withRow 1 = .ok (.istore_n 1, 1) := by decide +kernel
theorem dX7_withRow_2 : decode cX7_withRow 2 = .ok (.iconst 0, 1) := by decide +kernel
theorem dX7_withRow_3 : decode cX7_withRow 3 = .ok (.istore_n 2, 1) := by decide +kernel
theorem dX7_withRow_4 : decode cX7_withRow 4 = .ok (.iload_n 2, 1) := by decide +kernel
theorem dX7_withRow_5 : decode cX7_withRow 5 = .ok (.iconst 4, 1) := by decide +kernel
theorem dX7_withRow_6 : decode cX7_withRow 6 = .ok (.if_icmp .ge 20, 3) := by decide +kernel
theorem dX7_withRow_9 : decode cX7_withRow 9 = .ok (.aload_n 0, 1) := by decide +kernel
theorem dX7_withRow_10 : decode cX7_withRow 10 = .ok (.iload_n 2, 1) := by decide +kernel
theorem dX7_withRow_11 : decode cX7_withRow 11 = .ok (.invokevirtual 36, 3) := by decide +kernel
theorem dX7_withRow_14 : decode cX7_withRow 14 = .ok (.ifCond .ne 6, 3) := by decide +kernel
theorem dX7_withRow_17 : decode cX7_withRow 17 = .ok (.iinc 1 1, 3) := by decide +kernel
theorem dX7_withRow_20 : decode cX7_withRow 20 = .ok (.iinc 2 1, 3) := by decide +kernel
theorem dX7_withRow_23 : decode cX7_withRow 23 = .ok (.goto (-19), 3) := by decide +kernel
theorem dX7_withRow_26 : decode cX7_withRow 26 = .ok (.iload_n 1, 1) := by decide +kernel
theorem dX7_withRow_27 : decode cX7_withRow 27 = .ok (.ireturn, 1) := by decide +kernel
theorem dX8_clauseInOrder_0 : decode cX8_clauseInOrder 0 = .ok (.aload_n 0, 1) := by decide +kernel
theorem dX8_clauseInOrder_1 : decode cX8_clauseInOrder 1 = .ok (.iload_n 1, 1) := by decide +kernel
theorem dX8_clauseInOrder_2 : decode cX8_clauseInOrder 2 = .ok (.invokevirtual 53, 3) := by decide +kernel
theorem dX8_clauseInOrder_5 : decode cX8_clauseInOrder 5 = .ok (.istore_n 3, 1) := by decide +kernel
theorem dX8_clauseInOrder_6 : decode cX8_clauseInOrder 6 = .ok (.iload_n 3, 1) := by decide +kernel
theorem dX8_clauseInOrder_7 : decode cX8_clauseInOrder 7 = .ok (.iconst (-1), 1) := by decide +kernel
theorem dX8_clauseInOrder_8 : decode cX8_clauseInOrder 8 = .ok (.if_icmp .eq 14, 3) := by decide +kernel
theorem dX8_clauseInOrder_11 : decode cX8_clauseInOrder 11 = .ok (.aload_n 0, 1) := by decide +kernel
theorem dX8_clauseInOrder_12 : decode cX8_clauseInOrder 12 = .ok (.getfield 15, 3) := by decide +kernel
theorem dX8_clauseInOrder_15 : decode cX8_clauseInOrder 15 = .ok (.iload_n 2, 1) := by decide +kernel
theorem dX8_clauseInOrder_16 : decode cX8_clauseInOrder 16 = .ok (.invokevirtual 56, 3) := by decide +kernel
theorem dX8_clauseInOrder_19 : decode cX8_clauseInOrder 19 = .ok (.ifCond .ne 5, 3) := by decide +kernel
theorem dX8_clauseInOrder_22 : decode cX8_clauseInOrder 22 = .ok (.iconst (-1), 1) := by decide +kernel
theorem dX8_clauseInOrder_23 : decode cX8_clauseInOrder 23 = .ok (.ireturn, 1) := by decide +kernel
theorem dX8_clauseInOrder_24 : decode cX8_clauseInOrder 24 = .ok (.iload_n 1, 1) := by decide +kernel
theorem dX8_clauseInOrder_25 : decode cX8_clauseInOrder 25 = .ok (.istore 4, 2) := by decide +kernel
theorem dX8_clauseInOrder_27 : decode cX8_clauseInOrder 27 = .ok (.aload_n 0, 1) := by decide +kernel
theorem dX8_clauseInOrder_28 : decode cX8_clauseInOrder 28 = .ok (.getfield 15, 3) := by decide +kernel
theorem dX8_clauseInOrder_31 : decode cX8_clauseInOrder 31 = .ok (.invokevirtual 47, 3) := by decide +kernel
theorem dX8_clauseInOrder_34 : decode cX8_clauseInOrder 34 = .ok (.istore 5, 2) := by decide +kernel
theorem dX8_clauseInOrder_36 : decode cX8_clauseInOrder 36 = .ok (.iconst (-1), 1) := by decide +kernel
theorem dX8_clauseInOrder_37 : decode cX8_clauseInOrder 37 = .ok (.istore 6, 2) := by decide +kernel
theorem dX8_clauseInOrder_39 : decode cX8_clauseInOrder 39 = .ok (.iconst 0, 1) := by decide +kernel
theorem dX8_clauseInOrder_40 : decode cX8_clauseInOrder 40 = .ok (.istore 7, 2) := by decide +kernel
theorem dX8_clauseInOrder_42 : decode cX8_clauseInOrder 42 = .ok (.iload 7, 2) := by decide +kernel
theorem dX8_clauseInOrder_44 : decode cX8_clauseInOrder 44 = .ok (.iload_n 2, 1) := by decide +kernel
theorem dX8_clauseInOrder_45 : decode cX8_clauseInOrder 45 = .ok (.if_icmp .gt 55, 3) := by decide +kernel
theorem dX8_clauseInOrder_48 : decode cX8_clauseInOrder 48 = .ok (.aload_n 0, 1) := by decide +kernel
theorem dX8_clauseInOrder_49 : decode cX8_clauseInOrder 49 = .ok (.iload 4, 2) := by decide +kernel
theorem dX8_clauseInOrder_51 : decode cX8_clauseInOrder 51 = .ok (.iload 5, 2) := by decide +kernel
theorem dX8_clauseInOrder_53 : decode cX8_clauseInOrder 53 = .ok (.iload_n 1, 1) := by decide +kernel
theorem dX8_clauseInOrder_54 : decode cX8_clauseInOrder 54 = .ok (.iload_n 3, 1) := by decide +kernel
theorem dX8_clauseInOrder_55 : decode cX8_clauseInOrder 55 = .ok (.invokevirtual 60, 3) := by decide +kernel
theorem dX8_clauseInOrder_58 : decode cX8_clauseInOrder 58 = .ok (.istore 6, 2) := by decide +kernel
theorem dX8_clauseInOrder_60 : decode cX8_clauseInOrder 60 = .ok (.iload 6, 2) := by decide +kernel
theorem dX8_clauseInOrder_62 : decode cX8_clauseInOrder 62 = .ok (.iconst (-1), 1) := by decide +kernel
theorem dX8_clauseInOrder_63 : decode cX8_clauseInOrder 63 = .ok (.if_icmp .ne 5, 3) := by decide +kernel
theorem dX8_clauseInOrder_66 : decode cX8_clauseInOrder 66 = .ok (.iconst (-1), 1) := by decide +kernel
theorem dX8_clauseInOrder_67 : decode cX8_clauseInOrder 67 = .ok (.ireturn, 1) := by decide +kernel
theorem dX8_clauseInOrder_68 : decode cX8_clauseInOrder 68 = .ok (.iload 4, 2) := by decide +kernel
theorem dX8_clauseInOrder_70 : decode cX8_clauseInOrder 70 = .ok (.aload_n 0, 1) := by decide +kernel
theorem dX8_clauseInOrder_71 : decode cX8_clauseInOrder 71 = .ok (.iload 6, 2) := by decide +kernel
theorem dX8_clauseInOrder_73 : decode cX8_clauseInOrder 73 = .ok (.i2l, 1) := by decide +kernel
theorem dX8_clauseInOrder_74 : decode cX8_clauseInOrder 74 = .ok (.invokevirtual 35, 3) := by decide +kernel
theorem dX8_clauseInOrder_77 : decode cX8_clauseInOrder 77 = .ok (.iload_n 1, 1) := by decide +kernel
theorem dX8_clauseInOrder_78 : decode cX8_clauseInOrder 78 = .ok (.invokestatic 39, 3) := by decide +kernel
theorem dX8_clauseInOrder_81 : decode cX8_clauseInOrder 81 = .ok (.istore 4, 2) := by decide +kernel
theorem dX8_clauseInOrder_83 : decode cX8_clauseInOrder 83 = .ok (.iload 5, 2) := by decide +kernel
theorem dX8_clauseInOrder_85 : decode cX8_clauseInOrder 85 = .ok (.iconst 1, 1) := by decide +kernel
theorem dX8_clauseInOrder_86 : decode cX8_clauseInOrder 86 = .ok (.iload 6, 2) := by decide +kernel
theorem dX8_clauseInOrder_88 : decode cX8_clauseInOrder 88 = .ok (.ishl, 1) := by decide +kernel
theorem dX8_clauseInOrder_89 : decode cX8_clauseInOrder 89 = .ok (.iconst (-1), 1) := by decide +kernel
theorem dX8_clauseInOrder_90 : decode cX8_clauseInOrder 90 = .ok (.ixor, 1) := by decide +kernel
theorem dX8_clauseInOrder_91 : decode cX8_clauseInOrder 91 = .ok (.iand, 1) := by decide +kernel
theorem dX8_clauseInOrder_92 : decode cX8_clauseInOrder 92 = .ok (.istore 5, 2) := by decide +kernel
theorem dX8_clauseInOrder_94 : decode cX8_clauseInOrder 94 = .ok (.iinc 7 1, 3) := by decide +kernel
theorem dX8_clauseInOrder_97 : decode cX8_clauseInOrder 97 = .ok (.goto (-55), 3) := by decide +kernel
theorem dX8_clauseInOrder_100 : decode cX8_clauseInOrder 100 = .ok (.iload 6, 2) := by decide +kernel
theorem dX8_clauseInOrder_102 : decode cX8_clauseInOrder 102 = .ok (.ireturn, 1) := by decide +kernel
theorem dX8_fewestFrom_0 : decode cX8_fewestFrom 0 = .ok (.aload_n 0, 1) := by decide +kernel
theorem dX8_fewestFrom_1 : decode cX8_fewestFrom 1 = .ok (.getfield 11, 3) := by decide +kernel
theorem dX8_fewestFrom_4 : decode cX8_fewestFrom 4 = .ok (.iconst 0, 1) := by decide +kernel
theorem dX8_fewestFrom_5 : decode cX8_fewestFrom 5 = .ok (.iload_n 1, 1) := by decide +kernel
theorem dX8_fewestFrom_6 : decode cX8_fewestFrom 6 = .ok (.iastore, 1) := by decide +kernel
theorem dX8_fewestFrom_7 : decode cX8_fewestFrom 7 = .ok (.iconst 1, 1) := by decide +kernel
theorem dX8_fewestFrom_8 : decode cX8_fewestFrom 8 = .ok (.istore 4, 2) := by decide +kernel
theorem dX8_fewestFrom_10 : decode cX8_fewestFrom 10 = .ok (.iload 4, 2) := by decide +kernel
theorem dX8_fewestFrom_12 : decode cX8_fewestFrom 12 = .ok (.iload_n 2, 1) := by decide +kernel
theorem dX8_fewestFrom_13 : decode cX8_fewestFrom 13 = .ok (.if_icmp .gt 40, 3) := by decide +kernel
theorem dX8_fewestFrom_16 : decode cX8_fewestFrom 16 = .ok (.iload 4, 2) := by decide +kernel
theorem dX8_fewestFrom_18 : decode cX8_fewestFrom 18 = .ok (.sipush 128, 3) := by decide +kernel
theorem dX8_fewestFrom_21 : decode cX8_fewestFrom 21 = .ok (.if_icmp .ge 32, 3) := by decide +kernel
theorem dX8_fewestFrom_24 : decode cX8_fewestFrom 24 = .ok (.iload 4, 2) := by decide +kernel
theorem dX8_fewestFrom_26 : decode cX8_fewestFrom 26 = .ok (.iload_n 2, 1) := by decide +kernel
theorem dX8_fewestFrom_27 : decode cX8_fewestFrom 27 = .ok (.iconst (-1), 1) := by decide +kernel
theorem dX8_fewestFrom_28 : decode cX8_fewestFrom 28 = .ok (.ixor, 1) := by decide +kernel
theorem dX8_fewestFrom_29 : decode cX8_fewestFrom 29 = .ok (.iand, 1) := by decide +kernel
theorem dX8_fewestFrom_30 : decode cX8_fewestFrom 30 = .ok (.ifCond .ne 17, 3) := by decide +kernel
theorem dX8_fewestFrom_33 : decode cX8_fewestFrom 33 = .ok (.aload_n 0, 1) := by decide +kernel
theorem dX8_fewestFrom_34 : decode cX8_fewestFrom 34 = .ok (.getfield 11, 3) := by decide +kernel
theorem dX8_fewestFrom_37 : decode cX8_fewestFrom 37 = .ok (.iload 4, 2) := by decide +kernel
theorem dX8_fewestFrom_39 : decode cX8_fewestFrom 39 = .ok (.aload_n 0, 1) := by decide +kernel
theorem dX8_fewestFrom_40 : decode cX8_fewestFrom 40 = .ok (.iload 4, 2) := by decide +kernel
theorem dX8_fewestFrom_42 : decode cX8_fewestFrom 42 = .ok (.iload_n 3, 1) := by decide +kernel
theorem dX8_fewestFrom_43 : decode cX8_fewestFrom 43 = .ok (.invokevirtual 66, 3) := by decide +kernel
theorem dX8_fewestFrom_46 : decode cX8_fewestFrom 46 = .ok (.iastore, 1) := by decide +kernel
theorem dX8_fewestFrom_47 : decode cX8_fewestFrom 47 = .ok (.iinc 4 1, 3) := by decide +kernel
theorem dX8_fewestFrom_50 : decode cX8_fewestFrom 50 = .ok (.goto (-40), 3) := by decide +kernel
theorem dX8_fewestFrom_53 : decode cX8_fewestFrom 53 = .ok (.iload_n 2, 1) := by decide +kernel
theorem dX8_fewestFrom_54 : decode cX8_fewestFrom 54 = .ok (.ifCond .lt 23, 3) := by decide +kernel
theorem dX8_fewestFrom_57 : decode cX8_fewestFrom 57 = .ok (.iload_n 2, 1) := by decide +kernel
theorem dX8_fewestFrom_58 : decode cX8_fewestFrom 58 = .ok (.sipush 128, 3) := by decide +kernel
theorem dX8_fewestFrom_61 : decode cX8_fewestFrom 61 = .ok (.if_icmp .ge 16, 3) := by decide +kernel
theorem dX8_fewestFrom_64 : decode cX8_fewestFrom 64 = .ok (.aload_n 0, 1) := by decide +kernel
theorem dX8_fewestFrom_65 : decode cX8_fewestFrom 65 = .ok (.getfield 11, 3) := by decide +kernel
theorem dX8_fewestFrom_68 : decode cX8_fewestFrom 68 = .ok (.iload_n 2, 1) := by decide +kernel
theorem dX8_fewestFrom_69 : decode cX8_fewestFrom 69 = .ok (.iaload, 1) := by decide +kernel
theorem dX8_fewestFrom_70 : decode cX8_fewestFrom 70 = .ok (.sipush 1000, 3) := by decide +kernel
theorem dX8_fewestFrom_73 : decode cX8_fewestFrom 73 = .ok (.idiv, 1) := by decide +kernel
theorem dX8_fewestFrom_74 : decode cX8_fewestFrom 74 = .ok (.goto 4, 3) := by decide +kernel
theorem dX8_fewestFrom_77 : decode cX8_fewestFrom 77 = .ok (.iconst (-1), 1) := by decide +kernel
theorem dX8_fewestFrom_78 : decode cX8_fewestFrom 78 = .ok (.ireturn, 1) := by decide +kernel
theorem dX8_fewestMeetings_0 : decode cX8_fewestMeetings 0 = .ok (.aload_n 0, 1) := by decide +kernel
theorem dX8_fewestMeetings_1 : decode cX8_fewestMeetings 1 = .ok (.invokevirtual 43, 3) := by decide +kernel
theorem dX8_fewestMeetings_4 : decode cX8_fewestMeetings 4 = .ok (.iload_n 1, 1) := by decide +kernel
theorem dX8_fewestMeetings_5 : decode cX8_fewestMeetings 5 = .ok (.if_icmp .le 7, 3) := by decide +kernel
theorem dX8_fewestMeetings_8 : decode cX8_fewestMeetings 8 = .ok (.iconst (-1), 1) := by decide +kernel
theorem dX8_fewestMeetings_9 : decode cX8_fewestMeetings 9 = .ok (.goto 16, 3) := by decide +kernel
theorem dX8_fewestMeetings_12 : decode cX8_fewestMeetings 12 = .ok (.aload_n 0, 1) := by decide +kernel
theorem dX8_fewestMeetings_13 : decode cX8_fewestMeetings 13 = .ok (.iload_n 1, 1) := by decide +kernel
theorem dX8_fewestMeetings_14 : decode cX8_fewestMeetings 14 = .ok (.aload_n 0, 1) := by decide +kernel
theorem dX8_fewestMeetings_15 : decode cX8_fewestMeetings 15 = .ok (.getfield 15, 3) := by decide +kernel
theorem dX8_fewestMeetings_18 : decode cX8_fewestMeetings 18 = .ok (.invokevirtual 47, 3) := by decide +kernel
theorem dX8_fewestMeetings_21 : decode cX8_fewestMeetings 21 = .ok (.iload_n 1, 1) := by decide +kernel
theorem dX8_fewestMeetings_22 : decode cX8_fewestMeetings 22 = .ok (.invokevirtual 50, 3) := by decide +kernel
theorem dX8_fewestMeetings_25 : decode cX8_fewestMeetings 25 = .ok (.ireturn, 1) := by decide +kernel
theorem dX8_firstToWait_0 : decode cX8_firstToWait 0 = .ok (.iconst (-1), 1) := by decide +kernel
theorem dX8_firstToWait_1 : decode cX8_firstToWait 1 = .ok (.istore 4, 2) := by decide +kernel
theorem dX8_firstToWait_3 : decode cX8_firstToWait 3 = .ok (.iload_n 3, 1) := by decide +kernel
theorem dX8_firstToWait_4 : decode cX8_firstToWait 4 = .ok (.istore 5, 2) := by decide +kernel
theorem dX8_firstToWait_6 : decode cX8_firstToWait 6 = .ok (.iconst 0, 1) := by decide +kernel
theorem dX8_firstToWait_7 : decode cX8_firstToWait 7 = .ok (.istore 6, 2) := by decide +kernel
theorem dX8_firstToWait_9 : decode cX8_firstToWait 9 = .ok (.iload 6, 2) := by decide +kernel
theorem dX8_firstToWait_11 : decode cX8_firstToWait 11 = .ok (.aload_n 1, 1) := by decide +kernel
theorem dX8_firstToWait_12 : decode cX8_firstToWait 12 = .ok (.iload_n 2, 1) := by decide +kernel
theorem dX8_firstToWait_13 : decode cX8_firstToWait 13 = .ok (.invokevirtual 19, 3) := by decide +kernel
theorem dX8_firstToWait_16 : decode cX8_firstToWait 16 = .ok (.if_icmp .ge 74, 3) := by decide +kernel
theorem dX8_firstToWait_19 : decode cX8_firstToWait 19 = .ok (.aload_n 0, 1) := by decide +kernel
theorem dX8_firstToWait_20 : decode cX8_firstToWait 20 = .ok (.aload_n 1, 1) := by decide +kernel
theorem dX8_firstToWait_21 : decode cX8_firstToWait 21 = .ok (.iload_n 2, 1) := by decide +kernel
theorem dX8_firstToWait_22 : decode cX8_firstToWait 22 = .ok (.iload 6, 2) := by decide +kernel
theorem dX8_firstToWait_24 : decode cX8_firstToWait 24 = .ok (.invokevirtual 25, 3) := by decide +kernel
theorem dX8_firstToWait_27 : decode cX8_firstToWait 27 = .ok (.invokevirtual 35, 3) := by decide +kernel
theorem dX8_firstToWait_30 : decode cX8_firstToWait 30 = .ok (.istore 7, 2) := by decide +kernel
theorem dX8_firstToWait_32 : decode cX8_firstToWait 32 = .ok (.iload 7, 2) := by decide +kernel
theorem dX8_firstToWait_34 : decode cX8_firstToWait 34 = .ok (.iload_n 3, 1) := by decide +kernel
theorem dX8_firstToWait_35 : decode cX8_firstToWait 35 = .ok (.if_icmp .le 5, 3) := by decide +kernel
theorem dX8_firstToWait_38 : decode cX8_firstToWait 38 = .ok (.iconst (-1), 1) := by decide +kernel
theorem dX8_firstToWait_39 : decode cX8_firstToWait 39 = .ok (.ireturn, 1) := by decide +kernel
theorem dX8_firstToWait_40 : decode cX8_firstToWait 40 = .ok (.iload 5, 2) := by decide +kernel
theorem dX8_firstToWait_42 : decode cX8_firstToWait 42 = .ok (.iload 7, 2) := by decide +kernel
theorem dX8_firstToWait_44 : decode cX8_firstToWait 44 = .ok (.iload_n 3, 1) := by decide +kernel
theorem dX8_firstToWait_45 : decode cX8_firstToWait 45 = .ok (.invokestatic 39, 3) := by decide +kernel
theorem dX8_firstToWait_48 : decode cX8_firstToWait 48 = .ok (.istore 8, 2) := by decide +kernel
theorem dX8_firstToWait_50 : decode cX8_firstToWait 50 = .ok (.iload 6, 2) := by decide +kernel
theorem dX8_firstToWait_52 : decode cX8_firstToWait 52 = .ok (.ifCond .le 28, 3) := by decide +kernel
theorem dX8_firstToWait_55 : decode cX8_firstToWait 55 = .ok (.iload 4, 2) := by decide +kernel
theorem dX8_firstToWait_57 : decode cX8_firstToWait 57 = .ok (.iconst (-1), 1) := by decide +kernel
theorem dX8_firstToWait_58 : decode cX8_firstToWait 58 = .ok (.if_icmp .ne 22, 3) := by decide +kernel
theorem dX8_firstToWait_61 : decode cX8_firstToWait 61 = .ok (.iload 8, 2) := by decide +kernel
theorem dX8_firstToWait_63 : decode cX8_firstToWait 63 = .ok (.sipush 1000, 3) := by decide +kernel
theorem dX8_firstToWait_66 : decode cX8_firstToWait 66 = .ok (.idiv, 1) := by decide +kernel
theorem dX8_firstToWait_67 : decode cX8_firstToWait 67 = .ok (.iload 5, 2) := by decide +kernel
theorem dX8_firstToWait_69 : decode cX8_firstToWait 69 = .ok (.sipush 1000, 3) := by decide +kernel
theorem dX8_firstToWait_72 : decode cX8_firstToWait 72 = .ok (.idiv, 1) := by decide +kernel
theorem dX8_firstToWait_73 : decode cX8_firstToWait 73 = .ok (.if_icmp .le 7, 3) := by decide +kernel
theorem dX8_firstToWait_76 : decode cX8_firstToWait 76 = .ok (.iload 6, 2) := by decide +kernel
theorem dX8_firstToWait_78 : decode cX8_firstToWait 78 = .ok (.istore 4, 2) := by decide +kernel
theorem dX8_firstToWait_80 : decode cX8_firstToWait 80 = .ok (.iload 8, 2) := by decide +kernel
theorem dX8_firstToWait_82 : decode cX8_firstToWait 82 = .ok (.istore 5, 2) := by decide +kernel
theorem dX8_firstToWait_84 : decode cX8_firstToWait 84 = .ok (.iinc 6 1, 3) := by decide +kernel
theorem dX8_firstToWait_87 : decode cX8_firstToWait 87 = .ok (.goto (-78), 3) := by decide +kernel
theorem dX8_firstToWait_90 : decode cX8_firstToWait 90 = .ok (.iload 4, 2) := by decide +kernel
theorem dX8_firstToWait_92 : decode cX8_firstToWait 92 = .ok (.ireturn, 1) := by decide +kernel
theorem dX8_init_0 : decode cX8_init 0 = .ok (.aload_n 0, 1) := by decide +kernel
theorem dX8_init_1 : decode cX8_init 1 = .ok (.invokespecial 5, 3) := by decide +kernel
theorem dX8_init_4 : decode cX8_init 4 = .ok (.aload_n 0, 1) := by decide +kernel
theorem dX8_init_5 : decode cX8_init 5 = .ok (.sipush 128, 3) := by decide +kernel
theorem dX8_init_8 : decode cX8_init 8 = .ok (.newarray .int, 2) := by decide +kernel
theorem dX8_init_10 : decode cX8_init 10 = .ok (.putfield 11, 3) := by decide +kernel
theorem dX8_init_13 : decode cX8_init 13 = .ok (.aload_n 0, 1) := by decide +kernel
theorem dX8_init_14 : decode cX8_init 14 = .ok (.aload_n 1, 1) := by decide +kernel
theorem dX8_init_15 : decode cX8_init 15 = .ok (.putfield 15, 3) := by decide +kernel
theorem dX8_init_18 : decode cX8_init 18 = .ok (.return_, 1) := by decide +kernel
theorem dX8_isRowOfClauses_0 : decode cX8_isRowOfClauses 0 = .ok (.iconst 0, 1) := by decide +kernel
theorem dX8_isRowOfClauses_1 : decode cX8_isRowOfClauses 1 = .ok (.istore_n 3, 1) := by decide +kernel
theorem dX8_isRowOfClauses_2 : decode cX8_isRowOfClauses 2 = .ok (.iload_n 3, 1) := by decide +kernel
theorem dX8_isRowOfClauses_3 : decode cX8_isRowOfClauses 3 = .ok (.aload_n 1, 1) := by decide +kernel
theorem dX8_isRowOfClauses_4 : decode cX8_isRowOfClauses 4 = .ok (.iload_n 2, 1) := by decide +kernel
theorem dX8_isRowOfClauses_5 : decode cX8_isRowOfClauses 5 = .ok (.invokevirtual 19, 3) := by decide +kernel
theorem dX8_isRowOfClauses_8 : decode cX8_isRowOfClauses 8 = .ok (.if_icmp .ge 40, 3) := by decide +kernel
theorem dX8_isRowOfClauses_11 : decode cX8_isRowOfClauses 11 = .ok (.aload_n 1, 1) := by decide +kernel
theorem dX8_isRowOfClauses_12 : decode cX8_isRowOfClauses 12 = .ok (.iload_n 2, 1) := by decide +kernel
theorem dX8_isRowOfClauses_13 : decode cX8_isRowOfClauses 13 = .ok (.iload_n 3, 1) := by decide +kernel
theorem dX8_isRowOfClauses_14 : decode cX8_isRowOfClauses 14 = .ok (.invokevirtual 25, 3) := by decide +kernel
theorem dX8_isRowOfClauses_17 : decode cX8_isRowOfClauses 17 = .ok (.lstore 4, 2) := by decide +kernel
theorem dX8_isRowOfClauses_19 : decode cX8_isRowOfClauses 19 = .ok (.lload 4, 2) := by decide +kernel
theorem dX8_isRowOfClauses_21 : decode cX8_isRowOfClauses 21 = .ok (.lconst 0, 1) := by decide +kernel
theorem dX8_isRowOfClauses_22 : decode cX8_isRowOfClauses 22 = .ok (.lcmp, 1) := by decide +kernel
theorem dX8_isRowOfClauses_23 : decode cX8_isRowOfClauses 23 = .ok (.ifCond .lt 17, 3) := by decide +kernel
theorem dX8_isRowOfClauses_26 : decode cX8_isRowOfClauses 26 = .ok (.lload 4, 2) := by decide +kernel
theorem dX8_isRowOfClauses_28 : decode cX8_isRowOfClauses 28 = .ok (.aload_n 0, 1) := by decide +kernel
theorem dX8_isRowOfClauses_29 : decode cX8_isRowOfClauses 29 = .ok (.getfield 15, 3) := by decide +kernel
theorem dX8_isRowOfClauses_32 : decode cX8_isRowOfClauses 32 = .ok (.getfield 29, 3) := by decide +kernel
theorem dX8_isRowOfClauses_35 : decode cX8_isRowOfClauses 35 = .ok (.i2l, 1) := by decide +kernel
theorem dX8_isRowOfClauses_36 : decode cX8_isRowOfClauses 36 = .ok (.lcmp, 1) := by decide +kernel
theorem dX8_isRowOfClauses_37 : decode cX8_isRowOfClauses 37 = .ok (.ifCond .lt 5, 3) := by decide +kernel
theorem dX8_isRowOfClauses_40 : decode cX8_isRowOfClauses 40 = .ok (.iconst 0, 1) := by decide +kernel
theorem dX8_isRowOfClauses_41 : decode cX8_isRowOfClauses 41 = .ok (.ireturn, 1) := by decide +kernel
theorem dX8_isRowOfClauses_42 : decode cX8_isRowOfClauses 42 = .ok (.iinc 3 1, 3) := by decide +kernel
theorem dX8_isRowOfClauses_45 : decode cX8_isRowOfClauses 45 = .ok (.goto (-43), 3) := by decide +kernel
theorem dX8_isRowOfClauses_48 : decode cX8_isRowOfClauses 48 = .ok (.iconst 1, 1) := by decide +kernel
theorem dX8_isRowOfClauses_49 : decode cX8_isRowOfClauses 49 = .ok (.ireturn, 1) := by decide +kernel
theorem dX8_leastHold_0 : decode cX8_leastHold 0 = .ok (.aload_n 0, 1) := by decide +kernel
theorem dX8_leastHold_1 : decode cX8_leastHold 1 = .ok (.invokevirtual 43, 3) := by decide +kernel
theorem dX8_leastHold_4 : decode cX8_leastHold 4 = .ok (.istore_n 2, 1) := by decide +kernel
theorem dX8_leastHold_5 : decode cX8_leastHold 5 = .ok (.iconst 0, 1) := by decide +kernel
theorem dX8_leastHold_6 : decode cX8_leastHold 6 = .ok (.istore_n 3, 1) := by decide +kernel
theorem dX8_leastHold_7 : decode cX8_leastHold 7 = .ok (.iconst 0, 1) := by decide +kernel
theorem dX8_leastHold_8 : decode cX8_leastHold 8 = .ok (.istore 4, 2) := by decide +kernel
theorem dX8_leastHold_10 : decode cX8_leastHold 10 = .ok (.iload 4, 2) := by decide +kernel
theorem dX8_leastHold_12 : decode cX8_leastHold 12 = .ok (.aload_n 0, 1) := by decide +kernel
theorem dX8_leastHold_13 : decode cX8_leastHold 13 = .ok (.getfield 15, 3) := by decide +kernel
theorem dX8_leastHold_16 : decode cX8_leastHold 16 = .ok (.getfield 29, 3) := by decide +kernel
theorem dX8_leastHold_19 : decode cX8_leastHold 19 = .ok (.if_icmp .ge 21, 3) := by decide +kernel
theorem dX8_leastHold_22 : decode cX8_leastHold 22 = .ok (.iload_n 3, 1) := by decide +kernel
theorem dX8_leastHold_23 : decode cX8_leastHold 23 = .ok (.aload_n 0, 1) := by decide +kernel
theorem dX8_leastHold_24 : decode cX8_leastHold 24 = .ok (.getfield 15, 3) := by decide +kernel
theorem dX8_leastHold_27 : decode cX8_leastHold 27 = .ok (.iload 4, 2) := by decide +kernel
theorem dX8_leastHold_29 : decode cX8_leastHold 29 = .ok (.invokevirtual 64, 3) := by decide +kernel
theorem dX8_leastHold_32 : decode cX8_leastHold 32 = .ok (.iadd, 1) := by decide +kernel
theorem dX8_leastHold_33 : decode cX8_leastHold 33 = .ok (.istore_n 3, 1) := by decide +kernel
theorem dX8_leastHold_34 : decode cX8_leastHold 34 = .ok (.iinc 4 1, 3) := by decide +kernel
theorem dX8_leastHold_37 : decode cX8_leastHold 37 = .ok (.goto (-27), 3) := by decide +kernel
theorem dX8_leastHold_40 : decode cX8_leastHold 40 = .ok (.iconst 0, 1) := by decide +kernel
theorem dX8_leastHold_41 : decode cX8_leastHold 41 = .ok (.istore 4, 2) := by decide +kernel
theorem dX8_leastHold_43 : decode cX8_leastHold 43 = .ok (.iload 4, 2) := by decide +kernel
theorem dX8_leastHold_45 : decode cX8_leastHold 45 = .ok (.bipush 10, 2) := by decide +kernel
theorem dX8_leastHold_47 : decode cX8_leastHold 47 = .ok (.if_icmp .ge 42, 3) := by decide +kernel
theorem dX8_leastHold_50 : decode cX8_leastHold 50 = .ok (.iload_n 2, 1) := by decide +kernel
theorem dX8_leastHold_51 : decode cX8_leastHold 51 = .ok (.iload_n 3, 1) := by decide +kernel
theorem dX8_leastHold_52 : decode cX8_leastHold 52 = .ok (.if_icmp .ge 37, 3) := by decide +kernel
theorem dX8_leastHold_55 : decode cX8_leastHold 55 = .ok (.iload_n 2, 1) := by decide +kernel
theorem dX8_leastHold_56 : decode cX8_leastHold 56 = .ok (.iload_n 3, 1) := by decide +kernel
theorem dX8_leastHold_57 : decode cX8_leastHold 57 = .ok (.iadd, 1) := by decide +kernel
theorem dX8_leastHold_58 : decode cX8_leastHold 58 = .ok (.iconst 1, 1) := by decide +kernel
theorem dX8_leastHold_59 : decode cX8_leastHold 59 = .ok (.ishr, 1) := by decide +kernel
theorem dX8_leastHold_60 : decode cX8_leastHold 60 = .ok (.istore 5, 2) := by decide +kernel
theorem dX8_leastHold_62 : decode cX8_leastHold 62 = .ok (.aload_n 0, 1) := by decide +kernel
theorem dX8_leastHold_63 : decode cX8_leastHold 63 = .ok (.iload 5, 2) := by decide +kernel
theorem dX8_leastHold_65 : decode cX8_leastHold 65 = .ok (.invokevirtual 53, 3) := by decide +kernel
theorem dX8_leastHold_68 : decode cX8_leastHold 68 = .ok (.iload_n 1, 1) := by decide +kernel
theorem dX8_leastHold_69 : decode cX8_leastHold 69 = .ok (.if_icmp .gt 9, 3) := by decide +kernel
theorem dX8_leastHold_72 : decode cX8_leastHold 72 = .ok (.iload 5, 2) := by decide +kernel
theorem dX8_leastHold_74 : decode cX8_leastHold 74 = .ok (.istore_n 3, 1) := by decide +kernel
theorem dX8_leastHold_75 : decode cX8_leastHold 75 = .ok (.goto 8, 3) := by decide +kernel
theorem dX8_leastHold_78 : decode cX8_leastHold 78 = .ok (.iload 5, 2) := by decide +kernel
theorem dX8_leastHold_80 : decode cX8_leastHold 80 = .ok (.iconst 1, 1) := by decide +kernel
theorem dX8_leastHold_81 : decode cX8_leastHold 81 = .ok (.iadd, 1) := by decide +kernel
theorem dX8_leastHold_82 : decode cX8_leastHold 82 = .ok (.istore_n 2, 1) := by decide +kernel
theorem dX8_leastHold_83 : decode cX8_leastHold 83 = .ok (.iinc 4 1, 3) := by decide +kernel
theorem dX8_leastHold_86 : decode cX8_leastHold 86 = .ok (.goto (-43), 3) := by decide +kernel
theorem dX8_leastHold_89 : decode cX8_leastHold 89 = .ok (.iload_n 2, 1) := by decide +kernel
theorem dX8_leastHold_90 : decode cX8_leastHold 90 = .ok (.ireturn, 1) := by decide +kernel
theorem dX8_leastNext_0 : decode cX8_leastNext 0 = .ok (.iconst 0, 1) := by decide +kernel
theorem dX8_leastNext_1 : decode cX8_leastNext 1 = .ok (.istore 5, 2) := by decide +kernel
theorem dX8_leastNext_3 : decode cX8_leastNext 3 = .ok (.iload 5, 2) := by decide +kernel
theorem dX8_leastNext_5 : decode cX8_leastNext 5 = .ok (.aload_n 0, 1) := by decide +kernel
theorem dX8_leastNext_6 : decode cX8_leastNext 6 = .ok (.getfield 15, 3) := by decide +kernel
theorem dX8_leastNext_9 : decode cX8_leastNext 9 = .ok (.getfield 29, 3) := by decide +kernel
theorem dX8_leastNext_12 : decode cX8_leastNext 12 = .ok (.if_icmp .ge 52, 3) := by decide +kernel
theorem dX8_leastNext_15 : decode cX8_leastNext 15 = .ok (.iload_n 2, 1) := by decide +kernel
theorem dX8_leastNext_16 : decode cX8_leastNext 16 = .ok (.iload 5, 2) := by decide +kernel
theorem dX8_leastNext_18 : decode cX8_leastNext 18 = .ok (.ishr, 1) := by decide +kernel

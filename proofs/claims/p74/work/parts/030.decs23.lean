theorem dX8_leastNext_19 : decode cX8_leastNext 19 = .ok (.iconst 1, 1) := by decide +kernel
theorem dX8_leastNext_20 : decode cX8_leastNext 20 = .ok (.iand, 1) := by decide +kernel
theorem dX8_leastNext_21 : decode cX8_leastNext 21 = .ok (.iconst 1, 1) := by decide +kernel
theorem dX8_leastNext_22 : decode cX8_leastNext 22 = .ok (.if_icmp .ne 36, 3) := by decide +kernel
theorem dX8_leastNext_25 : decode cX8_leastNext 25 = .ok (.aload_n 0, 1) := by decide +kernel
theorem dX8_leastNext_26 : decode cX8_leastNext 26 = .ok (.iload_n 1, 1) := by decide +kernel
theorem dX8_leastNext_27 : decode cX8_leastNext 27 = .ok (.aload_n 0, 1) := by decide +kernel
theorem dX8_leastNext_28 : decode cX8_leastNext 28 = .ok (.iload 5, 2) := by decide +kernel
theorem dX8_leastNext_30 : decode cX8_leastNext 30 = .ok (.i2l, 1) := by decide +kernel
theorem dX8_leastNext_31 : decode cX8_leastNext 31 = .ok (.invokevirtual 35, 3) := by decide +kernel
theorem dX8_leastNext_34 : decode cX8_leastNext 34 = .ok (.iload_n 3, 1) := by decide +kernel
theorem dX8_leastNext_35 : decode cX8_leastNext 35 = .ok (.invokestatic 39, 3) := by decide +kernel
theorem dX8_leastNext_38 : decode cX8_leastNext 38 = .ok (.iload_n 2, 1) := by decide +kernel
theorem dX8_leastNext_39 : decode cX8_leastNext 39 = .ok (.iconst 1, 1) := by decide +kernel
theorem dX8_leastNext_40 : decode cX8_leastNext 40 = .ok (.iload 5, 2) := by decide +kernel
theorem dX8_leastNext_42 : decode cX8_leastNext 42 = .ok (.ishl, 1) := by decide +kernel
theorem dX8_leastNext_43 : decode cX8_leastNext 43 = .ok (.iconst (-1), 1) := by decide +kernel
theorem dX8_leastNext_44 : decode cX8_leastNext 44 = .ok (.ixor, 1) := by decide +kernel
theorem dX8_leastNext_45 : decode cX8_leastNext 45 = .ok (.iand, 1) := by decide +kernel
theorem dX8_leastNext_46 : decode cX8_leastNext 46 = .ok (.iload_n 3, 1) := by decide +kernel
theorem dX8_leastNext_47 : decode cX8_leastNext 47 = .ok (.invokevirtual 50, 3) := by decide +kernel
theorem dX8_leastNext_50 : decode cX8_leastNext 50 = .ok (.iload 4, 2) := by decide +kernel
theorem dX8_leastNext_52 : decode cX8_leastNext 52 = .ok (.if_icmp .gt 6, 3) := by decide +kernel
theorem dX8_leastNext_55 : decode cX8_leastNext 55 = .ok (.iload 5, 2) := by decide +kernel
theorem dX8_leastNext_57 : decode cX8_leastNext 57 = .ok (.ireturn, 1) := by decide +kernel
theorem dX8_leastNext_58 : decode cX8_leastNext 58 = .ok (.iinc 5 1, 3) := by decide +kernel
theorem dX8_leastNext_61 : decode cX8_leastNext 61 = .ok (.goto (-58), 3) := by decide +kernel
theorem dX8_leastNext_64 : decode cX8_leastNext 64 = .ok (.iconst (-1), 1) := by decide +kernel
theorem dX8_leastNext_65 : decode cX8_leastNext 65 = .ok (.ireturn, 1) := by decide +kernel
theorem dX8_leastReached_0 : decode cX8_leastReached 0 = .ok (.sipush 8000, 3) := by decide +kernel
theorem dX8_leastReached_3 : decode cX8_leastReached 3 = .ok (.istore_n 3, 1) := by decide +kernel
theorem dX8_leastReached_4 : decode cX8_leastReached 4 = .ok (.iconst 0, 1) := by decide +kernel
theorem dX8_leastReached_5 : decode cX8_leastReached 5 = .ok (.istore 4, 2) := by decide +kernel
theorem dX8_leastReached_7 : decode cX8_leastReached 7 = .ok (.iload 4, 2) := by decide +kernel
theorem dX8_leastReached_9 : decode cX8_leastReached 9 = .ok (.aload_n 0, 1) := by decide +kernel
theorem dX8_leastReached_10 : decode cX8_leastReached 10 = .ok (.getfield 15, 3) := by decide +kernel
theorem dX8_leastReached_13 : decode cX8_leastReached 13 = .ok (.getfield 29, 3) := by decide +kernel
theorem dX8_leastReached_16 : decode cX8_leastReached 16 = .ok (.if_icmp .ge 50, 3) := by decide +kernel
theorem dX8_leastReached_19 : decode cX8_leastReached 19 = .ok (.iload_n 1, 1) := by decide +kernel
theorem dX8_leastReached_20 : decode cX8_leastReached 20 = .ok (.iload 4, 2) := by decide +kernel
theorem dX8_leastReached_22 : decode cX8_leastReached 22 = .ok (.ishr, 1) := by decide +kernel
theorem dX8_leastReached_23 : decode cX8_leastReached 23 = .ok (.iconst 1, 1) := by decide +kernel
theorem dX8_leastReached_24 : decode cX8_leastReached 24 = .ok (.iand, 1) := by decide +kernel
theorem dX8_leastReached_25 : decode cX8_leastReached 25 = .ok (.iconst 1, 1) := by decide +kernel
theorem dX8_leastReached_26 : decode cX8_leastReached 26 = .ok (.if_icmp .ne 34, 3) := by decide +kernel
theorem dX8_leastReached_29 : decode cX8_leastReached 29 = .ok (.iload_n 3, 1) := by decide +kernel
theorem dX8_leastReached_30 : decode cX8_leastReached 30 = .ok (.aload_n 0, 1) := by decide +kernel
theorem dX8_leastReached_31 : decode cX8_leastReached 31 = .ok (.getfield 11, 3) := by decide +kernel
theorem dX8_leastReached_34 : decode cX8_leastReached 34 = .ok (.iload_n 1, 1) := by decide +kernel
theorem dX8_leastReached_35 : decode cX8_leastReached 35 = .ok (.iconst 1, 1) := by decide +kernel
theorem dX8_leastReached_36 : decode cX8_leastReached 36 = .ok (.iload 4, 2) := by decide +kernel
theorem dX8_leastReached_38 : decode cX8_leastReached 38 = .ok (.ishl, 1) := by decide +kernel
theorem dX8_leastReached_39 : decode cX8_leastReached 39 = .ok (.iconst (-1), 1) := by decide +kernel
theorem dX8_leastReached_40 : decode cX8_leastReached 40 = .ok (.ixor, 1) := by decide +kernel
theorem dX8_leastReached_41 : decode cX8_leastReached 41 = .ok (.iand, 1) := by decide +kernel
theorem dX8_leastReached_42 : decode cX8_leastReached 42 = .ok (.iaload, 1) := by decide +kernel
theorem dX8_leastReached_43 : decode cX8_leastReached 43 = .ok (.aload_n 0, 1) := by decide +kernel
theorem dX8_leastReached_44 : decode cX8_leastReached 44 = .ok (.getfield 15, 3) := by decide +kernel
theorem dX8_leastReached_47 : decode cX8_leastReached 47 = .ok (.iload 4, 2) := by decide +kernel
theorem dX8_leastReached_49 : decode cX8_leastReached 49 = .ok (.invokevirtual 64, 3) := by decide +kernel
theorem dX8_leastReached_52 : decode cX8_leastReached 52 = .ok (.iload_n 2, 1) := by decide +kernel
theorem dX8_leastReached_53 : decode cX8_leastReached 53 = .ok (.invokestatic 39, 3) := by decide +kernel
theorem dX8_leastReached_56 : decode cX8_leastReached 56 = .ok (.invokestatic 70, 3) := by decide +kernel
theorem dX8_leastReached_59 : decode cX8_leastReached 59 = .ok (.istore_n 3, 1) := by decide +kernel
theorem dX8_leastReached_60 : decode cX8_leastReached 60 = .ok (.iinc 4 1, 3) := by decide +kernel
theorem dX8_leastReached_63 : decode cX8_leastReached 63 = .ok (.goto (-56), 3) := by decide +kernel
theorem dX8_leastReached_66 : decode cX8_leastReached 66 = .ok (.iload_n 3, 1) := by decide +kernel
theorem dX8_leastReached_67 : decode cX8_leastReached 67 = .ok (.ireturn, 1) := by decide +kernel
theorem dX8_lengthOf_0 : decode cX8_lengthOf 0 = .ok (.lload_n 1, 1) := by decide +kernel
theorem dX8_lengthOf_1 : decode cX8_lengthOf 1 = .ok (.lconst 0, 1) := by decide +kernel
theorem dX8_lengthOf_2 : decode cX8_lengthOf 2 = .ok (.lcmp, 1) := by decide +kernel
theorem dX8_lengthOf_3 : decode cX8_lengthOf 3 = .ok (.ifCond .lt 23, 3) := by decide +kernel
theorem dX8_lengthOf_6 : decode cX8_lengthOf 6 = .ok (.lload_n 1, 1) := by decide +kernel
theorem dX8_lengthOf_7 : decode cX8_lengthOf 7 = .ok (.ldc2_w 75, 3) := by decide +kernel
theorem dX8_lengthOf_10 : decode cX8_lengthOf 10 = .ok (.lcmp, 1) := by decide +kernel
theorem dX8_lengthOf_11 : decode cX8_lengthOf 11 = .ok (.ifCond .ge 15, 3) := by decide +kernel
theorem dX8_lengthOf_14 : decode cX8_lengthOf 14 = .ok (.aload_n 0, 1) := by decide +kernel
theorem dX8_lengthOf_15 : decode cX8_lengthOf 15 = .ok (.getfield 15, 3) := by decide +kernel
theorem dX8_lengthOf_18 : decode cX8_lengthOf 18 = .ok (.lload_n 1, 1) := by decide +kernel
theorem dX8_lengthOf_19 : decode cX8_lengthOf 19 = .ok (.l2i, 1) := by decide +kernel
theorem dX8_lengthOf_20 : decode cX8_lengthOf 20 = .ok (.invokevirtual 64, 3) := by decide +kernel
theorem dX8_lengthOf_23 : decode cX8_lengthOf 23 = .ok (.goto 4, 3) := by decide +kernel
theorem dX8_lengthOf_26 : decode cX8_lengthOf 26 = .ok (.iconst 0, 1) := by decide +kernel
theorem dX8_lengthOf_27 : decode cX8_lengthOf 27 = .ok (.ireturn, 1) := by decide +kernel
theorem dX8_longestClause_0 : decode cX8_longestClause 0 = .ok (.iconst 0, 1) := by decide +kernel
theorem dX8_longestClause_1 : decode cX8_longestClause 1 = .ok (.istore_n 1, 1) := by decide +kernel
theorem dX8_longestClause_2 : decode cX8_longestClause 2 = .ok (.iconst 0, 1) := by decide +kernel
theorem dX8_longestClause_3 : decode cX8_longestClause 3 = .ok (.istore_n 2, 1) := by decide +kernel
theorem dX8_longestClause_4 : decode cX8_longestClause 4 = .ok (.iload_n 2, 1) := by decide +kernel
theorem dX8_longestClause_5 : decode cX8_longestClause 5 = .ok (.aload_n 0, 1) := by decide +kernel
theorem dX8_longestClause_6 : decode cX8_longestClause 6 = .ok (.getfield 15, 3) := by decide +kernel
theorem dX8_longestClause_9 : decode cX8_longestClause 9 = .ok (.getfield 29, 3) := by decide +kernel
theorem dX8_longestClause_12 : decode cX8_longestClause 12 = .ok (.if_icmp .ge 22, 3) := by decide +kernel
theorem dX8_longestClause_15 : decode cX8_longestClause 15 = .ok (.iload_n 1, 1) := by decide +kernel
theorem dX8_longestClause_16 : decode cX8_longestClause 16 = .ok (.aload_n 0, 1) := by decide +kernel
theorem dX8_longestClause_17 : decode cX8_longestClause 17 = .ok (.getfield 15, 3) := by decide +kernel
theorem dX8_longestClause_20 : decode cX8_longestClause 20 = .ok (.iload_n 2, 1) := by decide +kernel
theorem dX8_longestClause_21 : decode cX8_longestClause 21 = .ok (.invokevirtual 64, 3) := by decide +kernel
theorem dX8_longestClause_24 : decode cX8_longestClause 24 = .ok (.invokestatic 77, 3) := by decide +kernel
theorem dX8_longestClause_27 : decode cX8_longestClause 27 = .ok (.istore_n 1, 1) := by decide +kernel
theorem dX8_longestClause_28 : decode cX8_longestClause 28 = .ok (.iinc 2 1, 3) := by decide +kernel
theorem dX8_longestClause_31 : decode cX8_longestClause 31 = .ok (.goto (-27), 3) := by decide +kernel
theorem dX8_longestClause_34 : decode cX8_longestClause 34 = .ok (.iload_n 1, 1) := by decide +kernel
theorem dX8_longestClause_35 : decode cX8_longestClause 35 = .ok (.ireturn, 1) := by decide +kernel
theorem dX8_meetingsFor_0 : decode cX8_meetingsFor 0 = .ok (.iload_n 3, 1) := by decide +kernel
theorem dX8_meetingsFor_1 : decode cX8_meetingsFor 1 = .ok (.istore 4, 2) := by decide +kernel
theorem dX8_meetingsFor_3 : decode cX8_meetingsFor 3 = .ok (.iconst 0, 1) := by decide +kernel
theorem dX8_meetingsFor_4 : decode cX8_meetingsFor 4 = .ok (.istore 5, 2) := by decide +kernel
theorem dX8_meetingsFor_6 : decode cX8_meetingsFor 6 = .ok (.iload 5, 2) := by decide +kernel
theorem dX8_meetingsFor_8 : decode cX8_meetingsFor 8 = .ok (.aload_n 1, 1) := by decide +kernel
theorem dX8_meetingsFor_9 : decode cX8_meetingsFor 9 = .ok (.iload_n 2, 1) := by decide +kernel
theorem dX8_meetingsFor_10 : decode cX8_meetingsFor 10 = .ok (.invokevirtual 19, 3) := by decide +kernel
theorem dX8_meetingsFor_13 : decode cX8_meetingsFor 13 = .ok (.if_icmp .ge 40, 3) := by decide +kernel
theorem dX8_meetingsFor_16 : decode cX8_meetingsFor 16 = .ok (.aload_n 0, 1) := by decide +kernel
theorem dX8_meetingsFor_17 : decode cX8_meetingsFor 17 = .ok (.aload_n 1, 1) := by decide +kernel
theorem dX8_meetingsFor_18 : decode cX8_meetingsFor 18 = .ok (.iload_n 2, 1) := by decide +kernel
theorem dX8_meetingsFor_19 : decode cX8_meetingsFor 19 = .ok (.iload 5, 2) := by decide +kernel
theorem dX8_meetingsFor_21 : decode cX8_meetingsFor 21 = .ok (.invokevirtual 25, 3) := by decide +kernel
theorem dX8_meetingsFor_24 : decode cX8_meetingsFor 24 = .ok (.invokevirtual 35, 3) := by decide +kernel
theorem dX8_meetingsFor_27 : decode cX8_meetingsFor 27 = .ok (.istore 6, 2) := by decide +kernel
theorem dX8_meetingsFor_29 : decode cX8_meetingsFor 29 = .ok (.iload 6, 2) := by decide +kernel
theorem dX8_meetingsFor_31 : decode cX8_meetingsFor 31 = .ok (.iload_n 3, 1) := by decide +kernel
theorem dX8_meetingsFor_32 : decode cX8_meetingsFor 32 = .ok (.if_icmp .le 5, 3) := by decide +kernel
theorem dX8_meetingsFor_35 : decode cX8_meetingsFor 35 = .ok (.iconst (-1), 1) := by decide +kernel
theorem dX8_meetingsFor_36 : decode cX8_meetingsFor 36 = .ok (.ireturn, 1) := by decide +kernel
theorem dX8_meetingsFor_37 : decode cX8_meetingsFor 37 = .ok (.iload 4, 2) := by decide +kernel
theorem dX8_meetingsFor_39 : decode cX8_meetingsFor 39 = .ok (.iload 6, 2) := by decide +kernel
theorem dX8_meetingsFor_41 : decode cX8_meetingsFor 41 = .ok (.iload_n 3, 1) := by decide +kernel
theorem dX8_meetingsFor_42 : decode cX8_meetingsFor 42 = .ok (.invokestatic 39, 3) := by decide +kernel
theorem dX8_meetingsFor_45 : decode cX8_meetingsFor 45 = .ok (.istore 4, 2) := by decide +kernel
theorem dX8_meetingsFor_47 : decode cX8_meetingsFor 47 = .ok (.iinc 5 1, 3) := by decide +kernel
theorem dX8_meetingsFor_50 : decode cX8_meetingsFor 50 = .ok (.goto (-44), 3) := by decide +kernel
theorem dX8_meetingsFor_53 : decode cX8_meetingsFor 53 = .ok (.iload 4, 2) := by decide +kernel
theorem dX8_meetingsFor_55 : decode cX8_meetingsFor 55 = .ok (.sipush 1000, 3) := by decide +kernel
theorem dX8_meetingsFor_58 : decode cX8_meetingsFor 58 = .ok (.idiv, 1) := by decide +kernel
theorem dX8_meetingsFor_59 : decode cX8_meetingsFor 59 = .ok (.ireturn, 1) := by decide +kernel
theorem dX8_said_0 : decode cX8_said 0 = .ok (.iload_n 0, 1) := by decide +kernel
theorem dX8_said_1 : decode cX8_said 1 = .ok (.sipush 1000, 3) := by decide +kernel
theorem dX8_said_4 : decode cX8_said 4 = .ok (.irem, 1) := by decide +kernel
theorem dX8_said_5 : decode cX8_said 5 = .ok (.iload_n 1, 1) := by decide +kernel
theorem dX8_said_6 : decode cX8_said 6 = .ok (.iadd, 1) := by decide +kernel
theorem dX8_said_7 : decode cX8_said 7 = .ok (.iload_n 2, 1) := by decide +kernel
theorem dX8_said_8 : decode cX8_said 8 = .ok (.if_icmp .gt 7, 3) := by decide +kernel
theorem dX8_said_11 : decode cX8_said 11 = .ok (.iload_n 0, 1) := by decide +kernel
theorem dX8_said_12 : decode cX8_said 12 = .ok (.iload_n 1, 1) := by decide +kernel
theorem dX8_said_13 : decode cX8_said 13 = .ok (.iadd, 1) := by decide +kernel
theorem dX8_said_14 : decode cX8_said 14 = .ok (.ireturn, 1) := by decide +kernel
theorem dX8_said_15 : decode cX8_said 15 = .ok (.iload_n 0, 1) := by decide +kernel
theorem dX8_said_16 : decode cX8_said 16 = .ok (.sipush 1000, 3) := by decide +kernel
theorem dX8_said_19 : decode cX8_said 19 = .ok (.idiv, 1) := by decide +kernel
theorem dX8_said_20 : decode cX8_said 20 = .ok (.iconst 1, 1) := by decide +kernel
theorem dX8_said_21 : decode cX8_said 21 = .ok (.iadd, 1) := by decide +kernel
theorem dX8_said_22 : decode cX8_said 22 = .ok (.sipush 1000, 3) := by decide +kernel
theorem dX8_said_25 : decode cX8_said 25 = .ok (.imul, 1) := by decide +kernel
theorem dX8_said_26 : decode cX8_said 26 = .ok (.iload_n 1, 1) := by decide +kernel
theorem dX8_said_27 : decode cX8_said 27 = .ok (.iadd, 1) := by decide +kernel
theorem dX8_said_28 : decode cX8_said 28 = .ok (.ireturn, 1) := by decide +kernel
theorem dX9_append_0 : decode cX9_append 0 = .ok (.bipush 24, 2) := by decide +kernel
theorem dX9_append_2 : decode cX9_append 2 = .ok (.istore_n 2, 1) := by decide +kernel
theorem dX9_append_3 : decode cX9_append 3 = .ok (.iload_n 2, 1) := by decide +kernel
theorem dX9_append_4 : decode cX9_append 4 = .ok (.ifCond .lt 42, 3) := by decide +kernel
theorem dX9_append_7 : decode cX9_append 7 = .ok (.aload_n 0, 1) := by decide +kernel
theorem dX9_append_8 : decode cX9_append 8 = .ok (.getfield 15, 3) := by decide +kernel
theorem dX9_append_11 : decode cX9_append 11 = .ok (.sipush 800, 3) := by decide +kernel
theorem dX9_append_14 : decode cX9_append 14 = .ok (.if_icmp .ge 26, 3) := by decide +kernel
theorem dX9_append_17 : decode cX9_append 17 = .ok (.aload_n 0, 1) := by decide +kernel
theorem dX9_append_18 : decode cX9_append 18 = .ok (.getfield 9, 3) := by decide +kernel
theorem dX9_append_21 : decode cX9_append 21 = .ok (.aload_n 0, 1) := by decide +kernel
theorem dX9_append_22 : decode cX9_append 22 = .ok (.getfield 15, 3) := by decide +kernel
theorem dX9_append_25 : decode cX9_append 25 = .ok (.iload_n 1, 1) := by decide +kernel
theorem dX9_append_26 : decode cX9_append 26 = .ok (.iload_n 2, 1) := by decide +kernel
theorem dX9_append_27 : decode cX9_append 27 = .ok (.ishr, 1) := by decide +kernel
theorem dX9_append_28 : decode cX9_append 28 = .ok (.i2b, 1) := by decide +kernel
theorem dX9_append_29 : decode cX9_append 29 = .ok (.bastore, 1) := by decide +kernel
theorem dX9_append_30 : decode cX9_append 30 = .ok (.aload_n 0, 1) := by decide +kernel
theorem dX9_append_31 : decode cX9_append 31 = .ok (.dup, 1) := by decide +kernel
theorem dX9_append_32 : decode cX9_append 32 = .ok (.getfield 15, 3) := by decide +kernel
theorem dX9_append_35 : decode cX9_append 35 = .ok (.iconst 1, 1) := by decide +kernel
theorem dX9_append_36 : decode cX9_append 36 = .ok (.iadd, 1) := by decide +kernel
theorem dX9_append_37 : decode cX9_append 37 = .ok (.putfield 15, 3) := by decide +kernel
theorem dX9_append_40 : decode cX9_append 40 = .ok (.iinc 2 (-8), 3) := by decide +kernel
theorem dX9_append_43 : decode cX9_append 43 = .ok (.goto (-40), 3) := by decide +kernel
theorem dX9_append_46 : decode cX9_append 46 = .ok (.return_, 1) := by decide +kernel
theorem dX9_byteAt_0 : decode cX9_byteAt 0 = .ok (.iload_n 1, 1) := by decide +kernel
theorem dX9_byteAt_1 : decode cX9_byteAt 1 = .ok (.ifCond .lt 31, 3) := by decide +kernel
theorem dX9_byteAt_4 : decode cX9_byteAt 4 = .ok (.iload_n 1, 1) := by decide +kernel
theorem dX9_byteAt_5 : decode cX9_byteAt 5 = .ok (.aload_n 0, 1) := by decide +kernel
theorem dX9_byteAt_6 : decode cX9_byteAt 6 = .ok (.getfield 15, 3) := by decide +kernel
theorem dX9_byteAt_9 : decode cX9_byteAt 9 = .ok (.if_icmp .ge 23, 3) := by decide +kernel
theorem dX9_byteAt_12 : decode cX9_byteAt 12 = .ok (.iload_n 1, 1) := by decide +kernel
theorem dX9_byteAt_13 : decode cX9_byteAt 13 = .ok (.sipush 800, 3) := by decide +kernel
theorem dX9_byteAt_16 : decode cX9_byteAt 16 = .ok (.if_icmp .ge 16, 3) := by decide +kernel
theorem dX9_byteAt_19 : decode cX9_byteAt 19 = .ok (.aload_n 0, 1) := by decide +kernel
theorem dX9_byteAt_20 : decode cX9_byteAt 20 = .ok (.getfield 9, 3) := by decide +kernel
theorem dX9_byteAt_23 : decode cX9_byteAt 23 = .ok (.iload_n 1, 1) := by decide +kernel
theorem dX9_byteAt_24 : decode cX9_byteAt 24 = .ok (.baload, 1) := by decide +kernel
theorem dX9_byteAt_25 : decode cX9_byteAt 25 = .ok (.sipush 255, 3) := by decide +kernel
theorem dX9_byteAt_28 : decode cX9_byteAt 28 = .ok (.iand, 1) := by decide +kernel
theorem dX9_byteAt_29 : decode cX9_byteAt 29 = .ok (.goto 4, 3) := by decide +kernel
theorem dX9_byteAt_32 : decode cX9_byteAt 32 = .ok (.iconst (-1), 1) := by decide +kernel
theorem dX9_byteAt_33 : decode cX9_byteAt 33 = .ok (.ireturn, 1) := by decide +kernel
theorem dX9_hasRoom_0 : decode cX9_hasRoom 0 = .ok (.aload_n 0, 1) := by decide +kernel
theorem dX9_hasRoom_1 : decode cX9_hasRoom 1 = .ok (.getfield 15, 3) := by decide +kernel
theorem dX9_hasRoom_4 : decode cX9_hasRoom 4 = .ok (.iload_n 1, 1) := by decide +kernel
theorem dX9_hasRoom_5 : decode cX9_hasRoom 5 = .ok (.iadd, 1) := by decide +kernel
theorem dX9_hasRoom_6 : decode cX9_hasRoom 6 = .ok (.sipush 800, 3) := by decide +kernel
theorem dX9_hasRoom_9 : decode cX9_hasRoom 9 = .ok (.if_icmp .gt 7, 3) := by decide +kernel
theorem dX9_hasRoom_12 : decode cX9_hasRoom 12 = .ok (.iconst 1, 1) := by decide +kernel
theorem dX9_hasRoom_13 : decode cX9_hasRoom 13 = .ok (.goto 4, 3) := by decide +kernel
theorem dX9_hasRoom_16 : decode cX9_hasRoom 16 = .ok (.iconst 0, 1) := by decide +kernel
theorem dX9_hasRoom_17 : decode cX9_hasRoom 17 = .ok (.ireturn, 1) := by decide +kernel
theorem dX9_init_0 : decode cX9_init 0 = .ok (.aload_n 0, 1) := by decide +kernel
theorem dX9_init_1 : decode cX9_init 1 = .ok (.invokespecial 3, 3) := by decide +kernel
theorem dX9_init_4 : decode cX9_init 4 = .ok (.aload_n 0, 1) := by decide +kernel
theorem dX9_init_5 : decode cX9_init 5 = .ok (.sipush 800, 3) := by decide +kernel
theorem dX9_init_8 : decode cX9_init 8 = .ok (.newarray .byte, 2) := by decide +kernel
theorem dX9_init_10 : decode cX9_init 10 = .ok (.putfield 9, 3) := by decide +kernel
theorem dX9_init_13 : decode cX9_init 13 = .ok (.return_, 1) := by decide +kernel

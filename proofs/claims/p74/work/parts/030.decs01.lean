theorem dX0_isSigned_30 : decode cX0_isSigned 30 = .ok (.goto 4, 3) := by decide +kernel
theorem dX0_isSigned_33 : decode cX0_isSigned 33 = .ok (.iconst 0, 1) := by decide +kernel
theorem dX0_isSigned_34 : decode cX0_isSigned 34 = .ok (.ireturn, 1) := by decide +kernel
theorem dX0_largestSaid_0 : decode cX0_largestSaid 0 = .ok (.aload_n 0, 1) := by decide +kernel
theorem dX0_largestSaid_1 : decode cX0_largestSaid 1 = .ok (.invokevirtual 29, 3) := by decide +kernel
theorem dX0_largestSaid_4 : decode cX0_largestSaid 4 = .ok (.iconst 0, 1) := by decide +kernel
theorem dX0_largestSaid_5 : decode cX0_largestSaid 5 = .ok (.istore_n 2, 1) := by decide +kernel
theorem dX0_largestSaid_6 : decode cX0_largestSaid 6 = .ok (.iconst 0, 1) := by decide +kernel
theorem dX0_largestSaid_7 : decode cX0_largestSaid 7 = .ok (.istore_n 3, 1) := by decide +kernel
theorem dX0_largestSaid_8 : decode cX0_largestSaid 8 = .ok (.iload_n 3, 1) := by decide +kernel
theorem dX0_largestSaid_9 : decode cX0_largestSaid 9 = .ok (.aload_n 0, 1) := by decide +kernel
theorem dX0_largestSaid_10 : decode cX0_largestSaid 10 = .ok (.getfield 32, 3) := by decide +kernel
theorem dX0_largestSaid_13 : decode cX0_largestSaid 13 = .ok (.if_icmp .ge 32, 3) := by decide +kernel
theorem dX0_largestSaid_16 : decode cX0_largestSaid 16 = .ok (.aload_n 0, 1) := by decide +kernel
theorem dX0_largestSaid_17 : decode cX0_largestSaid 17 = .ok (.getfield 15, 3) := by decide +kernel
theorem dX0_largestSaid_20 : decode cX0_largestSaid 20 = .ok (.iload_n 3, 1) := by decide +kernel
theorem dX0_largestSaid_21 : decode cX0_largestSaid 21 = .ok (.iaload, 1) := by decide +kernel
theorem dX0_largestSaid_22 : decode cX0_largestSaid 22 = .ok (.iload_n 1, 1) := by decide +kernel
theorem dX0_largestSaid_23 : decode cX0_largestSaid 23 = .ok (.if_icmp .gt 16, 3) := by decide +kernel
theorem dX0_largestSaid_26 : decode cX0_largestSaid 26 = .ok (.iload_n 3, 1) := by decide +kernel
theorem dX0_largestSaid_27 : decode cX0_largestSaid 27 = .ok (.invokestatic 35, 3) := by decide +kernel
theorem dX0_largestSaid_30 : decode cX0_largestSaid 30 = .ok (.iload_n 2, 1) := by decide +kernel
theorem dX0_largestSaid_31 : decode cX0_largestSaid 31 = .ok (.invokestatic 35, 3) := by decide +kernel
theorem dX0_largestSaid_34 : decode cX0_largestSaid 34 = .ok (.if_icmp .le 5, 3) := by decide +kernel
theorem dX0_largestSaid_37 : decode cX0_largestSaid 37 = .ok (.iload_n 3, 1) := by decide +kernel
theorem dX0_largestSaid_38 : decode cX0_largestSaid 38 = .ok (.istore_n 2, 1) := by decide +kernel
theorem dX0_largestSaid_39 : decode cX0_largestSaid 39 = .ok (.iinc 3 1, 3) := by decide +kernel
theorem dX0_largestSaid_42 : decode cX0_largestSaid 42 = .ok (.goto (-34), 3) := by decide +kernel
theorem dX0_largestSaid_45 : decode cX0_largestSaid 45 = .ok (.iload_n 2, 1) := by decide +kernel
theorem dX0_largestSaid_46 : decode cX0_largestSaid 46 = .ok (.ireturn, 1) := by decide +kernel
theorem dX0_leftOut_0 : decode cX0_leftOut 0 = .ok (.aload_n 0, 1) := by decide +kernel
theorem dX0_leftOut_1 : decode cX0_leftOut 1 = .ok (.getfield 25, 3) := by decide +kernel
theorem dX0_leftOut_4 : decode cX0_leftOut 4 = .ok (.invokevirtual 62, 3) := by decide +kernel
theorem dX0_leftOut_7 : decode cX0_leftOut 7 = .ok (.istore_n 2, 1) := by decide +kernel
theorem dX0_leftOut_8 : decode cX0_leftOut 8 = .ok (.iload_n 2, 1) := by decide +kernel
theorem dX0_leftOut_9 : decode cX0_leftOut 9 = .ok (.istore_n 3, 1) := by decide +kernel
theorem dX0_leftOut_10 : decode cX0_leftOut 10 = .ok (.iconst 0, 1) := by decide +kernel
theorem dX0_leftOut_11 : decode cX0_leftOut 11 = .ok (.istore 4, 2) := by decide +kernel
theorem dX0_leftOut_13 : decode cX0_leftOut 13 = .ok (.iload 4, 2) := by decide +kernel
theorem dX0_leftOut_15 : decode cX0_leftOut 15 = .ok (.iload_n 2, 1) := by decide +kernel
theorem dX0_leftOut_16 : decode cX0_leftOut 16 = .ok (.if_icmp .ge 41, 3) := by decide +kernel
theorem dX0_leftOut_19 : decode cX0_leftOut 19 = .ok (.iload 4, 2) := by decide +kernel
theorem dX0_leftOut_21 : decode cX0_leftOut 21 = .ok (.invokestatic 35, 3) := by decide +kernel
theorem dX0_leftOut_24 : decode cX0_leftOut 24 = .ok (.iload_n 3, 1) := by decide +kernel
theorem dX0_leftOut_25 : decode cX0_leftOut 25 = .ok (.invokestatic 35, 3) := by decide +kernel
theorem dX0_leftOut_28 : decode cX0_leftOut 28 = .ok (.if_icmp .ge 23, 3) := by decide +kernel
theorem dX0_leftOut_31 : decode cX0_leftOut 31 = .ok (.aload_n 0, 1) := by decide +kernel
theorem dX0_leftOut_32 : decode cX0_leftOut 32 = .ok (.getfield 25, 3) := by decide +kernel
theorem dX0_leftOut_35 : decode cX0_leftOut 35 = .ok (.iload_n 2, 1) := by decide +kernel
theorem dX0_leftOut_36 : decode cX0_leftOut 36 = .ok (.iload 4, 2) := by decide +kernel
theorem dX0_leftOut_38 : decode cX0_leftOut 38 = .ok (.iconst (-1), 1) := by decide +kernel
theorem dX0_leftOut_39 : decode cX0_leftOut 39 = .ok (.ixor, 1) := by decide +kernel
theorem dX0_leftOut_40 : decode cX0_leftOut 40 = .ok (.iand, 1) := by decide +kernel
theorem dX0_leftOut_41 : decode cX0_leftOut 41 = .ok (.iload_n 1, 1) := by decide +kernel
theorem dX0_leftOut_42 : decode cX0_leftOut 42 = .ok (.invokevirtual 44, 3) := by decide +kernel
theorem dX0_leftOut_45 : decode cX0_leftOut 45 = .ok (.ifCond .lt 6, 3) := by decide +kernel
theorem dX0_leftOut_48 : decode cX0_leftOut 48 = .ok (.iload 4, 2) := by decide +kernel
theorem dX0_leftOut_50 : decode cX0_leftOut 50 = .ok (.istore_n 3, 1) := by decide +kernel
theorem dX0_leftOut_51 : decode cX0_leftOut 51 = .ok (.iinc 4 1, 3) := by decide +kernel
theorem dX0_leftOut_54 : decode cX0_leftOut 54 = .ok (.goto (-41), 3) := by decide +kernel
theorem dX0_leftOut_57 : decode cX0_leftOut 57 = .ok (.iload_n 3, 1) := by decide +kernel
theorem dX0_leftOut_58 : decode cX0_leftOut 58 = .ok (.ireturn, 1) := by decide +kernel
theorem dX0_richestSaid_0 : decode cX0_richestSaid 0 = .ok (.aload_n 0, 1) := by decide +kernel
theorem dX0_richestSaid_1 : decode cX0_richestSaid 1 = .ok (.invokevirtual 29, 3) := by decide +kernel
theorem dX0_richestSaid_4 : decode cX0_richestSaid 4 = .ok (.iconst 0, 1) := by decide +kernel
theorem dX0_richestSaid_5 : decode cX0_richestSaid 5 = .ok (.istore_n 2, 1) := by decide +kernel
theorem dX0_richestSaid_6 : decode cX0_richestSaid 6 = .ok (.iconst 0, 1) := by decide +kernel
theorem dX0_richestSaid_7 : decode cX0_richestSaid 7 = .ok (.istore_n 3, 1) := by decide +kernel
theorem dX0_richestSaid_8 : decode cX0_richestSaid 8 = .ok (.iload_n 3, 1) := by decide +kernel
theorem dX0_richestSaid_9 : decode cX0_richestSaid 9 = .ok (.aload_n 0, 1) := by decide +kernel
theorem dX0_richestSaid_10 : decode cX0_richestSaid 10 = .ok (.getfield 32, 3) := by decide +kernel
theorem dX0_richestSaid_13 : decode cX0_richestSaid 13 = .ok (.if_icmp .ge 34, 3) := by decide +kernel
theorem dX0_richestSaid_16 : decode cX0_richestSaid 16 = .ok (.aload_n 0, 1) := by decide +kernel
theorem dX0_richestSaid_17 : decode cX0_richestSaid 17 = .ok (.getfield 15, 3) := by decide +kernel
theorem dX0_richestSaid_20 : decode cX0_richestSaid 20 = .ok (.iload_n 3, 1) := by decide +kernel
theorem dX0_richestSaid_21 : decode cX0_richestSaid 21 = .ok (.iaload, 1) := by decide +kernel
theorem dX0_richestSaid_22 : decode cX0_richestSaid 22 = .ok (.iload_n 1, 1) := by decide +kernel
theorem dX0_richestSaid_23 : decode cX0_richestSaid 23 = .ok (.if_icmp .gt 18, 3) := by decide +kernel
theorem dX0_richestSaid_26 : decode cX0_richestSaid 26 = .ok (.aload_n 0, 1) := by decide +kernel
theorem dX0_richestSaid_27 : decode cX0_richestSaid 27 = .ok (.iload_n 3, 1) := by decide +kernel
theorem dX0_richestSaid_28 : decode cX0_richestSaid 28 = .ok (.invokevirtual 41, 3) := by decide +kernel
theorem dX0_richestSaid_31 : decode cX0_richestSaid 31 = .ok (.aload_n 0, 1) := by decide +kernel
theorem dX0_richestSaid_32 : decode cX0_richestSaid 32 = .ok (.iload_n 2, 1) := by decide +kernel
theorem dX0_richestSaid_33 : decode cX0_richestSaid 33 = .ok (.invokevirtual 41, 3) := by decide +kernel
theorem dX0_richestSaid_36 : decode cX0_richestSaid 36 = .ok (.if_icmp .le 5, 3) := by decide +kernel
theorem dX0_richestSaid_39 : decode cX0_richestSaid 39 = .ok (.iload_n 3, 1) := by decide +kernel
theorem dX0_richestSaid_40 : decode cX0_richestSaid 40 = .ok (.istore_n 2, 1) := by decide +kernel
theorem dX0_richestSaid_41 : decode cX0_richestSaid 41 = .ok (.iinc 3 1, 3) := by decide +kernel
theorem dX0_richestSaid_44 : decode cX0_richestSaid 44 = .ok (.goto (-36), 3) := by decide +kernel
theorem dX0_richestSaid_47 : decode cX0_richestSaid 47 = .ok (.iload_n 2, 1) := by decide +kernel
theorem dX0_richestSaid_48 : decode cX0_richestSaid 48 = .ok (.ireturn, 1) := by decide +kernel
theorem dX0_signedSets_0 : decode cX0_signedSets 0 = .ok (.aload_n 0, 1) := by decide +kernel
theorem dX0_signedSets_1 : decode cX0_signedSets 1 = .ok (.invokevirtual 29, 3) := by decide +kernel
theorem dX0_signedSets_4 : decode cX0_signedSets 4 = .ok (.iconst 0, 1) := by decide +kernel
theorem dX0_signedSets_5 : decode cX0_signedSets 5 = .ok (.istore_n 1, 1) := by decide +kernel
theorem dX0_signedSets_6 : decode cX0_signedSets 6 = .ok (.iconst 0, 1) := by decide +kernel
theorem dX0_signedSets_7 : decode cX0_signedSets 7 = .ok (.istore_n 2, 1) := by decide +kernel
theorem dX0_signedSets_8 : decode cX0_signedSets 8 = .ok (.iload_n 2, 1) := by decide +kernel
theorem dX0_signedSets_9 : decode cX0_signedSets 9 = .ok (.aload_n 0, 1) := by decide +kernel
theorem dX0_signedSets_10 : decode cX0_signedSets 10 = .ok (.getfield 32, 3) := by decide +kernel
theorem dX0_signedSets_13 : decode cX0_signedSets 13 = .ok (.if_icmp .ge 20, 3) := by decide +kernel
theorem dX0_signedSets_16 : decode cX0_signedSets 16 = .ok (.aload_n 0, 1) := by decide +kernel
theorem dX0_signedSets_17 : decode cX0_signedSets 17 = .ok (.iload_n 2, 1) := by decide +kernel
theorem dX0_signedSets_18 : decode cX0_signedSets 18 = .ok (.invokevirtual 50, 3) := by decide +kernel
theorem dX0_signedSets_21 : decode cX0_signedSets 21 = .ok (.ifCond .eq 6, 3) := by decide +kernel
theorem dX0_signedSets_24 : decode cX0_signedSets 24 = .ok (.iinc 1 1, 3) := by decide +kernel
theorem dX0_signedSets_27 : decode cX0_signedSets 27 = .ok (.iinc 2 1, 3) := by decide +kernel
theorem dX0_signedSets_30 : decode cX0_signedSets 30 = .ok (.goto (-22), 3) := by decide +kernel
theorem dX0_signedSets_33 : decode cX0_signedSets 33 = .ok (.iload_n 1, 1) := by decide +kernel
theorem dX0_signedSets_34 : decode cX0_signedSets 34 = .ok (.ireturn, 1) := by decide +kernel
theorem dX0_weighSets_0 : decode cX0_weighSets 0 = .ok (.aload_n 0, 1) := by decide +kernel
theorem dX0_weighSets_1 : decode cX0_weighSets 1 = .ok (.sipush 128, 3) := by decide +kernel
theorem dX0_weighSets_4 : decode cX0_weighSets 4 = .ok (.aload_n 0, 1) := by decide +kernel
theorem dX0_weighSets_5 : decode cX0_weighSets 5 = .ok (.getfield 25, 3) := by decide +kernel
theorem dX0_weighSets_8 : decode cX0_weighSets 8 = .ok (.invokevirtual 62, 3) := by decide +kernel
theorem dX0_weighSets_11 : decode cX0_weighSets 11 = .ok (.iconst 1, 1) := by decide +kernel
theorem dX0_weighSets_12 : decode cX0_weighSets 12 = .ok (.iadd, 1) := by decide +kernel
theorem dX0_weighSets_13 : decode cX0_weighSets 13 = .ok (.invokestatic 54, 3) := by decide +kernel
theorem dX0_weighSets_16 : decode cX0_weighSets 16 = .ok (.putfield 32, 3) := by decide +kernel
theorem dX0_weighSets_19 : decode cX0_weighSets 19 = .ok (.iconst 0, 1) := by decide +kernel
theorem dX0_weighSets_20 : decode cX0_weighSets 20 = .ok (.istore_n 1, 1) := by decide +kernel
theorem dX0_weighSets_21 : decode cX0_weighSets 21 = .ok (.iload_n 1, 1) := by decide +kernel
theorem dX0_weighSets_22 : decode cX0_weighSets 22 = .ok (.aload_n 0, 1) := by decide +kernel
theorem dX0_weighSets_23 : decode cX0_weighSets 23 = .ok (.getfield 25, 3) := by decide +kernel
theorem dX0_weighSets_26 : decode cX0_weighSets 26 = .ok (.getfield 69, 3) := by decide +kernel
theorem dX0_weighSets_29 : decode cX0_weighSets 29 = .ok (.if_icmp .ge 106, 3) := by decide +kernel
theorem dX0_weighSets_32 : decode cX0_weighSets 32 = .ok (.iconst 1, 1) := by decide +kernel
theorem dX0_weighSets_33 : decode cX0_weighSets 33 = .ok (.iload_n 1, 1) := by decide +kernel
theorem dX0_weighSets_34 : decode cX0_weighSets 34 = .ok (.ishl, 1) := by decide +kernel
theorem dX0_weighSets_35 : decode cX0_weighSets 35 = .ok (.istore_n 2, 1) := by decide +kernel
theorem dX0_weighSets_36 : decode cX0_weighSets 36 = .ok (.iload_n 2, 1) := by decide +kernel
theorem dX0_weighSets_37 : decode cX0_weighSets 37 = .ok (.istore_n 3, 1) := by decide +kernel
theorem dX0_weighSets_38 : decode cX0_weighSets 38 = .ok (.iload_n 3, 1) := by decide +kernel
theorem dX0_weighSets_39 : decode cX0_weighSets 39 = .ok (.iconst 2, 1) := by decide +kernel
theorem dX0_weighSets_40 : decode cX0_weighSets 40 = .ok (.iload_n 2, 1) := by decide +kernel
theorem dX0_weighSets_41 : decode cX0_weighSets 41 = .ok (.imul, 1) := by decide +kernel
theorem dX0_weighSets_42 : decode cX0_weighSets 42 = .ok (.if_icmp .ge 87, 3) := by decide +kernel
theorem dX0_weighSets_45 : decode cX0_weighSets 45 = .ok (.iload_n 3, 1) := by decide +kernel
theorem dX0_weighSets_46 : decode cX0_weighSets 46 = .ok (.sipush 128, 3) := by decide +kernel
theorem dX0_weighSets_49 : decode cX0_weighSets 49 = .ok (.if_icmp .ge 80, 3) := by decide +kernel
theorem dX0_weighSets_52 : decode cX0_weighSets 52 = .ok (.aload_n 0, 1) := by decide +kernel
theorem dX0_weighSets_53 : decode cX0_weighSets 53 = .ok (.getfield 15, 3) := by decide +kernel
theorem dX0_weighSets_56 : decode cX0_weighSets 56 = .ok (.iload_n 3, 1) := by decide +kernel
theorem dX0_weighSets_57 : decode cX0_weighSets 57 = .ok (.aload_n 0, 1) := by decide +kernel
theorem dX0_weighSets_58 : decode cX0_weighSets 58 = .ok (.getfield 15, 3) := by decide +kernel
theorem dX0_weighSets_61 : decode cX0_weighSets 61 = .ok (.iload_n 3, 1) := by decide +kernel
theorem dX0_weighSets_62 : decode cX0_weighSets 62 = .ok (.iload_n 2, 1) := by decide +kernel
theorem dX0_weighSets_63 : decode cX0_weighSets 63 = .ok (.isub, 1) := by decide +kernel
theorem dX0_weighSets_64 : decode cX0_weighSets 64 = .ok (.iaload, 1) := by decide +kernel
theorem dX0_weighSets_65 : decode cX0_weighSets 65 = .ok (.aload_n 0, 1) := by decide +kernel
theorem dX0_weighSets_66 : decode cX0_weighSets 66 = .ok (.getfield 25, 3) := by decide +kernel
theorem dX0_weighSets_69 : decode cX0_weighSets 69 = .ok (.iload_n 1, 1) := by decide +kernel
theorem dX0_weighSets_70 : decode cX0_weighSets 70 = .ok (.invokevirtual 75, 3) := by decide +kernel
theorem dX0_weighSets_73 : decode cX0_weighSets 73 = .ok (.iadd, 1) := by decide +kernel
theorem dX0_weighSets_74 : decode cX0_weighSets 74 = .ok (.iastore, 1) := by decide +kernel
theorem dX0_weighSets_75 : decode cX0_weighSets 75 = .ok (.aload_n 0, 1) := by decide +kernel
theorem dX0_weighSets_76 : decode cX0_weighSets 76 = .ok (.getfield 19, 3) := by decide +kernel
theorem dX0_weighSets_79 : decode cX0_weighSets 79 = .ok (.iload_n 3, 1) := by decide +kernel
theorem dX0_weighSets_80 : decode cX0_weighSets 80 = .ok (.aload_n 0, 1) := by decide +kernel
theorem dX0_weighSets_81 : decode cX0_weighSets 81 = .ok (.getfield 19, 3) := by decide +kernel
theorem dX0_weighSets_84 : decode cX0_weighSets 84 = .ok (.iload_n 3, 1) := by decide +kernel
theorem dX0_weighSets_85 : decode cX0_weighSets 85 = .ok (.iload_n 2, 1) := by decide +kernel
theorem dX0_weighSets_86 : decode cX0_weighSets 86 = .ok (.isub, 1) := by decide +kernel
theorem dX0_weighSets_87 : decode cX0_weighSets 87 = .ok (.iaload, 1) := by decide +kernel
theorem dX0_weighSets_88 : decode cX0_weighSets 88 = .ok (.aload_n 0, 1) := by decide +kernel
theorem dX0_weighSets_89 : decode cX0_weighSets 89 = .ok (.getfield 25, 3) := by decide +kernel
theorem dX0_weighSets_92 : decode cX0_weighSets 92 = .ok (.iload_n 1, 1) := by decide +kernel
theorem dX0_weighSets_93 : decode cX0_weighSets 93 = .ok (.iconst 0, 1) := by decide +kernel
theorem dX0_weighSets_94 : decode cX0_weighSets 94 = .ok (.invokevirtual 78, 3) := by decide +kernel
theorem dX0_weighSets_97 : decode cX0_weighSets 97 = .ok (.iadd, 1) := by decide +kernel
theorem dX0_weighSets_98 : decode cX0_weighSets 98 = .ok (.iastore, 1) := by decide +kernel
theorem dX0_weighSets_99 : decode cX0_weighSets 99 = .ok (.aload_n 0, 1) := by decide +kernel
theorem dX0_weighSets_100 : decode cX0_weighSets 100 = .ok (.getfield 22, 3) := by decide +kernel
theorem dX0_weighSets_103 : decode cX0_weighSets 103 = .ok (.iload_n 3, 1) := by decide +kernel
theorem dX0_weighSets_104 : decode cX0_weighSets 104 = .ok (.aload_n 0, 1) := by decide +kernel
theorem dX0_weighSets_105 : decode cX0_weighSets 105 = .ok (.getfield 22, 3) := by decide +kernel
theorem dX0_weighSets_108 : decode cX0_weighSets 108 = .ok (.iload_n 3, 1) := by decide +kernel
theorem dX0_weighSets_109 : decode cX0_weighSets 109 = .ok (.iload_n 2, 1) := by decide +kernel
theorem dX0_weighSets_110 : decode cX0_weighSets 110 = .ok (.isub, 1) := by decide +kernel
theorem dX0_weighSets_111 : decode cX0_weighSets 111 = .ok (.iaload, 1) := by decide +kernel
theorem dX0_weighSets_112 : decode cX0_weighSets 112 = .ok (.aload_n 0, 1) := by decide +kernel
theorem dX0_weighSets_113 : decode cX0_weighSets 113 = .ok (.getfield 25, 3) := by decide +kernel
theorem dX0_weighSets_116 : decode cX0_weighSets 116 = .ok (.iload_n 1, 1) := by decide +kernel
theorem dX0_weighSets_117 : decode cX0_weighSets 117 = .ok (.iconst 1, 1) := by decide +kernel
theorem dX0_weighSets_118 : decode cX0_weighSets 118 = .ok (.invokevirtual 78, 3) := by decide +kernel
theorem dX0_weighSets_121 : decode cX0_weighSets 121 = .ok (.iadd, 1) := by decide +kernel
theorem dX0_weighSets_122 : decode cX0_weighSets 122 = .ok (.iastore, 1) := by decide +kernel
theorem dX0_weighSets_123 : decode cX0_weighSets 123 = .ok (.iinc 3 1, 3) := by decide +kernel
theorem dX0_weighSets_126 : decode cX0_weighSets 126 = .ok (.goto (-88), 3) := by decide +kernel
theorem dX0_weighSets_129 : decode cX0_weighSets 129 = .ok (.iinc 1 1, 3) := by decide +kernel
theorem dX0_weighSets_132 : decode cX0_weighSets 132 = .ok (.goto (-111), 3) := by decide +kernel
theorem dX0_weighSets_135 : decode cX0_weighSets 135 = .ok (.return_, 1) := by decide +kernel
theorem dX0_worthOfBoth_0 : decode cX0_worthOfBoth 0 = .ok (.aload_n 0, 1) := by decide +kernel
theorem dX0_worthOfBoth_1 : decode cX0_worthOfBoth 1 = .ok (.getfield 25, 3) := by decide +kernel
theorem dX0_worthOfBoth_4 : decode cX0_worthOfBoth 4 = .ok (.iload_n 1, 1) := by decide +kernel
theorem dX0_worthOfBoth_5 : decode cX0_worthOfBoth 5 = .ok (.iconst 0, 1) := by decide +kernel
theorem dX0_worthOfBoth_6 : decode cX0_worthOfBoth 6 = .ok (.invokevirtual 44, 3) := by decide +kernel
theorem dX0_worthOfBoth_9 : decode cX0_worthOfBoth 9 = .ok (.aload_n 0, 1) := by decide +kernel
theorem dX0_worthOfBoth_10 : decode cX0_worthOfBoth 10 = .ok (.getfield 25, 3) := by decide +kernel
theorem dX0_worthOfBoth_13 : decode cX0_worthOfBoth 13 = .ok (.iload_n 1, 1) := by decide +kernel
theorem dX0_worthOfBoth_14 : decode cX0_worthOfBoth 14 = .ok (.iconst 1, 1) := by decide +kernel
theorem dX0_worthOfBoth_15 : decode cX0_worthOfBoth 15 = .ok (.invokevirtual 44, 3) := by decide +kernel
theorem dX0_worthOfBoth_18 : decode cX0_worthOfBoth 18 = .ok (.iadd, 1) := by decide +kernel
theorem dX0_worthOfBoth_19 : decode cX0_worthOfBoth 19 = .ok (.ireturn, 1) := by decide +kernel
theorem dX10_agrees_0 : decode cX10_agrees 0 = .ok (.iload_n 3, 1) := by decide +kernel
theorem dX10_agrees_1 : decode cX10_agrees 1 = .ok (.iconst 1, 1) := by decide +kernel
theorem dX10_agrees_2 : decode cX10_agrees 2 = .ok (.aload_n 0, 1) := by decide +kernel
theorem dX10_agrees_3 : decode cX10_agrees 3 = .ok (.getfield 19, 3) := by decide +kernel
theorem dX10_agrees_6 : decode cX10_agrees 6 = .ok (.iload_n 2, 1) := by decide +kernel
theorem dX10_agrees_7 : decode cX10_agrees 7 = .ok (.invokevirtual 84, 3) := by decide +kernel
theorem dX10_agrees_10 : decode cX10_agrees 10 = .ok (.iconst 1, 1) := by decide +kernel
theorem dX10_agrees_11 : decode cX10_agrees 11 = .ok (.isub, 1) := by decide +kernel
theorem dX10_agrees_12 : decode cX10_agrees 12 = .ok (.invokestatic 87, 3) := by decide +kernel
theorem dX10_agrees_15 : decode cX10_agrees 15 = .ok (.ifCond .ne 5, 3) := by decide +kernel
theorem dX10_agrees_18 : decode cX10_agrees 18 = .ok (.iconst 0, 1) := by decide +kernel
theorem dX10_agrees_19 : decode cX10_agrees 19 = .ok (.ireturn, 1) := by decide +kernel
theorem dX10_agrees_20 : decode cX10_agrees 20 = .ok (.iconst 0, 1) := by decide +kernel
theorem dX10_agrees_21 : decode cX10_agrees 21 = .ok (.istore 4, 2) := by decide +kernel
theorem dX10_agrees_23 : decode cX10_agrees 23 = .ok (.iload 4, 2) := by decide +kernel
theorem dX10_agrees_25 : decode cX10_agrees 25 = .ok (.aload_n 0, 1) := by decide +kernel
theorem dX10_agrees_26 : decode cX10_agrees 26 = .ok (.getfield 23, 3) := by decide +kernel
theorem dX10_agrees_29 : decode cX10_agrees 29 = .ok (.iload_n 1, 1) := by decide +kernel
theorem dX10_agrees_30 : decode cX10_agrees 30 = .ok (.invokevirtual 27, 3) := by decide +kernel
theorem dX10_agrees_33 : decode cX10_agrees 33 = .ok (.if_icmp .ge 66, 3) := by decide +kernel
theorem dX10_agrees_36 : decode cX10_agrees 36 = .ok (.aload_n 0, 1) := by decide +kernel
theorem dX10_agrees_37 : decode cX10_agrees 37 = .ok (.getfield 23, 3) := by decide +kernel
theorem dX10_agrees_40 : decode cX10_agrees 40 = .ok (.iload_n 1, 1) := by decide +kernel
theorem dX10_agrees_41 : decode cX10_agrees 41 = .ok (.iload 4, 2) := by decide +kernel
theorem dX10_agrees_43 : decode cX10_agrees 43 = .ok (.invokevirtual 33, 3) := by decide +kernel
theorem dX10_agrees_46 : decode cX10_agrees 46 = .ok (.l2i, 1) := by decide +kernel
theorem dX10_agrees_47 : decode cX10_agrees 47 = .ok (.istore 5, 2) := by decide +kernel
theorem dX10_agrees_49 : decode cX10_agrees 49 = .ok (.aload_n 0, 1) := by decide +kernel
theorem dX10_agrees_50 : decode cX10_agrees 50 = .ok (.getfield 23, 3) := by decide +kernel
theorem dX10_agrees_53 : decode cX10_agrees 53 = .ok (.iload_n 1, 1) := by decide +kernel
theorem dX10_agrees_54 : decode cX10_agrees 54 = .ok (.iload 4, 2) := by decide +kernel
theorem dX10_agrees_56 : decode cX10_agrees 56 = .ok (.iconst 1, 1) := by decide +kernel
theorem dX10_agrees_57 : decode cX10_agrees 57 = .ok (.iadd, 1) := by decide +kernel
theorem dX10_agrees_58 : decode cX10_agrees 58 = .ok (.invokevirtual 33, 3) := by decide +kernel
theorem dX10_agrees_61 : decode cX10_agrees 61 = .ok (.l2i, 1) := by decide +kernel
theorem dX10_agrees_62 : decode cX10_agrees 62 = .ok (.istore 6, 2) := by decide +kernel
theorem dX10_agrees_64 : decode cX10_agrees 64 = .ok (.aload_n 0, 1) := by decide +kernel
theorem dX10_agrees_65 : decode cX10_agrees 65 = .ok (.iload 5, 2) := by decide +kernel
theorem dX10_agrees_67 : decode cX10_agrees 67 = .ok (.iload 6, 2) := by decide +kernel
theorem dX10_agrees_69 : decode cX10_agrees 69 = .ok (.iload_n 2, 1) := by decide +kernel
theorem dX10_agrees_70 : decode cX10_agrees 70 = .ok (.iload_n 3, 1) := by decide +kernel
theorem dX10_agrees_71 : decode cX10_agrees 71 = .ok (.invokevirtual 73, 3) := by decide +kernel
theorem dX10_agrees_74 : decode cX10_agrees 74 = .ok (.i2l, 1) := by decide +kernel
theorem dX10_agrees_75 : decode cX10_agrees 75 = .ok (.aload_n 0, 1) := by decide +kernel
theorem dX10_agrees_76 : decode cX10_agrees 76 = .ok (.getfield 23, 3) := by decide +kernel
theorem dX10_agrees_79 : decode cX10_agrees 79 = .ok (.iload_n 1, 1) := by decide +kernel
theorem dX10_agrees_80 : decode cX10_agrees 80 = .ok (.iload 4, 2) := by decide +kernel
theorem dX10_agrees_82 : decode cX10_agrees 82 = .ok (.iconst 2, 1) := by decide +kernel
theorem dX10_agrees_83 : decode cX10_agrees 83 = .ok (.iadd, 1) := by decide +kernel
theorem dX10_agrees_84 : decode cX10_agrees 84 = .ok (.invokevirtual 33, 3) := by decide +kernel
theorem dX10_agrees_87 : decode cX10_agrees 87 = .ok (.lcmp, 1) := by decide +kernel
theorem dX10_agrees_88 : decode cX10_agrees 88 = .ok (.ifCond .eq 5, 3) := by decide +kernel
theorem dX10_agrees_91 : decode cX10_agrees 91 = .ok (.iconst 0, 1) := by decide +kernel
theorem dX10_agrees_92 : decode cX10_agrees 92 = .ok (.ireturn, 1) := by decide +kernel
theorem dX10_agrees_93 : decode cX10_agrees 93 = .ok (.iinc 4 3, 3) := by decide +kernel
theorem dX10_agrees_96 : decode cX10_agrees 96 = .ok (.goto (-73), 3) := by decide +kernel
theorem dX10_agrees_99 : decode cX10_agrees 99 = .ok (.iconst 1, 1) := by decide +kernel
theorem dX10_agrees_100 : decode cX10_agrees 100 = .ok (.ireturn, 1) := by decide +kernel
theorem dX10_bestQuestion_0 : decode cX10_bestQuestion 0 = .ok (.iconst (-1), 1) := by decide +kernel
theorem dX10_bestQuestion_1 : decode cX10_bestQuestion 1 = .ok (.istore_n 1, 1) := by decide +kernel
theorem dX10_bestQuestion_2 : decode cX10_bestQuestion 2 = .ok (.aload_n 0, 1) := by decide +kernel
theorem dX10_bestQuestion_3 : decode cX10_bestQuestion 3 = .ok (.getfield 43, 3) := by decide +kernel
theorem dX10_bestQuestion_6 : decode cX10_bestQuestion 6 = .ok (.istore_n 2, 1) := by decide +kernel
theorem dX10_bestQuestion_7 : decode cX10_bestQuestion 7 = .ok (.iconst 0, 1) := by decide +kernel
theorem dX10_bestQuestion_8 : decode cX10_bestQuestion 8 = .ok (.istore_n 3, 1) := by decide +kernel
theorem dX10_bestQuestion_9 : decode cX10_bestQuestion 9 = .ok (.iload_n 3, 1) := by decide +kernel
theorem dX10_bestQuestion_10 : decode cX10_bestQuestion 10 = .ok (.aload_n 0, 1) := by decide +kernel
theorem dX10_bestQuestion_11 : decode cX10_bestQuestion 11 = .ok (.getfield 19, 3) := by decide +kernel
theorem dX10_bestQuestion_14 : decode cX10_bestQuestion 14 = .ok (.getfield 57, 3) := by decide +kernel
theorem dX10_bestQuestion_17 : decode cX10_bestQuestion 17 = .ok (.if_icmp .ge 80, 3) := by decide +kernel
theorem dX10_bestQuestion_20 : decode cX10_bestQuestion 20 = .ok (.iconst 0, 1) := by decide +kernel
theorem dX10_bestQuestion_21 : decode cX10_bestQuestion 21 = .ok (.istore 4, 2) := by decide +kernel
theorem dX10_bestQuestion_23 : decode cX10_bestQuestion 23 = .ok (.iload 4, 2) := by decide +kernel
theorem dX10_bestQuestion_25 : decode cX10_bestQuestion 25 = .ok (.aload_n 0, 1) := by decide +kernel
theorem dX10_bestQuestion_26 : decode cX10_bestQuestion 26 = .ok (.getfield 19, 3) := by decide +kernel
theorem dX10_bestQuestion_29 : decode cX10_bestQuestion 29 = .ok (.getfield 57, 3) := by decide +kernel
theorem dX10_bestQuestion_32 : decode cX10_bestQuestion 32 = .ok (.if_icmp .ge 59, 3) := by decide +kernel
theorem dX10_bestQuestion_35 : decode cX10_bestQuestion 35 = .ok (.aload_n 0, 1) := by decide +kernel
theorem dX10_bestQuestion_36 : decode cX10_bestQuestion 36 = .ok (.getfield 19, 3) := by decide +kernel
theorem dX10_bestQuestion_39 : decode cX10_bestQuestion 39 = .ok (.iload_n 3, 1) := by decide +kernel
theorem dX10_bestQuestion_40 : decode cX10_bestQuestion 40 = .ok (.invokevirtual 60, 3) := by decide +kernel
theorem dX10_bestQuestion_43 : decode cX10_bestQuestion 43 = .ok (.ifCond .ne 42, 3) := by decide +kernel
theorem dX10_bestQuestion_46 : decode cX10_bestQuestion 46 = .ok (.aload_n 0, 1) := by decide +kernel
theorem dX10_bestQuestion_47 : decode cX10_bestQuestion 47 = .ok (.getfield 19, 3) := by decide +kernel
theorem dX10_bestQuestion_50 : decode cX10_bestQuestion 50 = .ok (.iload 4, 2) := by decide +kernel
theorem dX10_bestQuestion_52 : decode cX10_bestQuestion 52 = .ok (.invokevirtual 60, 3) := by decide +kernel
theorem dX10_bestQuestion_55 : decode cX10_bestQuestion 55 = .ok (.iconst 1, 1) := by decide +kernel
theorem dX10_bestQuestion_56 : decode cX10_bestQuestion 56 = .ok (.if_icmp .ne 29, 3) := by decide +kernel
theorem dX10_bestQuestion_59 : decode cX10_bestQuestion 59 = .ok (.aload_n 0, 1) := by decide +kernel
theorem dX10_bestQuestion_60 : decode cX10_bestQuestion 60 = .ok (.iload_n 3, 1) := by decide +kernel
theorem dX10_bestQuestion_61 : decode cX10_bestQuestion 61 = .ok (.iload 4, 2) := by decide +kernel
theorem dX10_bestQuestion_63 : decode cX10_bestQuestion 63 = .ok (.invokevirtual 63, 3) := by decide +kernel
theorem dX10_bestQuestion_66 : decode cX10_bestQuestion 66 = .ok (.istore 5, 2) := by decide +kernel
theorem dX10_bestQuestion_68 : decode cX10_bestQuestion 68 = .ok (.iload 5, 2) := by decide +kernel
theorem dX10_bestQuestion_70 : decode cX10_bestQuestion 70 = .ok (.iload_n 2, 1) := by decide +kernel
theorem dX10_bestQuestion_71 : decode cX10_bestQuestion 71 = .ok (.if_icmp .ge 14, 3) := by decide +kernel
theorem dX10_bestQuestion_74 : decode cX10_bestQuestion 74 = .ok (.bipush 10, 2) := by decide +kernel
theorem dX10_bestQuestion_76 : decode cX10_bestQuestion 76 = .ok (.iload_n 3, 1) := by decide +kernel
theorem dX10_bestQuestion_77 : decode cX10_bestQuestion 77 = .ok (.imul, 1) := by decide +kernel
theorem dX10_bestQuestion_78 : decode cX10_bestQuestion 78 = .ok (.iload 4, 2) := by decide +kernel
theorem dX10_bestQuestion_80 : decode cX10_bestQuestion 80 = .ok (.iadd, 1) := by decide +kernel
theorem dX10_bestQuestion_81 : decode cX10_bestQuestion 81 = .ok (.istore_n 1, 1) := by decide +kernel
theorem dX10_bestQuestion_82 : decode cX10_bestQuestion 82 = .ok (.iload 5, 2) := by decide +kernel
theorem dX10_bestQuestion_84 : decode cX10_bestQuestion 84 = .ok (.istore_n 2, 1) := by decide +kernel
theorem dX10_bestQuestion_85 : decode cX10_bestQuestion 85 = .ok (.iinc 4 1, 3) := by decide +kernel
theorem dX10_bestQuestion_88 : decode cX10_bestQuestion 88 = .ok (.goto (-65), 3) := by decide +kernel
theorem dX10_bestQuestion_91 : decode cX10_bestQuestion 91 = .ok (.iinc 3 1, 3) := by decide +kernel
theorem dX10_bestQuestion_94 : decode cX10_bestQuestion 94 = .ok (.goto (-85), 3) := by decide +kernel
theorem dX10_bestQuestion_97 : decode cX10_bestQuestion 97 = .ok (.iload_n 1, 1) := by decide +kernel
theorem dX10_bestQuestion_98 : decode cX10_bestQuestion 98 = .ok (.ireturn, 1) := by decide +kernel
theorem dX10_gather_0 : decode cX10_gather 0 = .ok (.aload_n 0, 1) := by decide +kernel
theorem dX10_gather_1 : decode cX10_gather 1 = .ok (.iconst 0, 1) := by decide +kernel
theorem dX10_gather_2 : decode cX10_gather 2 = .ok (.putfield 43, 3) := by decide +kernel
theorem dX10_gather_5 : decode cX10_gather 5 = .ok (.iconst 0, 1) := by decide +kernel
theorem dX10_gather_6 : decode cX10_gather 6 = .ok (.istore_n 2, 1) := by decide +kernel
theorem dX10_gather_7 : decode cX10_gather 7 = .ok (.iload_n 2, 1) := by decide +kernel
theorem dX10_gather_8 : decode cX10_gather 8 = .ok (.sipush 240, 3) := by decide +kernel
theorem dX10_gather_11 : decode cX10_gather 11 = .ok (.if_icmp .ge 47, 3) := by decide +kernel
theorem dX10_gather_14 : decode cX10_gather 14 = .ok (.aload_n 0, 1) := by decide +kernel
theorem dX10_gather_15 : decode cX10_gather 15 = .ok (.getfield 11, 3) := by decide +kernel
theorem dX10_gather_18 : decode cX10_gather 18 = .ok (.iload_n 2, 1) := by decide +kernel
theorem dX10_gather_19 : decode cX10_gather 19 = .ok (.aload_n 0, 1) := by decide +kernel
theorem dX10_gather_20 : decode cX10_gather 20 = .ok (.iload_n 1, 1) := by decide +kernel
theorem dX10_gather_21 : decode cX10_gather 21 = .ok (.iload_n 2, 1) := by decide +kernel
theorem dX10_gather_22 : decode cX10_gather 22 = .ok (.bipush 30, 2) := by decide +kernel
theorem dX10_gather_24 : decode cX10_gather 24 = .ok (.idiv, 1) := by decide +kernel
theorem dX10_gather_25 : decode cX10_gather 25 = .ok (.iload_n 2, 1) := by decide +kernel
theorem dX10_gather_26 : decode cX10_gather 26 = .ok (.bipush 30, 2) := by decide +kernel
theorem dX10_gather_28 : decode cX10_gather 28 = .ok (.irem, 1) := by decide +kernel
theorem dX10_gather_29 : decode cX10_gather 29 = .ok (.invokevirtual 47, 3) := by decide +kernel
theorem dX10_gather_32 : decode cX10_gather 32 = .ok (.bastore, 1) := by decide +kernel
theorem dX10_gather_33 : decode cX10_gather 33 = .ok (.aload_n 0, 1) := by decide +kernel
theorem dX10_gather_34 : decode cX10_gather 34 = .ok (.getfield 11, 3) := by decide +kernel
theorem dX10_gather_37 : decode cX10_gather 37 = .ok (.iload_n 2, 1) := by decide +kernel
theorem dX10_gather_38 : decode cX10_gather 38 = .ok (.baload, 1) := by decide +kernel
theorem dX10_gather_39 : decode cX10_gather 39 = .ok (.ifCond .eq 13, 3) := by decide +kernel
theorem dX10_gather_42 : decode cX10_gather 42 = .ok (.aload_n 0, 1) := by decide +kernel
theorem dX10_gather_43 : decode cX10_gather 43 = .ok (.dup, 1) := by decide +kernel
theorem dX10_gather_44 : decode cX10_gather 44 = .ok (.getfield 43, 3) := by decide +kernel
theorem dX10_gather_47 : decode cX10_gather 47 = .ok (.iconst 1, 1) := by decide +kernel
theorem dX10_gather_48 : decode cX10_gather 48 = .ok (.iadd, 1) := by decide +kernel
theorem dX10_gather_49 : decode cX10_gather 49 = .ok (.putfield 43, 3) := by decide +kernel
theorem dX10_gather_52 : decode cX10_gather 52 = .ok (.iinc 2 1, 3) := by decide +kernel
theorem dX10_gather_55 : decode cX10_gather 55 = .ok (.goto (-48), 3) := by decide +kernel
theorem dX10_gather_58 : decode cX10_gather 58 = .ok (.return_, 1) := by decide +kernel
theorem dX10_init_0 : decode cX10_init 0 = .ok (.aload_n 0, 1) := by decide +kernel
theorem dX10_init_1 : decode cX10_init 1 = .ok (.invokespecial 3, 3) := by decide +kernel
theorem dX10_init_4 : decode cX10_init 4 = .ok (.aload_n 0, 1) := by decide +kernel
theorem dX10_init_5 : decode cX10_init 5 = .ok (.sipush 240, 3) := by decide +kernel
theorem dX10_init_8 : decode cX10_init 8 = .ok (.newarray .boolean, 2) := by decide +kernel
theorem dX10_init_10 : decode cX10_init 10 = .ok (.putfield 11, 3) := by decide +kernel
theorem dX10_init_13 : decode cX10_init 13 = .ok (.aload_n 0, 1) := by decide +kernel
theorem dX10_init_14 : decode cX10_init 14 = .ok (.bipush 40, 2) := by decide +kernel
theorem dX10_init_16 : decode cX10_init 16 = .ok (.newarray .int, 2) := by decide +kernel
theorem dX10_init_18 : decode cX10_init 18 = .ok (.putfield 15, 3) := by decide +kernel
theorem dX10_init_21 : decode cX10_init 21 = .ok (.aload_n 0, 1) := by decide +kernel
theorem dX10_init_22 : decode cX10_init 22 = .ok (.aload_n 1, 1) := by decide +kernel
theorem dX10_init_23 : decode cX10_init 23 = .ok (.putfield 19, 3) := by decide +kernel
theorem dX10_init_26 : decode cX10_init 26 = .ok (.aload_n 0, 1) := by decide +kernel
theorem dX10_init_27 : decode cX10_init 27 = .ok (.aload_n 2, 1) := by decide +kernel
theorem dX10_init_28 : decode cX10_init 28 = .ok (.putfield 23, 3) := by decide +kernel
theorem dX10_init_31 : decode cX10_init 31 = .ok (.return_, 1) := by decide +kernel
theorem dX10_isManOf_0 : decode cX10_isManOf 0 = .ok (.lload_n 1, 1) := by decide +kernel
theorem dX10_isManOf_1 : decode cX10_isManOf 1 = .ok (.lconst 0, 1) := by decide +kernel
theorem dX10_isManOf_2 : decode cX10_isManOf 2 = .ok (.lcmp, 1) := by decide +kernel
theorem dX10_isManOf_3 : decode cX10_isManOf 3 = .ok (.ifCond .lt 28, 3) := by decide +kernel
theorem dX10_isManOf_6 : decode cX10_isManOf 6 = .ok (.lload_n 1, 1) := by decide +kernel
theorem dX10_isManOf_7 : decode cX10_isManOf 7 = .ok (.ldc2_w 82, 3) := by decide +kernel
theorem dX10_isManOf_10 : decode cX10_isManOf 10 = .ok (.lcmp, 1) := by decide +kernel
theorem dX10_isManOf_11 : decode cX10_isManOf 11 = .ok (.ifCond .ge 20, 3) := by decide +kernel
theorem dX10_isManOf_14 : decode cX10_isManOf 14 = .ok (.aload_n 0, 1) := by decide +kernel
theorem dX10_isManOf_15 : decode cX10_isManOf 15 = .ok (.getfield 19, 3) := by decide +kernel
theorem dX10_isManOf_18 : decode cX10_isManOf 18 = .ok (.lload_n 1, 1) := by decide +kernel
theorem dX10_isManOf_19 : decode cX10_isManOf 19 = .ok (.l2i, 1) := by decide +kernel
theorem dX10_isManOf_20 : decode cX10_isManOf 20 = .ok (.invokevirtual 60, 3) := by decide +kernel
theorem dX10_isManOf_23 : decode cX10_isManOf 23 = .ok (.iload_n 3, 1) := by decide +kernel
theorem dX10_isManOf_24 : decode cX10_isManOf 24 = .ok (.if_icmp .ne 7, 3) := by decide +kernel
theorem dX10_isManOf_27 : decode cX10_isManOf 27 = .ok (.iconst 1, 1) := by decide +kernel
theorem dX10_isManOf_28 : decode cX10_isManOf 28 = .ok (.goto 4, 3) := by decide +kernel
theorem dX10_isManOf_31 : decode cX10_isManOf 31 = .ok (.iconst 0, 1) := by decide +kernel
theorem dX10_isManOf_32 : decode cX10_isManOf 32 = .ok (.ireturn, 1) := by decide +kernel
theorem dX10_isTold_0 : decode cX10_isTold 0 = .ok (.aload_n 0, 1) := by decide +kernel
theorem dX10_isTold_1 : decode cX10_isTold 1 = .ok (.getfield 23, 3) := by decide +kernel
theorem dX10_isTold_4 : decode cX10_isTold 4 = .ok (.iload_n 1, 1) := by decide +kernel
theorem dX10_isTold_5 : decode cX10_isTold 5 = .ok (.invokevirtual 27, 3) := by decide +kernel
theorem dX10_isTold_8 : decode cX10_isTold 8 = .ok (.iconst 3, 1) := by decide +kernel
theorem dX10_isTold_9 : decode cX10_isTold 9 = .ok (.irem, 1) := by decide +kernel
theorem dX10_isTold_10 : decode cX10_isTold 10 = .ok (.ifCond .eq 5, 3) := by decide +kernel
theorem dX10_isTold_13 : decode cX10_isTold 13 = .ok (.iconst 0, 1) := by decide +kernel
theorem dX10_isTold_14 : decode cX10_isTold 14 = .ok (.ireturn, 1) := by decide +kernel
theorem dX10_isTold_15 : decode cX10_isTold 15 = .ok (.iconst 0, 1) := by decide +kernel
theorem dX10_isTold_16 : decode cX10_isTold 16 = .ok (.istore_n 2, 1) := by decide +kernel
theorem dX10_isTold_17 : decode cX10_isTold 17 = .ok (.iload_n 2, 1) := by decide +kernel
theorem dX10_isTold_18 : decode cX10_isTold 18 = .ok (.aload_n 0, 1) := by decide +kernel
theorem dX10_isTold_19 : decode cX10_isTold 19 = .ok (.getfield 23, 3) := by decide +kernel
theorem dX10_isTold_22 : decode cX10_isTold 22 = .ok (.iload_n 1, 1) := by decide +kernel
theorem dX10_isTold_23 : decode cX10_isTold 23 = .ok (.invokevirtual 27, 3) := by decide +kernel
theorem dX10_isTold_26 : decode cX10_isTold 26 = .ok (.if_icmp .ge 73, 3) := by decide +kernel
theorem dX10_isTold_29 : decode cX10_isTold 29 = .ok (.aload_n 0, 1) := by decide +kernel
theorem dX10_isTold_30 : decode cX10_isTold 30 = .ok (.getfield 23, 3) := by decide +kernel
theorem dX10_isTold_33 : decode cX10_isTold 33 = .ok (.iload_n 1, 1) := by decide +kernel
theorem dX10_isTold_34 : decode cX10_isTold 34 = .ok (.iload_n 2, 1) := by decide +kernel
theorem dX10_isTold_35 : decode cX10_isTold 35 = .ok (.iconst 2, 1) := by decide +kernel
theorem dX10_isTold_36 : decode cX10_isTold 36 = .ok (.iadd, 1) := by decide +kernel
theorem dX10_isTold_37 : decode cX10_isTold 37 = .ok (.invokevirtual 33, 3) := by decide +kernel
theorem dX10_isTold_40 : decode cX10_isTold 40 = .ok (.lstore_n 3, 1) := by decide +kernel
theorem dX10_isTold_41 : decode cX10_isTold 41 = .ok (.aload_n 0, 1) := by decide +kernel
theorem dX10_isTold_42 : decode cX10_isTold 42 = .ok (.aload_n 0, 1) := by decide +kernel
theorem dX10_isTold_43 : decode cX10_isTold 43 = .ok (.getfield 23, 3) := by decide +kernel
theorem dX10_isTold_46 : decode cX10_isTold 46 = .ok (.iload_n 1, 1) := by decide +kernel
theorem dX10_isTold_47 : decode cX10_isTold 47 = .ok (.iload_n 2, 1) := by decide +kernel
theorem dX10_isTold_48 : decode cX10_isTold 48 = .ok (.invokevirtual 33, 3) := by decide +kernel
theorem dX10_isTold_51 : decode cX10_isTold 51 = .ok (.iconst 0, 1) := by decide +kernel
theorem dX10_isTold_52 : decode cX10_isTold 52 = .ok (.invokevirtual 37, 3) := by decide +kernel
theorem dX10_isTold_55 : decode cX10_isTold 55 = .ok (.ifCond .eq 36, 3) := by decide +kernel
theorem dX10_isTold_58 : decode cX10_isTold 58 = .ok (.aload_n 0, 1) := by decide +kernel
theorem dX10_isTold_59 : decode cX10_isTold 59 = .ok (.aload_n 0, 1) := by decide +kernel
theorem dX10_isTold_60 : decode cX10_isTold 60 = .ok (.getfield 23, 3) := by decide +kernel
theorem dX10_isTold_63 : decode cX10_isTold 63 = .ok (.iload_n 1, 1) := by decide +kernel
theorem dX10_isTold_64 : decode cX10_isTold 64 = .ok (.iload_n 2, 1) := by decide +kernel
theorem dX10_isTold_65 : decode cX10_isTold 65 = .ok (.iconst 1, 1) := by decide +kernel
theorem dX10_isTold_66 : decode cX10_isTold 66 = .ok (.iadd, 1) := by decide +kernel
theorem dX10_isTold_67 : decode cX10_isTold 67 = .ok (.invokevirtual 33, 3) := by decide +kernel
theorem dX10_isTold_70 : decode cX10_isTold 70 = .ok (.iconst 1, 1) := by decide +kernel
theorem dX10_isTold_71 : decode cX10_isTold 71 = .ok (.invokevirtual 37, 3) := by decide +kernel
theorem dX10_isTold_74 : decode cX10_isTold 74 = .ok (.ifCond .eq 17, 3) := by decide +kernel
theorem dX10_isTold_77 : decode cX10_isTold 77 = .ok (.lload_n 3, 1) := by decide +kernel
theorem dX10_isTold_78 : decode cX10_isTold 78 = .ok (.lconst 0, 1) := by decide +kernel
theorem dX10_isTold_79 : decode cX10_isTold 79 = .ok (.lcmp, 1) := by decide +kernel
theorem dX10_isTold_80 : decode cX10_isTold 80 = .ok (.ifCond .lt 11, 3) := by decide +kernel
theorem dX10_isTold_83 : decode cX10_isTold 83 = .ok (.lload_n 3, 1) := by decide +kernel
theorem dX10_isTold_84 : decode cX10_isTold 84 = .ok (.ldc2_w 41, 3) := by decide +kernel
theorem dX10_isTold_87 : decode cX10_isTold 87 = .ok (.lcmp, 1) := by decide +kernel
theorem dX10_isTold_88 : decode cX10_isTold 88 = .ok (.ifCond .le 5, 3) := by decide +kernel
theorem dX10_isTold_91 : decode cX10_isTold 91 = .ok (.iconst 0, 1) := by decide +kernel
theorem dX10_isTold_92 : decode cX10_isTold 92 = .ok (.ireturn, 1) := by decide +kernel
theorem dX10_isTold_93 : decode cX10_isTold 93 = .ok (.iinc 2 3, 3) := by decide +kernel
theorem dX10_isTold_96 : decode cX10_isTold 96 = .ok (.goto (-79), 3) := by decide +kernel
theorem dX10_isTold_99 : decode cX10_isTold 99 = .ok (.iconst 1, 1) := by decide +kernel
theorem dX10_isTold_100 : decode cX10_isTold 100 = .ok (.ireturn, 1) := by decide +kernel
theorem dX10_leastLoss_0 : decode cX10_leastLoss 0 = .ok (.aload_n 0, 1) := by decide +kernel
theorem dX10_leastLoss_1 : decode cX10_leastLoss 1 = .ok (.getfield 19, 3) := by decide +kernel
theorem dX10_leastLoss_4 : decode cX10_leastLoss 4 = .ok (.iload_n 1, 1) := by decide +kernel
theorem dX10_leastLoss_5 : decode cX10_leastLoss 5 = .ok (.invokevirtual 51, 3) := by decide +kernel
theorem dX10_leastLoss_8 : decode cX10_leastLoss 8 = .ok (.ifCond .ne 5, 3) := by decide +kernel
theorem dX10_leastLoss_11 : decode cX10_leastLoss 11 = .ok (.iconst (-1), 1) := by decide +kernel

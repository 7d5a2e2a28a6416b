theorem dJ0_charAt_5068e_0 : decode cJ0_charAt_5068e 0 = .ok (.aload_n 0, 1) := by decide +kernel
theorem dJ0_charAt_5068e_1 : decode cJ0_charAt_5068e 1 = .ok (.invokevirtual 492, 3) := by decide +kernel
theorem dJ0_charAt_5068e_4 : decode cJ0_charAt_5068e 4 = .ok (.ifCond .eq 12, 3) := by decide +kernel
theorem dJ0_charAt_5068e_7 : decode cJ0_charAt_5068e 7 = .ok (.aload_n 0, 1) := by decide +kernel
theorem dJ0_charAt_5068e_8 : decode cJ0_charAt_5068e 8 = .ok (.getfield 9, 3) := by decide +kernel
theorem dJ0_charAt_5068e_11 : decode cJ0_charAt_5068e 11 = .ok (.iload_n 1, 1) := by decide +kernel
theorem dJ0_charAt_5068e_12 : decode cJ0_charAt_5068e 12 = .ok (.invokestatic 495, 3) := by decide +kernel
theorem dJ0_charAt_5068e_15 : decode cJ0_charAt_5068e 15 = .ok (.ireturn, 1) := by decide +kernel
theorem dJ0_charAt_5068e_16 : decode cJ0_charAt_5068e 16 = .ok (.aload_n 0, 1) := by decide +kernel
theorem dJ0_charAt_5068e_17 : decode cJ0_charAt_5068e 17 = .ok (.getfield 9, 3) := by decide +kernel
theorem dJ0_charAt_5068e_20 : decode cJ0_charAt_5068e 20 = .ok (.iload_n 1, 1) := by decide +kernel
theorem dJ0_charAt_5068e_21 : decode cJ0_charAt_5068e 21 = .ok (.invokestatic 498, 3) := by decide +kernel
theorem dJ0_charAt_5068e_24 : decode cJ0_charAt_5068e 24 = .ok (.ireturn, 1) := by decide +kernel
theorem dJ0_checkIndex_df160_0 : decode cJ0_checkIndex_df160 0 = .ok (.iload_n 0, 1) := by decide +kernel
theorem dJ0_checkIndex_df160_1 : decode cJ0_checkIndex_df160 1 = .ok (.iload_n 1, 1) := by decide +kernel
theorem dJ0_checkIndex_df160_2 : decode cJ0_checkIndex_df160 2 = .ok (.getstatic 1053, 3) := by decide +kernel
theorem dJ0_checkIndex_df160_5 : decode cJ0_checkIndex_df160 5 = .ok (.invokestatic 1059, 3) := by decide +kernel
theorem dJ0_checkIndex_df160_8 : decode cJ0_checkIndex_df160 8 = .ok (.pop, 1) := by decide +kernel
theorem dJ0_checkIndex_df160_9 : decode cJ0_checkIndex_df160 9 = .ok (.return_, 1) := by decide +kernel
theorem dJ0_coder_7d493_0 : decode cJ0_coder_7d493 0 = .ok (.getstatic 38, 3) := by decide +kernel
theorem dJ0_coder_7d493_3 : decode cJ0_coder_7d493 3 = .ok (.ifCond .eq 10, 3) := by decide +kernel
theorem dJ0_coder_7d493_6 : decode cJ0_coder_7d493 6 = .ok (.aload_n 0, 1) := by decide +kernel
theorem dJ0_coder_7d493_7 : decode cJ0_coder_7d493 7 = .ok (.getfield 15, 3) := by decide +kernel
theorem dJ0_coder_7d493_10 : decode cJ0_coder_7d493 10 = .ok (.goto 4, 3) := by decide +kernel
theorem dJ0_coder_7d493_13 : decode cJ0_coder_7d493 13 = .ok (.iconst 1, 1) := by decide +kernel
theorem dJ0_coder_7d493_14 : decode cJ0_coder_7d493 14 = .ok (.ireturn, 1) := by decide +kernel
theorem dJ0_isLatin1_aae02_0 : decode cJ0_isLatin1_aae02 0 = .ok (.getstatic 38, 3) := by decide +kernel
theorem dJ0_isLatin1_aae02_3 : decode cJ0_isLatin1_aae02 3 = .ok (.ifCond .eq 14, 3) := by decide +kernel
theorem dJ0_isLatin1_aae02_6 : decode cJ0_isLatin1_aae02 6 = .ok (.aload_n 0, 1) := by decide +kernel
theorem dJ0_isLatin1_aae02_7 : decode cJ0_isLatin1_aae02 7 = .ok (.getfield 15, 3) := by decide +kernel
theorem dJ0_isLatin1_aae02_10 : decode cJ0_isLatin1_aae02 10 = .ok (.ifCond .ne 7, 3) := by decide +kernel
theorem dJ0_isLatin1_aae02_13 : decode cJ0_isLatin1_aae02 13 = .ok (.iconst 1, 1) := by decide +kernel
theorem dJ0_isLatin1_aae02_14 : decode cJ0_isLatin1_aae02 14 = .ok (.goto 4, 3) := by decide +kernel
theorem dJ0_isLatin1_aae02_17 : decode cJ0_isLatin1_aae02 17 = .ok (.iconst 0, 1) := by decide +kernel
theorem dJ0_isLatin1_aae02_18 : decode cJ0_isLatin1_aae02 18 = .ok (.ireturn, 1) := by decide +kernel
theorem dJ0_length_8abf5_0 : decode cJ0_length_8abf5 0 = .ok (.aload_n 0, 1) := by decide +kernel
theorem dJ0_length_8abf5_1 : decode cJ0_length_8abf5 1 = .ok (.getfield 9, 3) := by decide +kernel
theorem dJ0_length_8abf5_4 : decode cJ0_length_8abf5 4 = .ok (.arraylength, 1) := by decide +kernel
theorem dJ0_length_8abf5_5 : decode cJ0_length_8abf5 5 = .ok (.aload_n 0, 1) := by decide +kernel
theorem dJ0_length_8abf5_6 : decode cJ0_length_8abf5 6 = .ok (.invokevirtual 335, 3) := by decide +kernel
theorem dJ0_length_8abf5_9 : decode cJ0_length_8abf5 9 = .ok (.ishr, 1) := by decide +kernel
theorem dJ0_length_8abf5_10 : decode cJ0_length_8abf5 10 = .ok (.ireturn, 1) := by decide +kernel
theorem dJ1_charAt_3b067_0 : decode cJ1_charAt_3b067 0 = .ok (.iload_n 1, 1) := by decide +kernel
theorem dJ1_charAt_3b067_1 : decode cJ1_charAt_3b067 1 = .ok (.aload_n 0, 1) := by decide +kernel
theorem dJ1_charAt_3b067_2 : decode cJ1_charAt_3b067 2 = .ok (.arraylength, 1) := by decide +kernel
theorem dJ1_charAt_3b067_3 : decode cJ1_charAt_3b067 3 = .ok (.invokestatic 9, 3) := by decide +kernel
theorem dJ1_charAt_3b067_6 : decode cJ1_charAt_3b067 6 = .ok (.aload_n 0, 1) := by decide +kernel
theorem dJ1_charAt_3b067_7 : decode cJ1_charAt_3b067 7 = .ok (.iload_n 1, 1) := by decide +kernel
theorem dJ1_charAt_3b067_8 : decode cJ1_charAt_3b067 8 = .ok (.baload, 1) := by decide +kernel
theorem dJ1_charAt_3b067_9 : decode cJ1_charAt_3b067 9 = .ok (.sipush 255, 3) := by decide +kernel
theorem dJ1_charAt_3b067_12 : decode cJ1_charAt_3b067 12 = .ok (.iand, 1) := by decide +kernel
theorem dJ1_charAt_3b067_13 : decode cJ1_charAt_3b067 13 = .ok (.i2c, 1) := by decide +kernel
theorem dJ1_charAt_3b067_14 : decode cJ1_charAt_3b067 14 = .ok (.ireturn, 1) := by decide +kernel
theorem dJ2_charAt_3b067_0 : decode cJ2_charAt_3b067 0 = .ok (.iload_n 1, 1) := by decide +kernel
theorem dJ2_charAt_3b067_1 : decode cJ2_charAt_3b067 1 = .ok (.aload_n 0, 1) := by decide +kernel
theorem dJ2_charAt_3b067_2 : decode cJ2_charAt_3b067 2 = .ok (.invokestatic 67, 3) := by decide +kernel
theorem dJ2_charAt_3b067_5 : decode cJ2_charAt_3b067 5 = .ok (.aload_n 0, 1) := by decide +kernel
theorem dJ2_charAt_3b067_6 : decode cJ2_charAt_3b067 6 = .ok (.iload_n 1, 1) := by decide +kernel
theorem dJ2_charAt_3b067_7 : decode cJ2_charAt_3b067 7 = .ok (.invokestatic 71, 3) := by decide +kernel
theorem dJ2_charAt_3b067_10 : decode cJ2_charAt_3b067 10 = .ok (.ireturn, 1) := by decide +kernel
theorem dJ2_checkIndex_2214a_0 : decode cJ2_checkIndex_2214a 0 = .ok (.iload_n 0, 1) := by decide +kernel
theorem dJ2_checkIndex_2214a_1 : decode cJ2_checkIndex_2214a 1 = .ok (.aload_n 1, 1) := by decide +kernel
theorem dJ2_checkIndex_2214a_2 : decode cJ2_checkIndex_2214a 2 = .ok (.invokestatic 48, 3) := by decide +kernel
theorem dJ2_checkIndex_2214a_5 : decode cJ2_checkIndex_2214a 5 = .ok (.invokestatic 414, 3) := by decide +kernel
theorem dJ2_checkIndex_2214a_8 : decode cJ2_checkIndex_2214a 8 = .ok (.return_, 1) := by decide +kernel
theorem dJ2_getChar_3b067_0 : decode cJ2_getChar_3b067 0 = .ok (.getstatic 44, 3) := by decide +kernel
theorem dJ2_getChar_3b067_3 : decode cJ2_getChar_3b067 3 = .ok (.ifCond .ne 25, 3) := by decide +kernel
theorem dJ2_getChar_3b067_6 : decode cJ2_getChar_3b067 6 = .ok (.iload_n 1, 1) := by decide +kernel
theorem dJ2_getChar_3b067_7 : decode cJ2_getChar_3b067 7 = .ok (.ifCond .lt 11, 3) := by decide +kernel
theorem dJ2_getChar_3b067_10 : decode cJ2_getChar_3b067 10 = .ok (.iload_n 1, 1) := by decide +kernel
theorem dJ2_getChar_3b067_11 : decode cJ2_getChar_3b067 11 = .ok (.aload_n 0, 1) := by decide +kernel
theorem dJ2_getChar_3b067_12 : decode cJ2_getChar_3b067 12 = .ok (.invokestatic 48, 3) := by decide +kernel
theorem dJ2_getChar_3b067_15 : decode cJ2_getChar_3b067 15 = .ok (.if_icmp .lt 13, 3) := by decide +kernel
theorem dJ2_getChar_3b067_18 : decode cJ2_getChar_3b067 18 = .ok (.new 52, 3) := by decide +kernel
theorem dJ2_getChar_3b067_21 : decode cJ2_getChar_3b067 21 = .ok (.dup, 1) := by decide +kernel
theorem dJ2_getChar_3b067_22 : decode cJ2_getChar_3b067 22 = .ok (.ldc 54, 2) := by decide +kernel
theorem dJ2_getChar_3b067_24 : decode cJ2_getChar_3b067 24 = .ok (.invokespecial 56, 3) := by decide +kernel
theorem dJ2_getChar_3b067_27 : decode cJ2_getChar_3b067 27 = .ok (.athrow, 1) := by decide +kernel
theorem dJ2_getChar_3b067_28 : decode cJ2_getChar_3b067 28 = .ok (.iload_n 1, 1) := by decide +kernel
theorem dJ2_getChar_3b067_29 : decode cJ2_getChar_3b067 29 = .ok (.iconst 1, 1) := by decide +kernel
theorem dJ2_getChar_3b067_30 : decode cJ2_getChar_3b067 30 = .ok (.ishl, 1) := by decide +kernel
theorem dJ2_getChar_3b067_31 : decode cJ2_getChar_3b067 31 = .ok (.istore_n 1, 1) := by decide +kernel
theorem dJ2_getChar_3b067_32 : decode cJ2_getChar_3b067 32 = .ok (.aload_n 0, 1) := by decide +kernel
theorem dJ2_getChar_3b067_33 : decode cJ2_getChar_3b067 33 = .ok (.iload_n 1, 1) := by decide +kernel
theorem dJ2_getChar_3b067_34 : decode cJ2_getChar_3b067 34 = .ok (.iinc 1 1, 3) := by decide +kernel
theorem dJ2_getChar_3b067_37 : decode cJ2_getChar_3b067 37 = .ok (.baload, 1) := by decide +kernel
theorem dJ2_getChar_3b067_38 : decode cJ2_getChar_3b067 38 = .ok (.sipush 255, 3) := by decide +kernel
theorem dJ2_getChar_3b067_41 : decode cJ2_getChar_3b067 41 = .ok (.iand, 1) := by decide +kernel
theorem dJ2_getChar_3b067_42 : decode cJ2_getChar_3b067 42 = .ok (.getstatic 59, 3) := by decide +kernel
theorem dJ2_getChar_3b067_45 : decode cJ2_getChar_3b067 45 = .ok (.ishl, 1) := by decide +kernel
theorem dJ2_getChar_3b067_46 : decode cJ2_getChar_3b067 46 = .ok (.aload_n 0, 1) := by decide +kernel
theorem dJ2_getChar_3b067_47 : decode cJ2_getChar_3b067 47 = .ok (.iload_n 1, 1) := by decide +kernel
theorem dJ2_getChar_3b067_48 : decode cJ2_getChar_3b067 48 = .ok (.baload, 1) := by decide +kernel
theorem dJ2_getChar_3b067_49 : decode cJ2_getChar_3b067 49 = .ok (.sipush 255, 3) := by decide +kernel
theorem dJ2_getChar_3b067_52 : decode cJ2_getChar_3b067 52 = .ok (.iand, 1) := by decide +kernel
theorem dJ2_getChar_3b067_53 : decode cJ2_getChar_3b067 53 = .ok (.getstatic 63, 3) := by decide +kernel
theorem dJ2_getChar_3b067_56 : decode cJ2_getChar_3b067 56 = .ok (.ishl, 1) := by decide +kernel
theorem dJ2_getChar_3b067_57 : decode cJ2_getChar_3b067 57 = .ok (.ior, 1) := by decide +kernel
theorem dJ2_getChar_3b067_58 : decode cJ2_getChar_3b067 58 = .ok (.i2c, 1) := by decide +kernel
theorem dJ2_getChar_3b067_59 : decode cJ2_getChar_3b067 59 = .ok (.ireturn, 1) := by decide +kernel
theorem dJ2_length_9d52b_0 : decode cJ2_length_9d52b 0 = .ok (.aload_n 0, 1) := by decide +kernel
theorem dJ2_length_9d52b_1 : decode cJ2_length_9d52b 1 = .ok (.arraylength, 1) := by decide +kernel
theorem dJ2_length_9d52b_2 : decode cJ2_length_9d52b 2 = .ok (.iconst 1, 1) := by decide +kernel
theorem dJ2_length_9d52b_3 : decode cJ2_length_9d52b 3 = .ok (.ishr, 1) := by decide +kernel
theorem dJ2_length_9d52b_4 : decode cJ2_length_9d52b 4 = .ok (.ireturn, 1) := by decide +kernel
theorem dJ3_checkIndex_8e157_0 : decode cJ3_checkIndex_8e157 0 = .ok (.iload_n 0, 1) := by decide +kernel
theorem dJ3_checkIndex_8e157_1 : decode cJ3_checkIndex_8e157 1 = .ok (.ifCond .lt 8, 3) := by decide +kernel
theorem dJ3_checkIndex_8e157_4 : decode cJ3_checkIndex_8e157 4 = .ok (.iload_n 0, 1) := by decide +kernel
theorem dJ3_checkIndex_8e157_5 : decode cJ3_checkIndex_8e157 5 = .ok (.iload_n 1, 1) := by decide +kernel
theorem dJ3_checkIndex_8e157_6 : decode cJ3_checkIndex_8e157 6 = .ok (.if_icmp .lt 10, 3) := by decide +kernel
theorem dJ3_checkIndex_8e157_9 : decode cJ3_checkIndex_8e157 9 = .ok (.aload_n 2, 1) := by decide +kernel
theorem dJ3_checkIndex_8e157_10 : decode cJ3_checkIndex_8e157 10 = .ok (.iload_n 0, 1) := by decide +kernel
theorem dJ3_checkIndex_8e157_11 : decode cJ3_checkIndex_8e157 11 = .ok (.iload_n 1, 1) := by decide +kernel
theorem dJ3_checkIndex_8e157_12 : decode cJ3_checkIndex_8e157 12 = .ok (.invokestatic 95, 3) := by decide +kernel
theorem dJ3_checkIndex_8e157_15 : decode cJ3_checkIndex_8e157 15 = .ok (.athrow, 1) := by decide +kernel
theorem dJ3_checkIndex_8e157_16 : decode cJ3_checkIndex_8e157 16 = .ok (.iload_n 0, 1) := by decide +kernel
theorem dJ3_checkIndex_8e157_17 : decode cJ3_checkIndex_8e157 17 = .ok (.ireturn, 1) := by decide +kernel
theorem dJ6_bitCount_0f7a4_0 : decode cJ6_bitCount_0f7a4 0 = .ok (.iload_n 0, 1) := by decide +kernel
theorem dJ6_bitCount_0f7a4_1 : decode cJ6_bitCount_0f7a4 1 = .ok (.iload_n 0, 1) := by decide +kernel
theorem dJ6_bitCount_0f7a4_2 : decode cJ6_bitCount_0f7a4 2 = .ok (.iconst 1, 1) := by decide +kernel
theorem dJ6_bitCount_0f7a4_3 : decode cJ6_bitCount_0f7a4 3 = .ok (.iushr, 1) := by decide +kernel
theorem dJ6_bitCount_0f7a4_4 : decode cJ6_bitCount_0f7a4 4 = .ok (.ldc_w 265, 3) := by decide +kernel
theorem dJ6_bitCount_0f7a4_7 : decode cJ6_bitCount_0f7a4 7 = .ok (.iand, 1) := by decide +kernel
theorem dJ6_bitCount_0f7a4_8 : decode cJ6_bitCount_0f7a4 8 = .ok (.isub, 1) := by decide +kernel
theorem dJ6_bitCount_0f7a4_9 : decode cJ6_bitCount_0f7a4 9 = .ok (.istore_n 0, 1) := by decide +kernel
theorem dJ6_bitCount_0f7a4_10 : decode cJ6_bitCount_0f7a4 10 = .ok (.iload_n 0, 1) := by decide +kernel
theorem dJ6_bitCount_0f7a4_11 : decode cJ6_bitCount_0f7a4 11 = .ok (.ldc_w 266, 3) := by decide +kernel
theorem dJ6_bitCount_0f7a4_14 : decode cJ6_bitCount_0f7a4 14 = .ok (.iand, 1) := by decide +kernel
theorem dJ6_bitCount_0f7a4_15 : decode cJ6_bitCount_0f7a4 15 = .ok (.iload_n 0, 1) := by decide +kernel
theorem dJ6_bitCount_0f7a4_16 : decode cJ6_bitCount_0f7a4 16 = .ok (.iconst 2, 1) := by decide +kernel
theorem dJ6_bitCount_0f7a4_17 : decode cJ6_bitCount_0f7a4 17 = .ok (.iushr, 1) := by decide +kernel
theorem dJ6_bitCount_0f7a4_18 : decode cJ6_bitCount_0f7a4 18 = .ok (.ldc_w 266, 3) := by decide +kernel
theorem dJ6_bitCount_0f7a4_21 : decode cJ6_bitCount_0f7a4 21 = .ok (.iand, 1) := by decide +kernel
theorem dJ6_bitCount_0f7a4_22 : decode cJ6_bitCount_0f7a4 22 = .ok (.iadd, 1) := by decide +kernel
theorem dJ6_bitCount_0f7a4_23 : decode cJ6_bitCount_0f7a4 23 = .ok (.istore_n 0, 1) := by decide +kernel
theorem dJ6_bitCount_0f7a4_24 : decode cJ6_bitCount_0f7a4 24 = .ok (.iload_n 0, 1) := by decide +kernel
theorem dJ6_bitCount_0f7a4_25 : decode cJ6_bitCount_0f7a4 25 = .ok (.iload_n 0, 1) := by decide +kernel
theorem dJ6_bitCount_0f7a4_26 : decode cJ6_bitCount_0f7a4 26 = .ok (.iconst 4, 1) := by decide +kernel
theorem dJ6_bitCount_0f7a4_27 : decode cJ6_bitCount_0f7a4 27 = .ok (.iushr, 1) := by decide +kernel
theorem dJ6_bitCount_0f7a4_28 : decode cJ6_bitCount_0f7a4 28 = .ok (.iadd, 1) := by decide +kernel
theorem dJ6_bitCount_0f7a4_29 : decode cJ6_bitCount_0f7a4 29 = .ok (.ldc_w 267, 3) := by decide +kernel
theorem dJ6_bitCount_0f7a4_32 : decode cJ6_bitCount_0f7a4 32 = .ok (.iand, 1) := by decide +kernel
theorem dJ6_bitCount_0f7a4_33 : decode cJ6_bitCount_0f7a4 33 = .ok (.istore_n 0, 1) := by decide +kernel
theorem dJ6_bitCount_0f7a4_34 : decode cJ6_bitCount_0f7a4 34 = .ok (.iload_n 0, 1) := by decide +kernel
theorem dJ6_bitCount_0f7a4_35 : decode cJ6_bitCount_0f7a4 35 = .ok (.iload_n 0, 1) := by decide +kernel
theorem dJ6_bitCount_0f7a4_36 : decode cJ6_bitCount_0f7a4 36 = .ok (.bipush 8, 2) := by decide +kernel
theorem dJ6_bitCount_0f7a4_38 : decode cJ6_bitCount_0f7a4 38 = .ok (.iushr, 1) := by decide +kernel
theorem dJ6_bitCount_0f7a4_39 : decode cJ6_bitCount_0f7a4 39 = .ok (.iadd, 1) := by decide +kernel
theorem dJ6_bitCount_0f7a4_40 : decode cJ6_bitCount_0f7a4 40 = .ok (.istore_n 0, 1) := by decide +kernel
theorem dJ6_bitCount_0f7a4_41 : decode cJ6_bitCount_0f7a4 41 = .ok (.iload_n 0, 1) := by decide +kernel
theorem dJ6_bitCount_0f7a4_42 : decode cJ6_bitCount_0f7a4 42 = .ok (.iload_n 0, 1) := by decide +kernel
theorem dJ6_bitCount_0f7a4_43 : decode cJ6_bitCount_0f7a4 43 = .ok (.bipush 16, 2) := by decide +kernel
theorem dJ6_bitCount_0f7a4_45 : decode cJ6_bitCount_0f7a4 45 = .ok (.iushr, 1) := by decide +kernel
theorem dJ6_bitCount_0f7a4_46 : decode cJ6_bitCount_0f7a4 46 = .ok (.iadd, 1) := by decide +kernel
theorem dJ6_bitCount_0f7a4_47 : decode cJ6_bitCount_0f7a4 47 = .ok (.istore_n 0, 1) := by decide +kernel
theorem dJ6_bitCount_0f7a4_48 : decode cJ6_bitCount_0f7a4 48 = .ok (.iload_n 0, 1) := by decide +kernel
theorem dJ6_bitCount_0f7a4_49 : decode cJ6_bitCount_0f7a4 49 = .ok (.bipush 63, 2) := by decide +kernel
theorem dJ6_bitCount_0f7a4_51 : decode cJ6_bitCount_0f7a4 51 = .ok (.iand, 1) := by decide +kernel
theorem dJ6_bitCount_0f7a4_52 : decode cJ6_bitCount_0f7a4 52 = .ok (.ireturn, 1) := by decide +kernel
theorem dJ7_fill_53178_0 : decode cJ7_fill_53178 0 = .ok (.iconst 0, 1) := by decide +kernel
theorem dJ7_fill_53178_1 : decode cJ7_fill_53178 1 = .ok (.istore_n 2, 1) := by decide +kernel
theorem dJ7_fill_53178_2 : decode cJ7_fill_53178 2 = .ok (.aload_n 0, 1) := by decide +kernel
theorem dJ7_fill_53178_3 : decode cJ7_fill_53178 3 = .ok (.arraylength, 1) := by decide +kernel
theorem dJ7_fill_53178_4 : decode cJ7_fill_53178 4 = .ok (.istore_n 3, 1) := by decide +kernel
theorem dJ7_fill_53178_5 : decode cJ7_fill_53178 5 = .ok (.iload_n 2, 1) := by decide +kernel
theorem dJ7_fill_53178_6 : decode cJ7_fill_53178 6 = .ok (.iload_n 3, 1) := by decide +kernel
theorem dJ7_fill_53178_7 : decode cJ7_fill_53178 7 = .ok (.if_icmp .ge 13, 3) := by decide +kernel
theorem dJ7_fill_53178_10 : decode cJ7_fill_53178 10 = .ok (.aload_n 0, 1) := by decide +kernel
theorem dJ7_fill_53178_11 : decode cJ7_fill_53178 11 = .ok (.iload_n 2, 1) := by decide +kernel
theorem dJ7_fill_53178_12 : decode cJ7_fill_53178 12 = .ok (.iload_n 1, 1) := by decide +kernel
theorem dJ7_fill_53178_13 : decode cJ7_fill_53178 13 = .ok (.iastore, 1) := by decide +kernel
theorem dJ7_fill_53178_14 : decode cJ7_fill_53178 14 = .ok (.iinc 2 1, 3) := by decide +kernel
theorem dJ7_fill_53178_17 : decode cJ7_fill_53178 17 = .ok (.goto (-12), 3) := by decide +kernel
theorem dJ7_fill_53178_20 : decode cJ7_fill_53178 20 = .ok (.return_, 1) := by decide +kernel
theorem dJ9_floorMod_7cf53_0 : decode cJ9_floorMod_7cf53 0 = .ok (.iload_n 0, 1) := by decide +kernel
theorem dJ9_floorMod_7cf53_1 : decode cJ9_floorMod_7cf53 1 = .ok (.iload_n 1, 1) := by decide +kernel
theorem dJ9_floorMod_7cf53_2 : decode cJ9_floorMod_7cf53 2 = .ok (.irem, 1) := by decide +kernel
theorem dJ9_floorMod_7cf53_3 : decode cJ9_floorMod_7cf53 3 = .ok (.istore_n 2, 1) := by decide +kernel
theorem dJ9_floorMod_7cf53_4 : decode cJ9_floorMod_7cf53 4 = .ok (.iload_n 0, 1) := by decide +kernel
theorem dJ9_floorMod_7cf53_5 : decode cJ9_floorMod_7cf53 5 = .ok (.iload_n 1, 1) := by decide +kernel
theorem dJ9_floorMod_7cf53_6 : decode cJ9_floorMod_7cf53 6 = .ok (.ixor, 1) := by decide +kernel
theorem dJ9_floorMod_7cf53_7 : decode cJ9_floorMod_7cf53 7 = .ok (.ifCond .ge 11, 3) := by decide +kernel
theorem dJ9_floorMod_7cf53_10 : decode cJ9_floorMod_7cf53 10 = .ok (.iload_n 2, 1) := by decide +kernel
theorem dJ9_floorMod_7cf53_11 : decode cJ9_floorMod_7cf53 11 = .ok (.ifCond .eq 7, 3) := by decide +kernel
theorem dJ9_floorMod_7cf53_14 : decode cJ9_floorMod_7cf53 14 = .ok (.iload_n 2, 1) := by decide +kernel
theorem dJ9_floorMod_7cf53_15 : decode cJ9_floorMod_7cf53 15 = .ok (.iload_n 1, 1) := by decide +kernel
theorem dJ9_floorMod_7cf53_16 : decode cJ9_floorMod_7cf53 16 = .ok (.iadd, 1) := by decide +kernel
theorem dJ9_floorMod_7cf53_17 : decode cJ9_floorMod_7cf53 17 = .ok (.ireturn, 1) := by decide +kernel
theorem dJ9_floorMod_7cf53_18 : decode cJ9_floorMod_7cf53 18 = .ok (.iload_n 2, 1) := by decide +kernel
theorem dJ9_floorMod_7cf53_19 : decode cJ9_floorMod_7cf53 19 = .ok (.ireturn, 1) := by decide +kernel
theorem dJ9_max_7cf53_0 : decode cJ9_max_7cf53 0 = .ok (.iload_n 0, 1) := by decide +kernel
theorem dJ9_max_7cf53_1 : decode cJ9_max_7cf53 1 = .ok (.iload_n 1, 1) := by decide +kernel
theorem dJ9_max_7cf53_2 : decode cJ9_max_7cf53 2 = .ok (.if_icmp .lt 7, 3) := by decide +kernel
theorem dJ9_max_7cf53_5 : decode cJ9_max_7cf53 5 = .ok (.iload_n 0, 1) := by decide +kernel
theorem dJ9_max_7cf53_6 : decode cJ9_max_7cf53 6 = .ok (.goto 4, 3) := by decide +kernel
theorem dJ9_max_7cf53_9 : decode cJ9_max_7cf53 9 = .ok (.iload_n 1, 1) := by decide +kernel
theorem dJ9_max_7cf53_10 : decode cJ9_max_7cf53 10 = .ok (.ireturn, 1) := by decide +kernel
theorem dJ9_min_7cf53_0 : decode cJ9_min_7cf53 0 = .ok (.iload_n 0, 1) := by decide +kernel
theorem dJ9_min_7cf53_1 : decode cJ9_min_7cf53 1 = .ok (.iload_n 1, 1) := by decide +kernel
theorem dJ9_min_7cf53_2 : decode cJ9_min_7cf53 2 = .ok (.if_icmp .gt 7, 3) := by decide +kernel
theorem dJ9_min_7cf53_5 : decode cJ9_min_7cf53 5 = .ok (.iload_n 0, 1) := by decide +kernel
theorem dJ9_min_7cf53_6 : decode cJ9_min_7cf53 6 = .ok (.goto 4, 3) := by decide +kernel
theorem dJ9_min_7cf53_9 : decode cJ9_min_7cf53 9 = .ok (.iload_n 1, 1) := by decide +kernel
theorem dJ9_min_7cf53_10 : decode cJ9_min_7cf53 10 = .ok (.ireturn, 1) := by decide +kernel
theorem dX0_bestDeal_0 : decode cX0_bestDeal 0 = .ok (.aload_n 0, 1) := by decide +kernel
theorem dX0_bestDeal_1 : decode cX0_bestDeal 1 = .ok (.invokevirtual 29, 3) := by decide +kernel
theorem dX0_bestDeal_4 : decode cX0_bestDeal 4 = .ok (.iconst 0, 1) := by decide +kernel
theorem dX0_bestDeal_5 : decode cX0_bestDeal 5 = .ok (.istore_n 1, 1) := by decide +kernel
theorem dX0_bestDeal_6 : decode cX0_bestDeal 6 = .ok (.iconst 0, 1) := by decide +kernel
theorem dX0_bestDeal_7 : decode cX0_bestDeal 7 = .ok (.istore_n 2, 1) := by decide +kernel
theorem dX0_bestDeal_8 : decode cX0_bestDeal 8 = .ok (.iload_n 2, 1) := by decide +kernel
theorem dX0_bestDeal_9 : decode cX0_bestDeal 9 = .ok (.aload_n 0, 1) := by decide +kernel
theorem dX0_bestDeal_10 : decode cX0_bestDeal 10 = .ok (.getfield 32, 3) := by decide +kernel
theorem dX0_bestDeal_13 : decode cX0_bestDeal 13 = .ok (.if_icmp .ge 48, 3) := by decide +kernel
theorem dX0_bestDeal_16 : decode cX0_bestDeal 16 = .ok (.aload_n 0, 1) := by decide +kernel
theorem dX0_bestDeal_17 : decode cX0_bestDeal 17 = .ok (.iload_n 2, 1) := by decide +kernel
theorem dX0_bestDeal_18 : decode cX0_bestDeal 18 = .ok (.invokevirtual 50, 3) := by decide +kernel
theorem dX0_bestDeal_21 : decode cX0_bestDeal 21 = .ok (.ifCond .eq 34, 3) := by decide +kernel
theorem dX0_bestDeal_24 : decode cX0_bestDeal 24 = .ok (.aload_n 0, 1) := by decide +kernel
theorem dX0_bestDeal_25 : decode cX0_bestDeal 25 = .ok (.getfield 19, 3) := by decide +kernel
theorem dX0_bestDeal_28 : decode cX0_bestDeal 28 = .ok (.iload_n 2, 1) := by decide +kernel
theorem dX0_bestDeal_29 : decode cX0_bestDeal 29 = .ok (.iaload, 1) := by decide +kernel
theorem dX0_bestDeal_30 : decode cX0_bestDeal 30 = .ok (.aload_n 0, 1) := by decide +kernel
theorem dX0_bestDeal_31 : decode cX0_bestDeal 31 = .ok (.getfield 22, 3) := by decide +kernel
theorem dX0_bestDeal_34 : decode cX0_bestDeal 34 = .ok (.iload_n 2, 1) := by decide +kernel
theorem dX0_bestDeal_35 : decode cX0_bestDeal 35 = .ok (.iaload, 1) := by decide +kernel
theorem dX0_bestDeal_36 : decode cX0_bestDeal 36 = .ok (.imul, 1) := by decide +kernel
theorem dX0_bestDeal_37 : decode cX0_bestDeal 37 = .ok (.aload_n 0, 1) := by decide +kernel
theorem dX0_bestDeal_38 : decode cX0_bestDeal 38 = .ok (.getfield 19, 3) := by decide +kernel
theorem dX0_bestDeal_41 : decode cX0_bestDeal 41 = .ok (.iload_n 1, 1) := by decide +kernel
theorem dX0_bestDeal_42 : decode cX0_bestDeal 42 = .ok (.iaload, 1) := by decide +kernel
theorem dX0_bestDeal_43 : decode cX0_bestDeal 43 = .ok (.aload_n 0, 1) := by decide +kernel
theorem dX0_bestDeal_44 : decode cX0_bestDeal 44 = .ok (.getfield 22, 3) := by decide +kernel
theorem dX0_bestDeal_47 : decode cX0_bestDeal 47 = .ok (.iload_n 1, 1) := by decide +kernel
theorem dX0_bestDeal_48 : decode cX0_bestDeal 48 = .ok (.iaload, 1) := by decide +kernel
theorem dX0_bestDeal_49 : decode cX0_bestDeal 49 = .ok (.imul, 1) := by decide +kernel
theorem dX0_bestDeal_50 : decode cX0_bestDeal 50 = .ok (.if_icmp .le 5, 3) := by decide +kernel
theorem dX0_bestDeal_53 : decode cX0_bestDeal 53 = .ok (.iload_n 2, 1) := by decide +kernel
theorem dX0_bestDeal_54 : decode cX0_bestDeal 54 = .ok (.istore_n 1, 1) := by decide +kernel
theorem dX0_bestDeal_55 : decode cX0_bestDeal 55 = .ok (.iinc 2 1, 3) := by decide +kernel
theorem dX0_bestDeal_58 : decode cX0_bestDeal 58 = .ok (.goto (-50), 3) := by decide +kernel
theorem dX0_bestDeal_61 : decode cX0_bestDeal 61 = .ok (.iload_n 1, 1) := by decide +kernel
theorem dX0_bestDeal_62 : decode cX0_bestDeal 62 = .ok (.ireturn, 1) := by decide +kernel
theorem dX0_findBundles_0 : decode cX0_findBundles 0 = .ok (.aload_n 0, 1) := by decide +kernel
theorem dX0_findBundles_1 : decode cX0_findBundles 1 = .ok (.invokevirtual 29, 3) := by decide +kernel
theorem dX0_findBundles_4 : decode cX0_findBundles 4 = .ok (.aload_n 0, 1) := by decide +kernel
theorem dX0_findBundles_5 : decode cX0_findBundles 5 = .ok (.iconst 0, 1) := by decide +kernel
theorem dX0_findBundles_6 : decode cX0_findBundles 6 = .ok (.putfield 66, 3) := by decide +kernel
theorem dX0_findBundles_9 : decode cX0_findBundles 9 = .ok (.aload_n 0, 1) := by decide +kernel
theorem dX0_findBundles_10 : decode cX0_findBundles 10 = .ok (.iconst (-1), 1) := by decide +kernel
theorem dX0_findBundles_11 : decode cX0_findBundles 11 = .ok (.putfield 9, 3) := by decide +kernel
theorem dX0_findBundles_14 : decode cX0_findBundles 14 = .ok (.iconst 0, 1) := by decide +kernel
theorem dX0_findBundles_15 : decode cX0_findBundles 15 = .ok (.istore_n 1, 1) := by decide +kernel
theorem dX0_findBundles_16 : decode cX0_findBundles 16 = .ok (.iload_n 1, 1) := by decide +kernel
theorem dX0_findBundles_17 : decode cX0_findBundles 17 = .ok (.aload_n 0, 1) := by decide +kernel
theorem dX0_findBundles_18 : decode cX0_findBundles 18 = .ok (.getfield 25, 3) := by decide +kernel
theorem dX0_findBundles_21 : decode cX0_findBundles 21 = .ok (.getfield 69, 3) := by decide +kernel
theorem dX0_findBundles_24 : decode cX0_findBundles 24 = .ok (.if_icmp .ge 99, 3) := by decide +kernel
theorem dX0_findBundles_27 : decode cX0_findBundles 27 = .ok (.iload_n 1, 1) := by decide +kernel
theorem dX0_findBundles_28 : decode cX0_findBundles 28 = .ok (.iconst 1, 1) := by decide +kernel
theorem dX0_findBundles_29 : decode cX0_findBundles 29 = .ok (.iadd, 1) := by decide +kernel
theorem dX0_findBundles_30 : decode cX0_findBundles 30 = .ok (.istore_n 2, 1) := by decide +kernel
theorem dX0_findBundles_31 : decode cX0_findBundles 31 = .ok (.iload_n 2, 1) := by decide +kernel
theorem dX0_findBundles_32 : decode cX0_findBundles 32 = .ok (.aload_n 0, 1) := by decide +kernel
theorem dX0_findBundles_33 : decode cX0_findBundles 33 = .ok (.getfield 25, 3) := by decide +kernel
theorem dX0_findBundles_36 : decode cX0_findBundles 36 = .ok (.getfield 69, 3) := by decide +kernel
theorem dX0_findBundles_39 : decode cX0_findBundles 39 = .ok (.if_icmp .ge 78, 3) := by decide +kernel
theorem dX0_findBundles_42 : decode cX0_findBundles 42 = .ok (.aload_n 0, 1) := by decide +kernel
theorem dX0_findBundles_43 : decode cX0_findBundles 43 = .ok (.iconst 1, 1) := by decide +kernel
theorem dX0_findBundles_44 : decode cX0_findBundles 44 = .ok (.iload_n 1, 1) := by decide +kernel
theorem dX0_findBundles_45 : decode cX0_findBundles 45 = .ok (.ishl, 1) := by decide +kernel
theorem dX0_findBundles_46 : decode cX0_findBundles 46 = .ok (.iconst 1, 1) := by decide +kernel
theorem dX0_findBundles_47 : decode cX0_findBundles 47 = .ok (.iload_n 2, 1) := by decide +kernel
theorem dX0_findBundles_48 : decode cX0_findBundles 48 = .ok (.ishl, 1) := by decide +kernel
theorem dX0_findBundles_49 : decode cX0_findBundles 49 = .ok (.ior, 1) := by decide +kernel
theorem dX0_findBundles_50 : decode cX0_findBundles 50 = .ok (.invokevirtual 50, 3) := by decide +kernel
theorem dX0_findBundles_53 : decode cX0_findBundles 53 = .ok (.ifCond .eq 58, 3) := by decide +kernel
theorem dX0_findBundles_56 : decode cX0_findBundles 56 = .ok (.aload_n 0, 1) := by decide +kernel
theorem dX0_findBundles_57 : decode cX0_findBundles 57 = .ok (.iconst 1, 1) := by decide +kernel
theorem dX0_findBundles_58 : decode cX0_findBundles 58 = .ok (.iload_n 1, 1) := by decide +kernel
theorem dX0_findBundles_59 : decode cX0_findBundles 59 = .ok (.ishl, 1) := by decide +kernel
theorem dX0_findBundles_60 : decode cX0_findBundles 60 = .ok (.invokevirtual 50, 3) := by decide +kernel
theorem dX0_findBundles_63 : decode cX0_findBundles 63 = .ok (.ifCond .ne 48, 3) := by decide +kernel
theorem dX0_findBundles_66 : decode cX0_findBundles 66 = .ok (.aload_n 0, 1) := by decide +kernel
theorem dX0_findBundles_67 : decode cX0_findBundles 67 = .ok (.iconst 1, 1) := by decide +kernel
theorem dX0_findBundles_68 : decode cX0_findBundles 68 = .ok (.iload_n 2, 1) := by decide +kernel
theorem dX0_findBundles_69 : decode cX0_findBundles 69 = .ok (.ishl, 1) := by decide +kernel
theorem dX0_findBundles_70 : decode cX0_findBundles 70 = .ok (.invokevirtual 50, 3) := by decide +kernel
theorem dX0_findBundles_73 : decode cX0_findBundles 73 = .ok (.ifCond .ne 38, 3) := by decide +kernel
theorem dX0_findBundles_76 : decode cX0_findBundles 76 = .ok (.aload_n 0, 1) := by decide +kernel
theorem dX0_findBundles_77 : decode cX0_findBundles 77 = .ok (.dup, 1) := by decide +kernel
theorem dX0_findBundles_78 : decode cX0_findBundles 78 = .ok (.getfield 66, 3) := by decide +kernel
theorem dX0_findBundles_81 : decode cX0_findBundles 81 = .ok (.iconst 1, 1) := by decide +kernel
theorem dX0_findBundles_82 : decode cX0_findBundles 82 = .ok (.iadd, 1) := by decide +kernel
theorem dX0_findBundles_83 : decode cX0_findBundles 83 = .ok (.putfield 66, 3) := by decide +kernel
theorem dX0_findBundles_86 : decode cX0_findBundles 86 = .ok (.aload_n 0, 1) := by decide +kernel
theorem dX0_findBundles_87 : decode cX0_findBundles 87 = .ok (.aload_n 0, 1) := by decide +kernel
theorem dX0_findBundles_88 : decode cX0_findBundles 88 = .ok (.getfield 9, 3) := by decide +kernel
theorem dX0_findBundles_91 : decode cX0_findBundles 91 = .ok (.iconst (-1), 1) := by decide +kernel
theorem dX0_findBundles_92 : decode cX0_findBundles 92 = .ok (.if_icmp .ne 12, 3) := by decide +kernel
theorem dX0_findBundles_95 : decode cX0_findBundles 95 = .ok (.bipush 10, 2) := by decide +kernel
theorem dX0_findBundles_97 : decode cX0_findBundles 97 = .ok (.iload_n 1, 1) := by decide +kernel
theorem dX0_findBundles_98 : decode cX0_findBundles 98 = .ok (.imul, 1) := by decide +kernel
theorem dX0_findBundles_99 : decode cX0_findBundles 99 = .ok (.iload_n 2, 1) := by decide +kernel
theorem dX0_findBundles_100 : decode cX0_findBundles 100 = .ok (.iadd, 1) := by decide +kernel
theorem dX0_findBundles_101 : decode cX0_findBundles 101 = .ok (.goto 7, 3) := by decide +kernel
theorem dX0_findBundles_104 : decode cX0_findBundles 104 = .ok (.aload_n 0, 1) := by decide +kernel
theorem dX0_findBundles_105 : decode cX0_findBundles 105 = .ok (.getfield 9, 3) := by decide +kernel
theorem dX0_findBundles_108 : decode cX0_findBundles 108 = .ok (.putfield 9, 3) := by decide +kernel
theorem dX0_findBundles_111 : decode cX0_findBundles 111 = .ok (.iinc 2 1, 3) := by decide +kernel
theorem dX0_findBundles_114 : decode cX0_findBundles 114 = .ok (.goto (-83), 3) := by decide +kernel
theorem dX0_findBundles_117 : decode cX0_findBundles 117 = .ok (.iinc 1 1, 3) := by decide +kernel
theorem dX0_findBundles_120 : decode cX0_findBundles 120 = .ok (.goto (-104), 3) := by decide +kernel
theorem dX0_findBundles_123 : decode cX0_findBundles 123 = .ok (.return_, 1) := by decide +kernel
theorem dX0_firmSets_0 : decode cX0_firmSets 0 = .ok (.aload_n 0, 1) := by decide +kernel
theorem dX0_firmSets_1 : decode cX0_firmSets 1 = .ok (.invokevirtual 29, 3) := by decide +kernel
theorem dX0_firmSets_4 : decode cX0_firmSets 4 = .ok (.iconst 0, 1) := by decide +kernel
theorem dX0_firmSets_5 : decode cX0_firmSets 5 = .ok (.istore_n 1, 1) := by decide +kernel
theorem dX0_firmSets_6 : decode cX0_firmSets 6 = .ok (.iconst 0, 1) := by decide +kernel
theorem dX0_firmSets_7 : decode cX0_firmSets 7 = .ok (.istore_n 2, 1) := by decide +kernel
theorem dX0_firmSets_8 : decode cX0_firmSets 8 = .ok (.iload_n 2, 1) := by decide +kernel
theorem dX0_firmSets_9 : decode cX0_firmSets 9 = .ok (.aload_n 0, 1) := by decide +kernel
theorem dX0_firmSets_10 : decode cX0_firmSets 10 = .ok (.getfield 32, 3) := by decide +kernel
theorem dX0_firmSets_13 : decode cX0_firmSets 13 = .ok (.if_icmp .ge 20, 3) := by decide +kernel
theorem dX0_firmSets_16 : decode cX0_firmSets 16 = .ok (.aload_n 0, 1) := by decide +kernel
theorem dX0_firmSets_17 : decode cX0_firmSets 17 = .ok (.iload_n 2, 1) := by decide +kernel
theorem dX0_firmSets_18 : decode cX0_firmSets 18 = .ok (.invokevirtual 72, 3) := by decide +kernel
theorem dX0_firmSets_21 : decode cX0_firmSets 21 = .ok (.ifCond .eq 6, 3) := by decide +kernel
theorem dX0_firmSets_24 : decode cX0_firmSets 24 = .ok (.iinc 1 1, 3) := by decide +kernel
theorem dX0_firmSets_27 : decode cX0_firmSets 27 = .ok (.iinc 2 1, 3) := by decide +kernel
theorem dX0_firmSets_30 : decode cX0_firmSets 30 = .ok (.goto (-22), 3) := by decide +kernel
theorem dX0_firmSets_33 : decode cX0_firmSets 33 = .ok (.iload_n 1, 1) := by decide +kernel
theorem dX0_firmSets_34 : decode cX0_firmSets 34 = .ok (.ireturn, 1) := by decide +kernel
theorem dX0_greatestLesser_0 : decode cX0_greatestLesser 0 = .ok (.aload_n 0, 1) := by decide +kernel
theorem dX0_greatestLesser_1 : decode cX0_greatestLesser 1 = .ok (.invokevirtual 29, 3) := by decide +kernel
theorem dX0_greatestLesser_4 : decode cX0_greatestLesser 4 = .ok (.iconst 0, 1) := by decide +kernel
theorem dX0_greatestLesser_5 : decode cX0_greatestLesser 5 = .ok (.istore_n 1, 1) := by decide +kernel
theorem dX0_greatestLesser_6 : decode cX0_greatestLesser 6 = .ok (.iconst 0, 1) := by decide +kernel
theorem dX0_greatestLesser_7 : decode cX0_greatestLesser 7 = .ok (.istore_n 2, 1) := by decide +kernel
theorem dX0_greatestLesser_8 : decode cX0_greatestLesser 8 = .ok (.iload_n 2, 1) := by decide +kernel
theorem dX0_greatestLesser_9 : decode cX0_greatestLesser 9 = .ok (.aload_n 0, 1) := by decide +kernel
theorem dX0_greatestLesser_10 : decode cX0_greatestLesser 10 = .ok (.getfield 32, 3) := by decide +kernel
theorem dX0_greatestLesser_13 : decode cX0_greatestLesser 13 = .ok (.if_icmp .ge 29, 3) := by decide +kernel
theorem dX0_greatestLesser_16 : decode cX0_greatestLesser 16 = .ok (.iload_n 1, 1) := by decide +kernel
theorem dX0_greatestLesser_17 : decode cX0_greatestLesser 17 = .ok (.aload_n 0, 1) := by decide +kernel
theorem dX0_greatestLesser_18 : decode cX0_greatestLesser 18 = .ok (.getfield 19, 3) := by decide +kernel
theorem dX0_greatestLesser_21 : decode cX0_greatestLesser 21 = .ok (.iload_n 2, 1) := by decide +kernel
theorem dX0_greatestLesser_22 : decode cX0_greatestLesser 22 = .ok (.iaload, 1) := by decide +kernel
theorem dX0_greatestLesser_23 : decode cX0_greatestLesser 23 = .ok (.aload_n 0, 1) := by decide +kernel
theorem dX0_greatestLesser_24 : decode cX0_greatestLesser 24 = .ok (.getfield 22, 3) := by decide +kernel
theorem dX0_greatestLesser_27 : decode cX0_greatestLesser 27 = .ok (.iload_n 2, 1) := by decide +kernel
theorem dX0_greatestLesser_28 : decode cX0_greatestLesser 28 = .ok (.iaload, 1) := by decide +kernel
theorem dX0_greatestLesser_29 : decode cX0_greatestLesser 29 = .ok (.invokestatic 54, 3) := by decide +kernel
theorem dX0_greatestLesser_32 : decode cX0_greatestLesser 32 = .ok (.invokestatic 59, 3) := by decide +kernel
theorem dX0_greatestLesser_35 : decode cX0_greatestLesser 35 = .ok (.istore_n 1, 1) := by decide +kernel
theorem dX0_greatestLesser_36 : decode cX0_greatestLesser 36 = .ok (.iinc 2 1, 3) := by decide +kernel
theorem dX0_greatestLesser_39 : decode cX0_greatestLesser 39 = .ok (.goto (-31), 3) := by decide +kernel
theorem dX0_greatestLesser_42 : decode cX0_greatestLesser 42 = .ok (.iload_n 1, 1) := by decide +kernel
theorem dX0_greatestLesser_43 : decode cX0_greatestLesser 43 = .ok (.ireturn, 1) := by decide +kernel
theorem dX0_init_0 : decode cX0_init 0 = .ok (.aload_n 0, 1) := by decide +kernel
theorem dX0_init_1 : decode cX0_init 1 = .ok (.invokespecial 3, 3) := by decide +kernel
theorem dX0_init_4 : decode cX0_init 4 = .ok (.aload_n 0, 1) := by decide +kernel
theorem dX0_init_5 : decode cX0_init 5 = .ok (.iconst (-1), 1) := by decide +kernel
theorem dX0_init_6 : decode cX0_init 6 = .ok (.putfield 9, 3) := by decide +kernel
theorem dX0_init_9 : decode cX0_init 9 = .ok (.aload_n 0, 1) := by decide +kernel
theorem dX0_init_10 : decode cX0_init 10 = .ok (.sipush 128, 3) := by decide +kernel
theorem dX0_init_13 : decode cX0_init 13 = .ok (.newarray .int, 2) := by decide +kernel
theorem dX0_init_15 : decode cX0_init 15 = .ok (.putfield 15, 3) := by decide +kernel
theorem dX0_init_18 : decode cX0_init 18 = .ok (.aload_n 0, 1) := by decide +kernel
theorem dX0_init_19 : decode cX0_init 19 = .ok (.sipush 128, 3) := by decide +kernel
theorem dX0_init_22 : decode cX0_init 22 = .ok (.newarray .int, 2) := by decide +kernel
theorem dX0_init_24 : decode cX0_init 24 = .ok (.putfield 19, 3) := by decide +kernel
theorem dX0_init_27 : decode cX0_init 27 = .ok (.aload_n 0, 1) := by decide +kernel
theorem dX0_init_28 : decode cX0_init 28 = .ok (.sipush 128, 3) := by decide +kernel
theorem dX0_init_31 : decode cX0_init 31 = .ok (.newarray .int, 2) := by decide +kernel
theorem dX0_init_33 : decode cX0_init 33 = .ok (.putfield 22, 3) := by decide +kernel
theorem dX0_init_36 : decode cX0_init 36 = .ok (.aload_n 0, 1) := by decide +kernel
theorem dX0_init_37 : decode cX0_init 37 = .ok (.aload_n 1, 1) := by decide +kernel
theorem dX0_init_38 : decode cX0_init 38 = .ok (.putfield 25, 3) := by decide +kernel
theorem dX0_init_41 : decode cX0_init 41 = .ok (.return_, 1) := by decide +kernel
theorem dX0_isFirm_0 : decode cX0_isFirm 0 = .ok (.iconst 0, 1) := by decide +kernel
theorem dX0_isFirm_1 : decode cX0_isFirm 1 = .ok (.istore_n 2, 1) := by decide +kernel
theorem dX0_isFirm_2 : decode cX0_isFirm 2 = .ok (.iload_n 2, 1) := by decide +kernel
theorem dX0_isFirm_3 : decode cX0_isFirm 3 = .ok (.aload_n 0, 1) := by decide +kernel
theorem dX0_isFirm_4 : decode cX0_isFirm 4 = .ok (.getfield 32, 3) := by decide +kernel
theorem dX0_isFirm_7 : decode cX0_isFirm 7 = .ok (.if_icmp .ge 81, 3) := by decide +kernel
theorem dX0_isFirm_10 : decode cX0_isFirm 10 = .ok (.aload_n 0, 1) := by decide +kernel
theorem dX0_isFirm_11 : decode cX0_isFirm 11 = .ok (.getfield 19, 3) := by decide +kernel
theorem dX0_isFirm_14 : decode cX0_isFirm 14 = .ok (.iload_n 2, 1) := by decide +kernel
theorem dX0_isFirm_15 : decode cX0_isFirm 15 = .ok (.iaload, 1) := by decide +kernel
theorem dX0_isFirm_16 : decode cX0_isFirm 16 = .ok (.aload_n 0, 1) := by decide +kernel
theorem dX0_isFirm_17 : decode cX0_isFirm 17 = .ok (.getfield 19, 3) := by decide +kernel
theorem dX0_isFirm_20 : decode cX0_isFirm 20 = .ok (.iload_n 1, 1) := by decide +kernel
theorem dX0_isFirm_21 : decode cX0_isFirm 21 = .ok (.iaload, 1) := by decide +kernel
theorem dX0_isFirm_22 : decode cX0_isFirm 22 = .ok (.if_icmp .lt 22, 3) := by decide +kernel
theorem dX0_isFirm_25 : decode cX0_isFirm 25 = .ok (.aload_n 0, 1) := by decide +kernel
theorem dX0_isFirm_26 : decode cX0_isFirm 26 = .ok (.getfield 22, 3) := by decide +kernel
theorem dX0_isFirm_29 : decode cX0_isFirm 29 = .ok (.iload_n 2, 1) := by decide +kernel
theorem dX0_isFirm_30 : decode cX0_isFirm 30 = .ok (.iaload, 1) := by decide +kernel
theorem dX0_isFirm_31 : decode cX0_isFirm 31 = .ok (.aload_n 0, 1) := by decide +kernel
theorem dX0_isFirm_32 : decode cX0_isFirm 32 = .ok (.getfield 22, 3) := by decide +kernel
theorem dX0_isFirm_35 : decode cX0_isFirm 35 = .ok (.iload_n 1, 1) := by decide +kernel
theorem dX0_isFirm_36 : decode cX0_isFirm 36 = .ok (.iaload, 1) := by decide +kernel
theorem dX0_isFirm_37 : decode cX0_isFirm 37 = .ok (.if_icmp .lt 7, 3) := by decide +kernel
theorem dX0_isFirm_40 : decode cX0_isFirm 40 = .ok (.iconst 1, 1) := by decide +kernel
theorem dX0_isFirm_41 : decode cX0_isFirm 41 = .ok (.goto 4, 3) := by decide +kernel
theorem dX0_isFirm_44 : decode cX0_isFirm 44 = .ok (.iconst 0, 1) := by decide +kernel
theorem dX0_isFirm_45 : decode cX0_isFirm 45 = .ok (.istore_n 3, 1) := by decide +kernel
theorem dX0_isFirm_46 : decode cX0_isFirm 46 = .ok (.iload_n 3, 1) := by decide +kernel
theorem dX0_isFirm_47 : decode cX0_isFirm 47 = .ok (.ifCond .eq 35, 3) := by decide +kernel
theorem dX0_isFirm_50 : decode cX0_isFirm 50 = .ok (.aload_n 0, 1) := by decide +kernel
theorem dX0_isFirm_51 : decode cX0_isFirm 51 = .ok (.getfield 19, 3) := by decide +kernel
theorem dX0_isFirm_54 : decode cX0_isFirm 54 = .ok (.iload_n 2, 1) := by decide +kernel
theorem dX0_isFirm_55 : decode cX0_isFirm 55 = .ok (.iaload, 1) := by decide +kernel
theorem dX0_isFirm_56 : decode cX0_isFirm 56 = .ok (.aload_n 0, 1) := by decide +kernel
theorem dX0_isFirm_57 : decode cX0_isFirm 57 = .ok (.getfield 19, 3) := by decide +kernel
theorem dX0_isFirm_60 : decode cX0_isFirm 60 = .ok (.iload_n 1, 1) := by decide +kernel
theorem dX0_isFirm_61 : decode cX0_isFirm 61 = .ok (.iaload, 1) := by decide +kernel
theorem dX0_isFirm_62 : decode cX0_isFirm 62 = .ok (.if_icmp .gt 18, 3) := by decide +kernel
theorem dX0_isFirm_65 : decode cX0_isFirm 65 = .ok (.aload_n 0, 1) := by decide +kernel
theorem dX0_isFirm_66 : decode cX0_isFirm 66 = .ok (.getfield 22, 3) := by decide +kernel
theorem dX0_isFirm_69 : decode cX0_isFirm 69 = .ok (.iload_n 2, 1) := by decide +kernel
theorem dX0_isFirm_70 : decode cX0_isFirm 70 = .ok (.iaload, 1) := by decide +kernel
theorem dX0_isFirm_71 : decode cX0_isFirm 71 = .ok (.aload_n 0, 1) := by decide +kernel
theorem dX0_isFirm_72 : decode cX0_isFirm 72 = .ok (.getfield 22, 3) := by decide +kernel
theorem dX0_isFirm_75 : decode cX0_isFirm 75 = .ok (.iload_n 1, 1) := by decide +kernel
theorem dX0_isFirm_76 : decode cX0_isFirm 76 = .ok (.iaload, 1) := by decide +kernel
theorem dX0_isFirm_77 : decode cX0_isFirm 77 = .ok (.if_icmp .le 5, 3) := by decide +kernel
theorem dX0_isFirm_80 : decode cX0_isFirm 80 = .ok (.iconst 0, 1) := by decide +kernel
theorem dX0_isFirm_81 : decode cX0_isFirm 81 = .ok (.ireturn, 1) := by decide +kernel
theorem dX0_isFirm_82 : decode cX0_isFirm 82 = .ok (.iinc 2 1, 3) := by decide +kernel
theorem dX0_isFirm_85 : decode cX0_isFirm 85 = .ok (.goto (-83), 3) := by decide +kernel
theorem dX0_isFirm_88 : decode cX0_isFirm 88 = .ok (.iconst 1, 1) := by decide +kernel
theorem dX0_isFirm_89 : decode cX0_isFirm 89 = .ok (.ireturn, 1) := by decide +kernel
theorem dX0_isSigned_0 : decode cX0_isSigned 0 = .ok (.iload_n 1, 1) := by decide +kernel
theorem dX0_isSigned_1 : decode cX0_isSigned 1 = .ok (.ifCond .lt 32, 3) := by decide +kernel
theorem dX0_isSigned_4 : decode cX0_isSigned 4 = .ok (.iload_n 1, 1) := by decide +kernel
theorem dX0_isSigned_5 : decode cX0_isSigned 5 = .ok (.sipush 128, 3) := by decide +kernel
theorem dX0_isSigned_8 : decode cX0_isSigned 8 = .ok (.if_icmp .ge 25, 3) := by decide +kernel
theorem dX0_isSigned_11 : decode cX0_isSigned 11 = .ok (.aload_n 0, 1) := by decide +kernel
theorem dX0_isSigned_12 : decode cX0_isSigned 12 = .ok (.getfield 19, 3) := by decide +kernel
theorem dX0_isSigned_15 : decode cX0_isSigned 15 = .ok (.iload_n 1, 1) := by decide +kernel
theorem dX0_isSigned_16 : decode cX0_isSigned 16 = .ok (.iaload, 1) := by decide +kernel
theorem dX0_isSigned_17 : decode cX0_isSigned 17 = .ok (.ifCond .lt 16, 3) := by decide +kernel
theorem dX0_isSigned_20 : decode cX0_isSigned 20 = .ok (.aload_n 0, 1) := by decide +kernel
theorem dX0_isSigned_21 : decode cX0_isSigned 21 = .ok (.getfield 22, 3) := by decide +kernel
theorem dX0_isSigned_24 : decode cX0_isSigned 24 = .ok (.iload_n 1, 1) := by decide +kernel
theorem dX0_isSigned_25 : decode cX0_isSigned 25 = .ok (.iaload, 1) := by decide +kernel
theorem dX0_isSigned_26 : decode cX0_isSigned 26 = .ok (.ifCond .lt 7, 3) := by decide +kernel
theorem dX0_isSigned_29 : decode cX0_isSigned 29 = .ok (.iconst 1, 1) := by decide +kernel

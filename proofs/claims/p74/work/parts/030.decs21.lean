theorem dX6_closeLine_116 : decode cX6_closeLine 116 = .ok (.getfield 22, 3) := by decide +kernel
theorem dX6_closeLine_119 : decode cX6_closeLine 119 = .ok (.iconst 0, 1) := by decide +kernel
theorem dX6_closeLine_120 : decode cX6_closeLine 120 = .ok (.iaload, 1) := by decide +kernel
theorem dX6_closeLine_121 : decode cX6_closeLine 121 = .ok (.aload_n 0, 1) := by decide +kernel
theorem dX6_closeLine_122 : decode cX6_closeLine 122 = .ok (.getfield 22, 3) := by decide +kernel
theorem dX6_closeLine_125 : decode cX6_closeLine 125 = .ok (.iconst 1, 1) := by decide +kernel
theorem dX6_closeLine_126 : decode cX6_closeLine 126 = .ok (.iaload, 1) := by decide +kernel
theorem dX6_closeLine_127 : decode cX6_closeLine 127 = .ok (.aload_n 0, 1) := by decide +kernel
theorem dX6_closeLine_128 : decode cX6_closeLine 128 = .ok (.getfield 22, 3) := by decide +kernel
theorem dX6_closeLine_131 : decode cX6_closeLine 131 = .ok (.iconst 2, 1) := by decide +kernel
theorem dX6_closeLine_132 : decode cX6_closeLine 132 = .ok (.iaload, 1) := by decide +kernel
theorem dX6_closeLine_133 : decode cX6_closeLine 133 = .ok (.invokevirtual 137, 3) := by decide +kernel
theorem dX6_closeLine_136 : decode cX6_closeLine 136 = .ok (.goto 38, 3) := by decide +kernel
theorem dX6_closeLine_139 : decode cX6_closeLine 139 = .ok (.aload_n 0, 1) := by decide +kernel
theorem dX6_closeLine_140 : decode cX6_closeLine 140 = .ok (.getfield 12, 3) := by decide +kernel
theorem dX6_closeLine_143 : decode cX6_closeLine 143 = .ok (.aload_n 0, 1) := by decide +kernel
theorem dX6_closeLine_144 : decode cX6_closeLine 144 = .ok (.getfield 22, 3) := by decide +kernel
theorem dX6_closeLine_147 : decode cX6_closeLine 147 = .ok (.iconst 0, 1) := by decide +kernel
theorem dX6_closeLine_148 : decode cX6_closeLine 148 = .ok (.iaload, 1) := by decide +kernel
theorem dX6_closeLine_149 : decode cX6_closeLine 149 = .ok (.aload_n 0, 1) := by decide +kernel
theorem dX6_closeLine_150 : decode cX6_closeLine 150 = .ok (.getfield 22, 3) := by decide +kernel
theorem dX6_closeLine_153 : decode cX6_closeLine 153 = .ok (.iconst 1, 1) := by decide +kernel
theorem dX6_closeLine_154 : decode cX6_closeLine 154 = .ok (.iaload, 1) := by decide +kernel
theorem dX6_closeLine_155 : decode cX6_closeLine 155 = .ok (.invokevirtual 140, 3) := by decide +kernel
theorem dX6_closeLine_158 : decode cX6_closeLine 158 = .ok (.goto 16, 3) := by decide +kernel
theorem dX6_closeLine_161 : decode cX6_closeLine 161 = .ok (.aload_n 0, 1) := by decide +kernel
theorem dX6_closeLine_162 : decode cX6_closeLine 162 = .ok (.getfield 12, 3) := by decide +kernel
theorem dX6_closeLine_165 : decode cX6_closeLine 165 = .ok (.aload_n 0, 1) := by decide +kernel
theorem dX6_closeLine_166 : decode cX6_closeLine 166 = .ok (.getfield 22, 3) := by decide +kernel
theorem dX6_closeLine_169 : decode cX6_closeLine 169 = .ok (.iconst 0, 1) := by decide +kernel
theorem dX6_closeLine_170 : decode cX6_closeLine 170 = .ok (.iaload, 1) := by decide +kernel
theorem dX6_closeLine_171 : decode cX6_closeLine 171 = .ok (.putfield 143, 3) := by decide +kernel
theorem dX6_closeLine_174 : decode cX6_closeLine 174 = .ok (.aload_n 0, 1) := by decide +kernel
theorem dX6_closeLine_175 : decode cX6_closeLine 175 = .ok (.getfield 12, 3) := by decide +kernel
theorem dX6_closeLine_178 : decode cX6_closeLine 178 = .ok (.dup, 1) := by decide +kernel
theorem dX6_closeLine_179 : decode cX6_closeLine 179 = .ok (.getfield 113, 3) := by decide +kernel
theorem dX6_closeLine_182 : decode cX6_closeLine 182 = .ok (.iconst 1, 1) := by decide +kernel
theorem dX6_closeLine_183 : decode cX6_closeLine 183 = .ok (.iadd, 1) := by decide +kernel
theorem dX6_closeLine_184 : decode cX6_closeLine 184 = .ok (.putfield 113, 3) := by decide +kernel
theorem dX6_closeLine_187 : decode cX6_closeLine 187 = .ok (.aload_n 0, 1) := by decide +kernel
theorem dX6_closeLine_188 : decode cX6_closeLine 188 = .ok (.iconst 5, 1) := by decide +kernel
theorem dX6_closeLine_189 : decode cX6_closeLine 189 = .ok (.putfield 39, 3) := by decide +kernel
theorem dX6_closeLine_192 : decode cX6_closeLine 192 = .ok (.return_, 1) := by decide +kernel
theorem dX6_fail_0 : decode cX6_fail 0 = .ok (.aload_n 0, 1) := by decide +kernel
theorem dX6_fail_1 : decode cX6_fail 1 = .ok (.iload_n 1, 1) := by decide +kernel
theorem dX6_fail_2 : decode cX6_fail 2 = .ok (.putfield 33, 3) := by decide +kernel
theorem dX6_fail_5 : decode cX6_fail 5 = .ok (.aload_n 0, 1) := by decide +kernel
theorem dX6_fail_6 : decode cX6_fail 6 = .ok (.aload_n 0, 1) := by decide +kernel
theorem dX6_fail_7 : decode cX6_fail 7 = .ok (.getfield 64, 3) := by decide +kernel
theorem dX6_fail_10 : decode cX6_fail 10 = .ok (.putfield 18, 3) := by decide +kernel
theorem dX6_fail_13 : decode cX6_fail 13 = .ok (.return_, 1) := by decide +kernel
theorem dX6_hasAll_0 : decode cX6_hasAll 0 = .ok (.iload_n 1, 1) := by decide +kernel
theorem dX6_hasAll_1 : decode cX6_hasAll 1 = .ok (.iconst 1, 1) := by decide +kernel
theorem dX6_hasAll_2 : decode cX6_hasAll 2 = .ok (.if_icmp .ne 15, 3) := by decide +kernel
theorem dX6_hasAll_5 : decode cX6_hasAll 5 = .ok (.aload_n 0, 1) := by decide +kernel
theorem dX6_hasAll_6 : decode cX6_hasAll 6 = .ok (.getfield 12, 3) := by decide +kernel
theorem dX6_hasAll_9 : decode cX6_hasAll 9 = .ok (.getfield 162, 3) := by decide +kernel
theorem dX6_hasAll_12 : decode cX6_hasAll 12 = .ok (.bipush 8, 2) := by decide +kernel
theorem dX6_hasAll_14 : decode cX6_hasAll 14 = .ok (.if_icmp .ge 36, 3) := by decide +kernel
theorem dX6_hasAll_17 : decode cX6_hasAll 17 = .ok (.iload_n 1, 1) := by decide +kernel
theorem dX6_hasAll_18 : decode cX6_hasAll 18 = .ok (.iconst 2, 1) := by decide +kernel
theorem dX6_hasAll_19 : decode cX6_hasAll 19 = .ok (.if_icmp .ne 15, 3) := by decide +kernel
theorem dX6_hasAll_22 : decode cX6_hasAll 22 = .ok (.aload_n 0, 1) := by decide +kernel
theorem dX6_hasAll_23 : decode cX6_hasAll 23 = .ok (.getfield 12, 3) := by decide +kernel
theorem dX6_hasAll_26 : decode cX6_hasAll 26 = .ok (.getfield 165, 3) := by decide +kernel
theorem dX6_hasAll_29 : decode cX6_hasAll 29 = .ok (.bipush 7, 2) := by decide +kernel
theorem dX6_hasAll_31 : decode cX6_hasAll 31 = .ok (.if_icmp .ge 19, 3) := by decide +kernel
theorem dX6_hasAll_34 : decode cX6_hasAll 34 = .ok (.iload_n 1, 1) := by decide +kernel
theorem dX6_hasAll_35 : decode cX6_hasAll 35 = .ok (.iconst 3, 1) := by decide +kernel
theorem dX6_hasAll_36 : decode cX6_hasAll 36 = .ok (.if_icmp .ne 18, 3) := by decide +kernel
theorem dX6_hasAll_39 : decode cX6_hasAll 39 = .ok (.aload_n 0, 1) := by decide +kernel
theorem dX6_hasAll_40 : decode cX6_hasAll 40 = .ok (.getfield 12, 3) := by decide +kernel
theorem dX6_hasAll_43 : decode cX6_hasAll 43 = .ok (.getfield 168, 3) := by decide +kernel
theorem dX6_hasAll_46 : decode cX6_hasAll 46 = .ok (.iconst 4, 1) := by decide +kernel
theorem dX6_hasAll_47 : decode cX6_hasAll 47 = .ok (.if_icmp .lt 7, 3) := by decide +kernel
theorem dX6_hasAll_50 : decode cX6_hasAll 50 = .ok (.iconst 1, 1) := by decide +kernel
theorem dX6_hasAll_51 : decode cX6_hasAll 51 = .ok (.goto 4, 3) := by decide +kernel
theorem dX6_hasAll_54 : decode cX6_hasAll 54 = .ok (.iconst 0, 1) := by decide +kernel
theorem dX6_hasAll_55 : decode cX6_hasAll 55 = .ok (.ireturn, 1) := by decide +kernel
theorem dX6_init_0 : decode cX6_init 0 = .ok (.aload_n 0, 1) := by decide +kernel
theorem dX6_init_1 : decode cX6_init 1 = .ok (.invokespecial 3, 3) := by decide +kernel
theorem dX6_init_4 : decode cX6_init 4 = .ok (.aload_n 0, 1) := by decide +kernel
theorem dX6_init_5 : decode cX6_init 5 = .ok (.new 9, 3) := by decide +kernel
theorem dX6_init_8 : decode cX6_init 8 = .ok (.dup, 1) := by decide +kernel
theorem dX6_init_9 : decode cX6_init 9 = .ok (.invokespecial 11, 3) := by decide +kernel
theorem dX6_init_12 : decode cX6_init 12 = .ok (.putfield 12, 3) := by decide +kernel
theorem dX6_init_15 : decode cX6_init 15 = .ok (.aload_n 0, 1) := by decide +kernel
theorem dX6_init_16 : decode cX6_init 16 = .ok (.iconst (-1), 1) := by decide +kernel
theorem dX6_init_17 : decode cX6_init 17 = .ok (.putfield 18, 3) := by decide +kernel
theorem dX6_init_20 : decode cX6_init 20 = .ok (.aload_n 0, 1) := by decide +kernel
theorem dX6_init_21 : decode cX6_init 21 = .ok (.iconst 3, 1) := by decide +kernel
theorem dX6_init_22 : decode cX6_init 22 = .ok (.newarray .int, 2) := by decide +kernel
theorem dX6_init_24 : decode cX6_init 24 = .ok (.putfield 22, 3) := by decide +kernel
theorem dX6_init_27 : decode cX6_init 27 = .ok (.aload_n 0, 1) := by decide +kernel
theorem dX6_init_28 : decode cX6_init 28 = .ok (.aload_n 1, 1) := by decide +kernel
theorem dX6_init_29 : decode cX6_init 29 = .ok (.putfield 26, 3) := by decide +kernel
theorem dX6_init_32 : decode cX6_init 32 = .ok (.return_, 1) := by decide +kernel
theorem dX6_isBlank_0 : decode cX6_isBlank 0 = .ok (.iload_n 0, 1) := by decide +kernel
theorem dX6_isBlank_1 : decode cX6_isBlank 1 = .ok (.bipush 32, 2) := by decide +kernel
theorem dX6_isBlank_3 : decode cX6_isBlank 3 = .ok (.if_icmp .eq 9, 3) := by decide +kernel
theorem dX6_isBlank_6 : decode cX6_isBlank 6 = .ok (.iload_n 0, 1) := by decide +kernel
theorem dX6_isBlank_7 : decode cX6_isBlank 7 = .ok (.bipush 10, 2) := by decide +kernel
theorem dX6_isBlank_9 : decode cX6_isBlank 9 = .ok (.if_icmp .ne 7, 3) := by decide +kernel
theorem dX6_isBlank_12 : decode cX6_isBlank 12 = .ok (.iconst 1, 1) := by decide +kernel
theorem dX6_isBlank_13 : decode cX6_isBlank 13 = .ok (.goto 4, 3) := by decide +kernel
theorem dX6_isBlank_16 : decode cX6_isBlank 16 = .ok (.iconst 0, 1) := by decide +kernel
theorem dX6_isBlank_17 : decode cX6_isBlank 17 = .ok (.ireturn, 1) := by decide +kernel
theorem dX6_isWord_0 : decode cX6_isWord 0 = .ok (.aload_n 0, 1) := by decide +kernel
theorem dX6_isWord_1 : decode cX6_isWord 1 = .ok (.getfield 45, 3) := by decide +kernel
theorem dX6_isWord_4 : decode cX6_isWord 4 = .ok (.iconst 1, 1) := by decide +kernel
theorem dX6_isWord_5 : decode cX6_isWord 5 = .ok (.if_icmp .ne 19, 3) := by decide +kernel
theorem dX6_isWord_8 : decode cX6_isWord 8 = .ok (.aload_n 0, 1) := by decide +kernel
theorem dX6_isWord_9 : decode cX6_isWord 9 = .ok (.getfield 36, 3) := by decide +kernel
theorem dX6_isWord_12 : decode cX6_isWord 12 = .ok (.aload_n 0, 1) := by decide +kernel
theorem dX6_isWord_13 : decode cX6_isWord 13 = .ok (.getfield 64, 3) := by decide +kernel
theorem dX6_isWord_16 : decode cX6_isWord 16 = .ok (.isub, 1) := by decide +kernel
theorem dX6_isWord_17 : decode cX6_isWord 17 = .ok (.aload_n 1, 1) := by decide +kernel
theorem dX6_isWord_18 : decode cX6_isWord 18 = .ok (.invokevirtual 197, 3) := by decide +kernel
theorem dX6_isWord_21 : decode cX6_isWord 21 = .ok (.if_icmp .eq 5, 3) := by decide +kernel
theorem dX6_isWord_24 : decode cX6_isWord 24 = .ok (.iconst 0, 1) := by decide +kernel
theorem dX6_isWord_25 : decode cX6_isWord 25 = .ok (.ireturn, 1) := by decide +kernel
theorem dX6_isWord_26 : decode cX6_isWord 26 = .ok (.iconst 0, 1) := by decide +kernel
theorem dX6_isWord_27 : decode cX6_isWord 27 = .ok (.istore_n 2, 1) := by decide +kernel
theorem dX6_isWord_28 : decode cX6_isWord 28 = .ok (.iload_n 2, 1) := by decide +kernel
theorem dX6_isWord_29 : decode cX6_isWord 29 = .ok (.aload_n 1, 1) := by decide +kernel
theorem dX6_isWord_30 : decode cX6_isWord 30 = .ok (.invokevirtual 197, 3) := by decide +kernel
theorem dX6_isWord_33 : decode cX6_isWord 33 = .ok (.if_icmp .ge 32, 3) := by decide +kernel
theorem dX6_isWord_36 : decode cX6_isWord 36 = .ok (.aload_n 0, 1) := by decide +kernel
theorem dX6_isWord_37 : decode cX6_isWord 37 = .ok (.getfield 26, 3) := by decide +kernel
theorem dX6_isWord_40 : decode cX6_isWord 40 = .ok (.aload_n 0, 1) := by decide +kernel
theorem dX6_isWord_41 : decode cX6_isWord 41 = .ok (.getfield 64, 3) := by decide +kernel
theorem dX6_isWord_44 : decode cX6_isWord 44 = .ok (.iload_n 2, 1) := by decide +kernel
theorem dX6_isWord_45 : decode cX6_isWord 45 = .ok (.iadd, 1) := by decide +kernel
theorem dX6_isWord_46 : decode cX6_isWord 46 = .ok (.invokevirtual 56, 3) := by decide +kernel
theorem dX6_isWord_49 : decode cX6_isWord 49 = .ok (.aload_n 1, 1) := by decide +kernel
theorem dX6_isWord_50 : decode cX6_isWord 50 = .ok (.iload_n 2, 1) := by decide +kernel
theorem dX6_isWord_51 : decode cX6_isWord 51 = .ok (.invokevirtual 201, 3) := by decide +kernel
theorem dX6_isWord_54 : decode cX6_isWord 54 = .ok (.if_icmp .eq 5, 3) := by decide +kernel
theorem dX6_isWord_57 : decode cX6_isWord 57 = .ok (.iconst 0, 1) := by decide +kernel
theorem dX6_isWord_58 : decode cX6_isWord 58 = .ok (.ireturn, 1) := by decide +kernel
theorem dX6_isWord_59 : decode cX6_isWord 59 = .ok (.iinc 2 1, 3) := by decide +kernel
theorem dX6_isWord_62 : decode cX6_isWord 62 = .ok (.goto (-34), 3) := by decide +kernel
theorem dX6_isWord_65 : decode cX6_isWord 65 = .ok (.iconst 1, 1) := by decide +kernel
theorem dX6_isWord_66 : decode cX6_isWord 66 = .ok (.ireturn, 1) := by decide +kernel
theorem dX6_kindOf_0 : decode cX6_kindOf 0 = .ok (.iload_n 0, 1) := by decide +kernel
theorem dX6_kindOf_1 : decode cX6_kindOf 1 = .ok (.iconst (-1), 1) := by decide +kernel
theorem dX6_kindOf_2 : decode cX6_kindOf 2 = .ok (.if_icmp .ne 5, 3) := by decide +kernel
theorem dX6_kindOf_5 : decode cX6_kindOf 5 = .ok (.iconst 0, 1) := by decide +kernel
theorem dX6_kindOf_6 : decode cX6_kindOf 6 = .ok (.ireturn, 1) := by decide +kernel
theorem dX6_kindOf_7 : decode cX6_kindOf 7 = .ok (.iload_n 0, 1) := by decide +kernel
theorem dX6_kindOf_8 : decode cX6_kindOf 8 = .ok (.bipush 97, 2) := by decide +kernel
theorem dX6_kindOf_10 : decode cX6_kindOf 10 = .ok (.bipush 122, 2) := by decide +kernel
theorem dX6_kindOf_12 : decode cX6_kindOf 12 = .ok (.invokestatic 83, 3) := by decide +kernel
theorem dX6_kindOf_15 : decode cX6_kindOf 15 = .ok (.ifCond .eq 5, 3) := by decide +kernel
theorem dX6_kindOf_18 : decode cX6_kindOf 18 = .ok (.iconst 1, 1) := by decide +kernel
theorem dX6_kindOf_19 : decode cX6_kindOf 19 = .ok (.ireturn, 1) := by decide +kernel
theorem dX6_kindOf_20 : decode cX6_kindOf 20 = .ok (.iload_n 0, 1) := by decide +kernel
theorem dX6_kindOf_21 : decode cX6_kindOf 21 = .ok (.bipush 48, 2) := by decide +kernel
theorem dX6_kindOf_23 : decode cX6_kindOf 23 = .ok (.bipush 57, 2) := by decide +kernel
theorem dX6_kindOf_25 : decode cX6_kindOf 25 = .ok (.invokestatic 83, 3) := by decide +kernel
theorem dX6_kindOf_28 : decode cX6_kindOf 28 = .ok (.ifCond .eq 5, 3) := by decide +kernel
theorem dX6_kindOf_31 : decode cX6_kindOf 31 = .ok (.iconst 2, 1) := by decide +kernel
theorem dX6_kindOf_32 : decode cX6_kindOf 32 = .ok (.ireturn, 1) := by decide +kernel
theorem dX6_kindOf_33 : decode cX6_kindOf 33 = .ok (.iload_n 0, 1) := by decide +kernel
theorem dX6_kindOf_34 : decode cX6_kindOf 34 = .ok (.bipush 59, 2) := by decide +kernel
theorem dX6_kindOf_36 : decode cX6_kindOf 36 = .ok (.if_icmp .ne 7, 3) := by decide +kernel
theorem dX6_kindOf_39 : decode cX6_kindOf 39 = .ok (.iconst 3, 1) := by decide +kernel
theorem dX6_kindOf_40 : decode cX6_kindOf 40 = .ok (.goto 4, 3) := by decide +kernel
theorem dX6_kindOf_43 : decode cX6_kindOf 43 = .ok (.iconst 4, 1) := by decide +kernel
theorem dX6_kindOf_44 : decode cX6_kindOf 44 = .ok (.ireturn, 1) := by decide +kernel
theorem dX6_lineOfWord_0 : decode cX6_lineOfWord 0 = .ok (.aload_n 0, 1) := by decide +kernel
theorem dX6_lineOfWord_1 : decode cX6_lineOfWord 1 = .ok (.ldc 171, 2) := by decide +kernel
theorem dX6_lineOfWord_3 : decode cX6_lineOfWord 3 = .ok (.invokevirtual 148, 3) := by decide +kernel
theorem dX6_lineOfWord_6 : decode cX6_lineOfWord 6 = .ok (.ifCond .eq 5, 3) := by decide +kernel
theorem dX6_lineOfWord_9 : decode cX6_lineOfWord 9 = .ok (.iconst 0, 1) := by decide +kernel
theorem dX6_lineOfWord_10 : decode cX6_lineOfWord 10 = .ok (.ireturn, 1) := by decide +kernel
theorem dX6_lineOfWord_11 : decode cX6_lineOfWord 11 = .ok (.aload_n 0, 1) := by decide +kernel
theorem dX6_lineOfWord_12 : decode cX6_lineOfWord 12 = .ok (.ldc 173, 2) := by decide +kernel
theorem dX6_lineOfWord_14 : decode cX6_lineOfWord 14 = .ok (.invokevirtual 148, 3) := by decide +kernel
theorem dX6_lineOfWord_17 : decode cX6_lineOfWord 17 = .ok (.ifCond .eq 5, 3) := by decide +kernel
theorem dX6_lineOfWord_20 : decode cX6_lineOfWord 20 = .ok (.iconst 1, 1) := by decide +kernel
theorem dX6_lineOfWord_21 : decode cX6_lineOfWord 21 = .ok (.ireturn, 1) := by decide +kernel
theorem dX6_lineOfWord_22 : decode cX6_lineOfWord 22 = .ok (.aload_n 0, 1) := by decide +kernel
theorem dX6_lineOfWord_23 : decode cX6_lineOfWord 23 = .ok (.ldc 175, 2) := by decide +kernel
theorem dX6_lineOfWord_25 : decode cX6_lineOfWord 25 = .ok (.invokevirtual 148, 3) := by decide +kernel
theorem dX6_lineOfWord_28 : decode cX6_lineOfWord 28 = .ok (.ifCond .eq 5, 3) := by decide +kernel
theorem dX6_lineOfWord_31 : decode cX6_lineOfWord 31 = .ok (.iconst 2, 1) := by decide +kernel
theorem dX6_lineOfWord_32 : decode cX6_lineOfWord 32 = .ok (.ireturn, 1) := by decide +kernel
theorem dX6_lineOfWord_33 : decode cX6_lineOfWord 33 = .ok (.aload_n 0, 1) := by decide +kernel
theorem dX6_lineOfWord_34 : decode cX6_lineOfWord 34 = .ok (.ldc 177, 2) := by decide +kernel
theorem dX6_lineOfWord_36 : decode cX6_lineOfWord 36 = .ok (.invokevirtual 148, 3) := by decide +kernel
theorem dX6_lineOfWord_39 : decode cX6_lineOfWord 39 = .ok (.ifCond .eq 5, 3) := by decide +kernel
theorem dX6_lineOfWord_42 : decode cX6_lineOfWord 42 = .ok (.iconst 3, 1) := by decide +kernel
theorem dX6_lineOfWord_43 : decode cX6_lineOfWord 43 = .ok (.ireturn, 1) := by decide +kernel
theorem dX6_lineOfWord_44 : decode cX6_lineOfWord 44 = .ok (.aload_n 0, 1) := by decide +kernel
theorem dX6_lineOfWord_45 : decode cX6_lineOfWord 45 = .ok (.ldc 179, 2) := by decide +kernel
theorem dX6_lineOfWord_47 : decode cX6_lineOfWord 47 = .ok (.invokevirtual 148, 3) := by decide +kernel
theorem dX6_lineOfWord_50 : decode cX6_lineOfWord 50 = .ok (.ifCond .eq 7, 3) := by decide +kernel
theorem dX6_lineOfWord_53 : decode cX6_lineOfWord 53 = .ok (.iconst 4, 1) := by decide +kernel
theorem dX6_lineOfWord_54 : decode cX6_lineOfWord 54 = .ok (.goto 4, 3) := by decide +kernel
theorem dX6_lineOfWord_57 : decode cX6_lineOfWord 57 = .ok (.iconst 5, 1) := by decide +kernel
theorem dX6_lineOfWord_58 : decode cX6_lineOfWord 58 = .ok (.ireturn, 1) := by decide +kernel
theorem dX6_openLine_0 : decode cX6_openLine 0 = .ok (.aload_n 0, 1) := by decide +kernel
theorem dX6_openLine_1 : decode cX6_openLine 1 = .ok (.invokevirtual 109, 3) := by decide +kernel
theorem dX6_openLine_4 : decode cX6_openLine 4 = .ok (.istore_n 1, 1) := by decide +kernel
theorem dX6_openLine_5 : decode cX6_openLine 5 = .ok (.aload_n 0, 1) := by decide +kernel
theorem dX6_openLine_6 : decode cX6_openLine 6 = .ok (.getfield 12, 3) := by decide +kernel
theorem dX6_openLine_9 : decode cX6_openLine 9 = .ok (.getfield 113, 3) := by decide +kernel
theorem dX6_openLine_12 : decode cX6_openLine 12 = .ok (.ifCond .ne 7, 3) := by decide +kernel
theorem dX6_openLine_15 : decode cX6_openLine 15 = .ok (.iconst 1, 1) := by decide +kernel
theorem dX6_openLine_16 : decode cX6_openLine 16 = .ok (.goto 4, 3) := by decide +kernel
theorem dX6_openLine_19 : decode cX6_openLine 19 = .ok (.iconst 0, 1) := by decide +kernel
theorem dX6_openLine_20 : decode cX6_openLine 20 = .ok (.istore_n 2, 1) := by decide +kernel
theorem dX6_openLine_21 : decode cX6_openLine 21 = .ok (.iload_n 1, 1) := by decide +kernel
theorem dX6_openLine_22 : decode cX6_openLine 22 = .ok (.iconst 5, 1) := by decide +kernel
theorem dX6_openLine_23 : decode cX6_openLine 23 = .ok (.if_icmp .eq 16, 3) := by decide +kernel
theorem dX6_openLine_26 : decode cX6_openLine 26 = .ok (.iload_n 2, 1) := by decide +kernel
theorem dX6_openLine_27 : decode cX6_openLine 27 = .ok (.iload_n 1, 1) := by decide +kernel
theorem dX6_openLine_28 : decode cX6_openLine 28 = .ok (.ifCond .ne 7, 3) := by decide +kernel
theorem dX6_openLine_31 : decode cX6_openLine 31 = .ok (.iconst 1, 1) := by decide +kernel
theorem dX6_openLine_32 : decode cX6_openLine 32 = .ok (.goto 4, 3) := by decide +kernel
theorem dX6_openLine_35 : decode cX6_openLine 35 = .ok (.iconst 0, 1) := by decide +kernel
theorem dX6_openLine_36 : decode cX6_openLine 36 = .ok (.if_icmp .eq 11, 3) := by decide +kernel
theorem dX6_openLine_39 : decode cX6_openLine 39 = .ok (.aload_n 0, 1) := by decide +kernel
theorem dX6_openLine_40 : decode cX6_openLine 40 = .ok (.iconst 1, 1) := by decide +kernel
theorem dX6_openLine_41 : decode cX6_openLine 41 = .ok (.invokevirtual 116, 3) := by decide +kernel
theorem dX6_openLine_44 : decode cX6_openLine 44 = .ok (.goto 48, 3) := by decide +kernel
theorem dX6_openLine_47 : decode cX6_openLine 47 = .ok (.aload_n 0, 1) := by decide +kernel
theorem dX6_openLine_48 : decode cX6_openLine 48 = .ok (.iload_n 1, 1) := by decide +kernel
theorem dX6_openLine_49 : decode cX6_openLine 49 = .ok (.invokevirtual 120, 3) := by decide +kernel
theorem dX6_openLine_52 : decode cX6_openLine 52 = .ok (.ifCond .eq 11, 3) := by decide +kernel
theorem dX6_openLine_55 : decode cX6_openLine 55 = .ok (.aload_n 0, 1) := by decide +kernel
theorem dX6_openLine_56 : decode cX6_openLine 56 = .ok (.iconst 3, 1) := by decide +kernel
theorem dX6_openLine_57 : decode cX6_openLine 57 = .ok (.invokevirtual 116, 3) := by decide +kernel
theorem dX6_openLine_60 : decode cX6_openLine 60 = .ok (.goto 32, 3) := by decide +kernel
theorem dX6_openLine_63 : decode cX6_openLine 63 = .ok (.aload_n 0, 1) := by decide +kernel
theorem dX6_openLine_64 : decode cX6_openLine 64 = .ok (.iload_n 1, 1) := by decide +kernel
theorem dX6_openLine_65 : decode cX6_openLine 65 = .ok (.putfield 39, 3) := by decide +kernel
theorem dX6_openLine_68 : decode cX6_openLine 68 = .ok (.aload_n 0, 1) := by decide +kernel
theorem dX6_openLine_69 : decode cX6_openLine 69 = .ok (.iconst 0, 1) := by decide +kernel
theorem dX6_openLine_70 : decode cX6_openLine 70 = .ok (.putfield 90, 3) := by decide +kernel
theorem dX6_openLine_73 : decode cX6_openLine 73 = .ok (.aload_n 0, 1) := by decide +kernel
theorem dX6_openLine_74 : decode cX6_openLine 74 = .ok (.iload_n 1, 1) := by decide +kernel
theorem dX6_openLine_75 : decode cX6_openLine 75 = .ok (.iconst 4, 1) := by decide +kernel
theorem dX6_openLine_76 : decode cX6_openLine 76 = .ok (.if_icmp .eq 7, 3) := by decide +kernel
theorem dX6_openLine_79 : decode cX6_openLine 79 = .ok (.iconst 1, 1) := by decide +kernel
theorem dX6_openLine_80 : decode cX6_openLine 80 = .ok (.goto 4, 3) := by decide +kernel
theorem dX6_openLine_83 : decode cX6_openLine 83 = .ok (.iconst 0, 1) := by decide +kernel
theorem dX6_openLine_84 : decode cX6_openLine 84 = .ok (.putfield 99, 3) := by decide +kernel
theorem dX6_openLine_87 : decode cX6_openLine 87 = .ok (.aload_n 0, 1) := by decide +kernel
theorem dX6_openLine_88 : decode cX6_openLine 88 = .ok (.iconst 0, 1) := by decide +kernel
theorem dX6_openLine_89 : decode cX6_openLine 89 = .ok (.putfield 123, 3) := by decide +kernel
theorem dX6_openLine_92 : decode cX6_openLine 92 = .ok (.return_, 1) := by decide +kernel
theorem dX6_readAll_0 : decode cX6_readAll 0 = .ok (.aload_n 0, 1) := by decide +kernel
theorem dX6_readAll_1 : decode cX6_readAll 1 = .ok (.getfield 12, 3) := by decide +kernel
theorem dX6_readAll_4 : decode cX6_readAll 4 = .ok (.invokevirtual 30, 3) := by decide +kernel
theorem dX6_readAll_7 : decode cX6_readAll 7 = .ok (.aload_n 0, 1) := by decide +kernel
theorem dX6_readAll_8 : decode cX6_readAll 8 = .ok (.iconst 0, 1) := by decide +kernel
theorem dX6_readAll_9 : decode cX6_readAll 9 = .ok (.putfield 33, 3) := by decide +kernel
theorem dX6_readAll_12 : decode cX6_readAll 12 = .ok (.aload_n 0, 1) := by decide +kernel
theorem dX6_readAll_13 : decode cX6_readAll 13 = .ok (.iconst (-1), 1) := by decide +kernel
theorem dX6_readAll_14 : decode cX6_readAll 14 = .ok (.putfield 18, 3) := by decide +kernel
theorem dX6_readAll_17 : decode cX6_readAll 17 = .ok (.aload_n 0, 1) := by decide +kernel
theorem dX6_readAll_18 : decode cX6_readAll 18 = .ok (.iconst 0, 1) := by decide +kernel
theorem dX6_readAll_19 : decode cX6_readAll 19 = .ok (.putfield 36, 3) := by decide +kernel
theorem dX6_readAll_22 : decode cX6_readAll 22 = .ok (.aload_n 0, 1) := by decide +kernel
theorem dX6_readAll_23 : decode cX6_readAll 23 = .ok (.iconst 5, 1) := by decide +kernel
theorem dX6_readAll_24 : decode cX6_readAll 24 = .ok (.putfield 39, 3) := by decide +kernel
theorem dX6_readAll_27 : decode cX6_readAll 27 = .ok (.iconst 0, 1) := by decide +kernel
theorem dX6_readAll_28 : decode cX6_readAll 28 = .ok (.istore_n 1, 1) := by decide +kernel
theorem dX6_readAll_29 : decode cX6_readAll 29 = .ok (.iload_n 1, 1) := by decide +kernel
theorem dX6_readAll_30 : decode cX6_readAll 30 = .ok (.sipush 800, 3) := by decide +kernel
theorem dX6_readAll_33 : decode cX6_readAll 33 = .ok (.if_icmp .gt 41, 3) := by decide +kernel
theorem dX6_readAll_36 : decode cX6_readAll 36 = .ok (.aload_n 0, 1) := by decide +kernel
theorem dX6_readAll_37 : decode cX6_readAll 37 = .ok (.getfield 33, 3) := by decide +kernel
theorem dX6_readAll_40 : decode cX6_readAll 40 = .ok (.ifCond .ne 34, 3) := by decide +kernel
theorem dX6_readAll_43 : decode cX6_readAll 43 = .ok (.aload_n 0, 1) := by decide +kernel
theorem dX6_readAll_44 : decode cX6_readAll 44 = .ok (.invokevirtual 42, 3) := by decide +kernel
theorem dX6_readAll_47 : decode cX6_readAll 47 = .ok (.aload_n 0, 1) := by decide +kernel
theorem dX6_readAll_48 : decode cX6_readAll 48 = .ok (.getfield 45, 3) := by decide +kernel
theorem dX6_readAll_51 : decode cX6_readAll 51 = .ok (.ifCond .ne 13, 3) := by decide +kernel
theorem dX6_readAll_54 : decode cX6_readAll 54 = .ok (.aload_n 0, 1) := by decide +kernel
theorem dX6_readAll_55 : decode cX6_readAll 55 = .ok (.getfield 39, 3) := by decide +kernel
theorem dX6_readAll_58 : decode cX6_readAll 58 = .ok (.iconst 5, 1) := by decide +kernel
theorem dX6_readAll_59 : decode cX6_readAll 59 = .ok (.if_icmp .ne 5, 3) := by decide +kernel
theorem dX6_readAll_62 : decode cX6_readAll 62 = .ok (.iconst 1, 1) := by decide +kernel
theorem dX6_readAll_63 : decode cX6_readAll 63 = .ok (.ireturn, 1) := by decide +kernel
theorem dX6_readAll_64 : decode cX6_readAll 64 = .ok (.aload_n 0, 1) := by decide +kernel
theorem dX6_readAll_65 : decode cX6_readAll 65 = .ok (.invokevirtual 48, 3) := by decide +kernel
theorem dX6_readAll_68 : decode cX6_readAll 68 = .ok (.iinc 1 1, 3) := by decide +kernel
theorem dX6_readAll_71 : decode cX6_readAll 71 = .ok (.goto (-42), 3) := by decide +kernel
theorem dX6_readAll_74 : decode cX6_readAll 74 = .ok (.iconst 0, 1) := by decide +kernel
theorem dX6_readAll_75 : decode cX6_readAll 75 = .ok (.ireturn, 1) := by decide +kernel
theorem dX6_readLongest_0 : decode cX6_readLongest 0 = .ok (.aload_n 0, 1) := by decide +kernel
theorem dX6_readLongest_1 : decode cX6_readLongest 1 = .ok (.iconst 0, 1) := by decide +kernel
theorem dX6_readLongest_2 : decode cX6_readLongest 2 = .ok (.putfield 73, 3) := by decide +kernel
theorem dX6_readLongest_5 : decode cX6_readLongest 5 = .ok (.aload_n 0, 1) := by decide +kernel
theorem dX6_readLongest_6 : decode cX6_readLongest 6 = .ok (.getfield 36, 3) := by decide +kernel
theorem dX6_readLongest_9 : decode cX6_readLongest 9 = .ok (.aload_n 0, 1) := by decide +kernel
theorem dX6_readLongest_10 : decode cX6_readLongest 10 = .ok (.getfield 26, 3) := by decide +kernel
theorem dX6_readLongest_13 : decode cX6_readLongest 13 = .ok (.getfield 51, 3) := by decide +kernel
theorem dX6_readLongest_16 : decode cX6_readLongest 16 = .ok (.if_icmp .ge 68, 3) := by decide +kernel
theorem dX6_readLongest_19 : decode cX6_readLongest 19 = .ok (.aload_n 0, 1) := by decide +kernel
theorem dX6_readLongest_20 : decode cX6_readLongest 20 = .ok (.getfield 26, 3) := by decide +kernel
theorem dX6_readLongest_23 : decode cX6_readLongest 23 = .ok (.aload_n 0, 1) := by decide +kernel
theorem dX6_readLongest_24 : decode cX6_readLongest 24 = .ok (.getfield 36, 3) := by decide +kernel
theorem dX6_readLongest_27 : decode cX6_readLongest 27 = .ok (.invokevirtual 56, 3) := by decide +kernel
theorem dX6_readLongest_30 : decode cX6_readLongest 30 = .ok (.invokestatic 67, 3) := by decide +kernel
theorem dX6_readLongest_33 : decode cX6_readLongest 33 = .ok (.aload_n 0, 1) := by decide +kernel
theorem dX6_readLongest_34 : decode cX6_readLongest 34 = .ok (.getfield 45, 3) := by decide +kernel
theorem dX6_readLongest_37 : decode cX6_readLongest 37 = .ok (.if_icmp .ne 47, 3) := by decide +kernel
theorem dX6_readLongest_40 : decode cX6_readLongest 40 = .ok (.aload_n 0, 1) := by decide +kernel
theorem dX6_readLongest_41 : decode cX6_readLongest 41 = .ok (.ldc 76, 2) := by decide +kernel
theorem dX6_readLongest_43 : decode cX6_readLongest 43 = .ok (.bipush 10, 2) := by decide +kernel
theorem dX6_readLongest_45 : decode cX6_readLongest 45 = .ok (.aload_n 0, 1) := by decide +kernel
theorem dX6_readLongest_46 : decode cX6_readLongest 46 = .ok (.getfield 73, 3) := by decide +kernel
theorem dX6_readLongest_49 : decode cX6_readLongest 49 = .ok (.imul, 1) := by decide +kernel
theorem dX6_readLongest_50 : decode cX6_readLongest 50 = .ok (.aload_n 0, 1) := by decide +kernel
theorem dX6_readLongest_51 : decode cX6_readLongest 51 = .ok (.getfield 26, 3) := by decide +kernel
theorem dX6_readLongest_54 : decode cX6_readLongest 54 = .ok (.aload_n 0, 1) := by decide +kernel
theorem dX6_readLongest_55 : decode cX6_readLongest 55 = .ok (.getfield 36, 3) := by decide +kernel
theorem dX6_readLongest_58 : decode cX6_readLongest 58 = .ok (.invokevirtual 56, 3) := by decide +kernel
theorem dX6_readLongest_61 : decode cX6_readLongest 61 = .ok (.iadd, 1) := by decide +kernel
theorem dX6_readLongest_62 : decode cX6_readLongest 62 = .ok (.bipush 48, 2) := by decide +kernel
theorem dX6_readLongest_64 : decode cX6_readLongest 64 = .ok (.isub, 1) := by decide +kernel
theorem dX6_readLongest_65 : decode cX6_readLongest 65 = .ok (.invokestatic 77, 3) := by decide +kernel
theorem dX6_readLongest_68 : decode cX6_readLongest 68 = .ok (.putfield 73, 3) := by decide +kernel
theorem dX6_readLongest_71 : decode cX6_readLongest 71 = .ok (.aload_n 0, 1) := by decide +kernel
theorem dX6_readLongest_72 : decode cX6_readLongest 72 = .ok (.dup, 1) := by decide +kernel
theorem dX6_readLongest_73 : decode cX6_readLongest 73 = .ok (.getfield 36, 3) := by decide +kernel
theorem dX6_readLongest_76 : decode cX6_readLongest 76 = .ok (.iconst 1, 1) := by decide +kernel
theorem dX6_readLongest_77 : decode cX6_readLongest 77 = .ok (.iadd, 1) := by decide +kernel
theorem dX6_readLongest_78 : decode cX6_readLongest 78 = .ok (.putfield 36, 3) := by decide +kernel
theorem dX6_readLongest_81 : decode cX6_readLongest 81 = .ok (.goto (-76), 3) := by decide +kernel
theorem dX6_readLongest_84 : decode cX6_readLongest 84 = .ok (.return_, 1) := by decide +kernel
theorem dX6_readToken_0 : decode cX6_readToken 0 = .ok (.aload_n 0, 1) := by decide +kernel
theorem dX6_readToken_1 : decode cX6_readToken 1 = .ok (.getfield 36, 3) := by decide +kernel
theorem dX6_readToken_4 : decode cX6_readToken 4 = .ok (.aload_n 0, 1) := by decide +kernel
theorem dX6_readToken_5 : decode cX6_readToken 5 = .ok (.getfield 26, 3) := by decide +kernel
theorem dX6_readToken_8 : decode cX6_readToken 8 = .ok (.getfield 51, 3) := by decide +kernel
theorem dX6_readToken_11 : decode cX6_readToken 11 = .ok (.if_icmp .ge 33, 3) := by decide +kernel
theorem dX6_readToken_14 : decode cX6_readToken 14 = .ok (.aload_n 0, 1) := by decide +kernel
theorem dX6_readToken_15 : decode cX6_readToken 15 = .ok (.getfield 26, 3) := by decide +kernel
theorem dX6_readToken_18 : decode cX6_readToken 18 = .ok (.aload_n 0, 1) := by decide +kernel
theorem dX6_readToken_19 : decode cX6_readToken 19 = .ok (.getfield 36, 3) := by decide +kernel
theorem dX6_readToken_22 : decode cX6_readToken 22 = .ok (.invokevirtual 56, 3) := by decide +kernel
theorem dX6_readToken_25 : decode cX6_readToken 25 = .ok (.invokestatic 60, 3) := by decide +kernel
theorem dX6_readToken_28 : decode cX6_readToken 28 = .ok (.ifCond .eq 16, 3) := by decide +kernel
theorem dX6_readToken_31 : decode cX6_readToken 31 = .ok (.aload_n 0, 1) := by decide +kernel
theorem dX6_readToken_32 : decode cX6_readToken 32 = .ok (.dup, 1) := by decide +kernel
theorem dX6_readToken_33 : decode cX6_readToken 33 = .ok (.getfield 36, 3) := by decide +kernel
theorem dX6_readToken_36 : decode cX6_readToken 36 = .ok (.iconst 1, 1) := by decide +kernel
theorem dX6_readToken_37 : decode cX6_readToken 37 = .ok (.iadd, 1) := by decide +kernel
theorem dX6_readToken_38 : decode cX6_readToken 38 = .ok (.putfield 36, 3) := by decide +kernel
theorem dX6_readToken_41 : decode cX6_readToken 41 = .ok (.goto (-41), 3) := by decide +kernel
theorem dX6_readToken_44 : decode cX6_readToken 44 = .ok (.aload_n 0, 1) := by decide +kernel
theorem dX6_readToken_45 : decode cX6_readToken 45 = .ok (.aload_n 0, 1) := by decide +kernel
theorem dX6_readToken_46 : decode cX6_readToken 46 = .ok (.getfield 36, 3) := by decide +kernel
theorem dX6_readToken_49 : decode cX6_readToken 49 = .ok (.putfield 64, 3) := by decide +kernel
theorem dX6_readToken_52 : decode cX6_readToken 52 = .ok (.aload_n 0, 1) := by decide +kernel
theorem dX6_readToken_53 : decode cX6_readToken 53 = .ok (.aload_n 0, 1) := by decide +kernel
theorem dX6_readToken_54 : decode cX6_readToken 54 = .ok (.getfield 26, 3) := by decide +kernel
theorem dX6_readToken_57 : decode cX6_readToken 57 = .ok (.aload_n 0, 1) := by decide +kernel
theorem dX6_readToken_58 : decode cX6_readToken 58 = .ok (.getfield 36, 3) := by decide +kernel
theorem dX6_readToken_61 : decode cX6_readToken 61 = .ok (.invokevirtual 56, 3) := by decide +kernel
theorem dX6_readToken_64 : decode cX6_readToken 64 = .ok (.invokestatic 67, 3) := by decide +kernel
theorem dX6_readToken_67 : decode cX6_readToken 67 = .ok (.putfield 45, 3) := by decide +kernel
theorem dX6_readToken_70 : decode cX6_readToken 70 = .ok (.aload_n 0, 1) := by decide +kernel
theorem dX6_readToken_71 : decode cX6_readToken 71 = .ok (.getfield 45, 3) := by decide +kernel
theorem dX6_readToken_74 : decode cX6_readToken 74 = .ok (.iconst 1, 1) := by decide +kernel
theorem dX6_readToken_75 : decode cX6_readToken 75 = .ok (.if_icmp .eq 11, 3) := by decide +kernel
theorem dX6_readToken_78 : decode cX6_readToken 78 = .ok (.aload_n 0, 1) := by decide +kernel
theorem dX6_readToken_79 : decode cX6_readToken 79 = .ok (.getfield 45, 3) := by decide +kernel
theorem dX6_readToken_82 : decode cX6_readToken 82 = .ok (.iconst 2, 1) := by decide +kernel
theorem dX6_readToken_83 : decode cX6_readToken 83 = .ok (.if_icmp .ne 10, 3) := by decide +kernel
theorem dX6_readToken_86 : decode cX6_readToken 86 = .ok (.aload_n 0, 1) := by decide +kernel
theorem dX6_readToken_87 : decode cX6_readToken 87 = .ok (.invokevirtual 70, 3) := by decide +kernel
theorem dX6_readToken_90 : decode cX6_readToken 90 = .ok (.goto 20, 3) := by decide +kernel
theorem dX6_readToken_93 : decode cX6_readToken 93 = .ok (.aload_n 0, 1) := by decide +kernel
theorem dX6_readToken_94 : decode cX6_readToken 94 = .ok (.getfield 45, 3) := by decide +kernel
theorem dX6_readToken_97 : decode cX6_readToken 97 = .ok (.ifCond .eq 13, 3) := by decide +kernel
theorem dX6_readToken_100 : decode cX6_readToken 100 = .ok (.aload_n 0, 1) := by decide +kernel
theorem dX6_readToken_101 : decode cX6_readToken 101 = .ok (.dup, 1) := by decide +kernel
theorem dX6_readToken_102 : decode cX6_readToken 102 = .ok (.getfield 36, 3) := by decide +kernel
theorem dX6_readToken_105 : decode cX6_readToken 105 = .ok (.iconst 1, 1) := by decide +kernel
theorem dX6_readToken_106 : decode cX6_readToken 106 = .ok (.iadd, 1) := by decide +kernel
theorem dX6_readToken_107 : decode cX6_readToken 107 = .ok (.putfield 36, 3) := by decide +kernel
theorem dX6_readToken_110 : decode cX6_readToken 110 = .ok (.return_, 1) := by decide +kernel
theorem dX6_wordDue_0 : decode cX6_wordDue 0 = .ok (.iconst 3, 1) := by decide +kernel
theorem dX6_wordDue_1 : decode cX6_wordDue 1 = .ok (.aload_n 0, 1) := by decide +kernel
theorem dX6_wordDue_2 : decode cX6_wordDue 2 = .ok (.getfield 39, 3) := by decide +kernel
theorem dX6_wordDue_5 : decode cX6_wordDue 5 = .ok (.imul, 1) := by decide +kernel
theorem dX6_wordDue_6 : decode cX6_wordDue 6 = .ok (.aload_n 0, 1) := by decide +kernel
theorem dX6_wordDue_7 : decode cX6_wordDue 7 = .ok (.getfield 90, 3) := by decide +kernel
theorem dX6_wordDue_10 : decode cX6_wordDue 10 = .ok (.iadd, 1) := by decide +kernel
theorem dX6_wordDue_11 : decode cX6_wordDue 11 = .ok (.tableswitch 73 2 10 #[49, 52, 55, 58, 61, 64, 64, 67, 70], 49) := by decide +kernel
theorem dX6_wordDue_60 : decode cX6_wordDue 60 = .ok (.ldc 180, 2) := by decide +kernel
theorem dX6_wordDue_62 : decode cX6_wordDue 62 = .ok (.areturn, 1) := by decide +kernel
theorem dX6_wordDue_63 : decode cX6_wordDue 63 = .ok (.ldc 181, 2) := by decide +kernel
theorem dX6_wordDue_65 : decode cX6_wordDue 65 = .ok (.areturn, 1) := by decide +kernel
theorem dX6_wordDue_66 : decode cX6_wordDue 66 = .ok (.ldc 183, 2) := by decide +kernel
theorem dX6_wordDue_68 : decode cX6_wordDue 68 = .ok (.areturn, 1) := by decide +kernel
theorem dX6_wordDue_69 : decode cX6_wordDue 69 = .ok (.ldc 185, 2) := by decide +kernel
theorem dX6_wordDue_71 : decode cX6_wordDue 71 = .ok (.areturn, 1) := by decide +kernel
theorem dX6_wordDue_72 : decode cX6_wordDue 72 = .ok (.ldc 187, 2) := by decide +kernel
theorem dX6_wordDue_74 : decode cX6_wordDue 74 = .ok (.areturn, 1) := by decide +kernel
theorem dX6_wordDue_75 : decode cX6_wordDue 75 = .ok (.ldc 189, 2) := by decide +kernel
theorem dX6_wordDue_77 : decode cX6_wordDue 77 = .ok (.areturn, 1) := by decide +kernel
theorem dX6_wordDue_78 : decode cX6_wordDue 78 = .ok (.ldc 191, 2) := by decide +kernel
theorem dX6_wordDue_80 : decode cX6_wordDue 80 = .ok (.areturn, 1) := by decide +kernel
theorem dX6_wordDue_81 : decode cX6_wordDue 81 = .ok (.ldc 193, 2) := by decide +kernel
theorem dX6_wordDue_83 : decode cX6_wordDue 83 = .ok (.areturn, 1) := by decide +kernel
theorem dX6_wordDue_84 : decode cX6_wordDue 84 = .ok (.ldc 195, 2) := by decide +kernel
theorem dX6_wordDue_86 : decode cX6_wordDue 86 = .ok (.areturn, 1) := by decide +kernel
theorem dX7_cutTo_0 : decode cX7_cutTo 0 = .ok (.iload_n 0, 1) := by decide +kernel
theorem dX7_cutTo_1 : decode cX7_cutTo 1 = .ok (.tableswitch 41 0 2 #[27, 32, 37], 27) := by decide +kernel
theorem dX7_cutTo_28 : decode cX7_cutTo 28 = .ok (.lload_n 1, 1) := by decide +kernel
theorem dX7_cutTo_29 : decode cX7_cutTo 29 = .ok (.l2i, 1) := by decide +kernel
theorem dX7_cutTo_30 : decode cX7_cutTo 30 = .ok (.i2b, 1) := by decide +kernel
theorem dX7_cutTo_31 : decode cX7_cutTo 31 = .ok (.i2l, 1) := by decide +kernel
theorem dX7_cutTo_32 : decode cX7_cutTo 32 = .ok (.lreturn, 1) := by decide +kernel
theorem dX7_cutTo_33 : decode cX7_cutTo 33 = .ok (.lload_n 1, 1) := by decide +kernel
theorem dX7_cutTo_34 : decode cX7_cutTo 34 = .ok (.l2i, 1) := by decide +kernel
theorem dX7_cutTo_35 : decode cX7_cutTo 35 = .ok (.i2s, 1) := by decide +kernel
theorem dX7_cutTo_36 : decode cX7_cutTo 36 = .ok (.i2l, 1) := by decide +kernel
theorem dX7_cutTo_37 : decode cX7_cutTo 37 = .ok (.lreturn, 1) := by decide +kernel
theorem dX7_cutTo_38 : decode cX7_cutTo 38 = .ok (.lload_n 1, 1) := by decide +kernel
theorem dX7_cutTo_39 : decode cX7_cutTo 39 = .ok (.l2i, 1) := by decide +kernel
theorem dX7_cutTo_40 : decode cX7_cutTo 40 = .ok (.i2l, 1) := by decide +kernel
theorem dX7_cutTo_41 : decode cX7_cutTo 41 = .ok (.lreturn, 1) := by decide +kernel
theorem dX7_cutTo_42 : decode cX7_cutTo 42 = .ok (.lload_n 1, 1) := by decide +kernel
theorem dX7_cutTo_43 : decode cX7_cutTo 43 = .ok (.lreturn, 1) := by decide +kernel
theorem dX7_has_0 : decode cX7_has 0 = .ok (.iload_n 1, 1) := by decide +kernel
theorem dX7_has_1 : decode cX7_has 1 = .ok (.ifCond .lt 12, 3) := by decide +kernel
theorem dX7_has_4 : decode cX7_has 4 = .ok (.iload_n 1, 1) := by decide +kernel
theorem dX7_has_5 : decode cX7_has 5 = .ok (.iconst 4, 1) := by decide +kernel
theorem dX7_has_6 : decode cX7_has 6 = .ok (.if_icmp .ge 7, 3) := by decide +kernel
theorem dX7_has_9 : decode cX7_has 9 = .ok (.iconst 1, 1) := by decide +kernel
theorem dX7_has_10 : decode cX7_has 10 = .ok (.goto 4, 3) := by decide +kernel
theorem dX7_has_13 : decode cX7_has 13 = .ok (.iconst 0, 1) := by decide +kernel
theorem dX7_has_14 : decode cX7_has 14 = .ok (.ireturn, 1) := by decide +kernel
theorem dX7_hasPart_0 : decode cX7_hasPart 0 = .ok (.aload_n 0, 1) := by decide +kernel
theorem dX7_hasPart_1 : decode cX7_hasPart 1 = .ok (.iload_n 1, 1) := by decide +kernel
theorem dX7_hasPart_2 : decode cX7_hasPart 2 = .ok (.invokevirtual 32, 3) := by decide +kernel
theorem dX7_hasPart_5 : decode cX7_hasPart 5 = .ok (.ifCond .eq 37, 3) := by decide +kernel
theorem dX7_hasPart_8 : decode cX7_hasPart 8 = .ok (.iload_n 3, 1) := by decide +kernel
theorem dX7_hasPart_9 : decode cX7_hasPart 9 = .ok (.iconst 0, 1) := by decide +kernel
theorem dX7_hasPart_10 : decode cX7_hasPart 10 = .ok (.aload_n 0, 1) := by decide +kernel
theorem dX7_hasPart_11 : decode cX7_hasPart 11 = .ok (.getfield 9, 3) := by decide +kernel
theorem dX7_hasPart_14 : decode cX7_hasPart 14 = .ok (.iload_n 1, 1) := by decide +kernel

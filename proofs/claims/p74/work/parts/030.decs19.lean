theorem dX3_addMan_45 : decode cX3_addMan 45 = .ok (.iadd, 1) := by decide +kernel
theorem dX3_addMan_46 : decode cX3_addMan 46 = .ok (.putfield 50, 3) := by decide +kernel
theorem dX3_addMan_49 : decode cX3_addMan 49 = .ok (.return_, 1) := by decide +kernel
theorem dX3_addWind_0 : decode cX3_addWind 0 = .ok (.aload_n 0, 1) := by decide +kernel
theorem dX3_addWind_1 : decode cX3_addWind 1 = .ok (.getfield 56, 3) := by decide +kernel
theorem dX3_addWind_4 : decode cX3_addWind 4 = .ok (.iconst 4, 1) := by decide +kernel
theorem dX3_addWind_5 : decode cX3_addWind 5 = .ok (.if_icmp .ge 33, 3) := by decide +kernel
theorem dX3_addWind_8 : decode cX3_addWind 8 = .ok (.aload_n 0, 1) := by decide +kernel
theorem dX3_addWind_9 : decode cX3_addWind 9 = .ok (.getfield 30, 3) := by decide +kernel
theorem dX3_addWind_12 : decode cX3_addWind 12 = .ok (.aload_n 0, 1) := by decide +kernel
theorem dX3_addWind_13 : decode cX3_addWind 13 = .ok (.getfield 56, 3) := by decide +kernel
theorem dX3_addWind_16 : decode cX3_addWind 16 = .ok (.iload_n 1, 1) := by decide +kernel
theorem dX3_addWind_17 : decode cX3_addWind 17 = .ok (.iastore, 1) := by decide +kernel
theorem dX3_addWind_18 : decode cX3_addWind 18 = .ok (.aload_n 0, 1) := by decide +kernel
theorem dX3_addWind_19 : decode cX3_addWind 19 = .ok (.getfield 33, 3) := by decide +kernel
theorem dX3_addWind_22 : decode cX3_addWind 22 = .ok (.aload_n 0, 1) := by decide +kernel
theorem dX3_addWind_23 : decode cX3_addWind 23 = .ok (.getfield 56, 3) := by decide +kernel
theorem dX3_addWind_26 : decode cX3_addWind 26 = .ok (.iload_n 2, 1) := by decide +kernel
theorem dX3_addWind_27 : decode cX3_addWind 27 = .ok (.iastore, 1) := by decide +kernel
theorem dX3_addWind_28 : decode cX3_addWind 28 = .ok (.aload_n 0, 1) := by decide +kernel
theorem dX3_addWind_29 : decode cX3_addWind 29 = .ok (.dup, 1) := by decide +kernel
theorem dX3_addWind_30 : decode cX3_addWind 30 = .ok (.getfield 56, 3) := by decide +kernel
theorem dX3_addWind_33 : decode cX3_addWind 33 = .ok (.iconst 1, 1) := by decide +kernel
theorem dX3_addWind_34 : decode cX3_addWind 34 = .ok (.iadd, 1) := by decide +kernel
theorem dX3_addWind_35 : decode cX3_addWind 35 = .ok (.putfield 56, 3) := by decide +kernel
theorem dX3_addWind_38 : decode cX3_addWind 38 = .ok (.return_, 1) := by decide +kernel
theorem dX3_allClauses_0 : decode cX3_allClauses 0 = .ok (.iconst 1, 1) := by decide +kernel
theorem dX3_allClauses_1 : decode cX3_allClauses 1 = .ok (.aload_n 0, 1) := by decide +kernel
theorem dX3_allClauses_2 : decode cX3_allClauses 2 = .ok (.getfield 53, 3) := by decide +kernel
theorem dX3_allClauses_5 : decode cX3_allClauses 5 = .ok (.ishl, 1) := by decide +kernel
theorem dX3_allClauses_6 : decode cX3_allClauses 6 = .ok (.iconst 1, 1) := by decide +kernel
theorem dX3_allClauses_7 : decode cX3_allClauses 7 = .ok (.isub, 1) := by decide +kernel
theorem dX3_allClauses_8 : decode cX3_allClauses 8 = .ok (.ireturn, 1) := by decide +kernel
theorem dX3_bestPartner_0 : decode cX3_bestPartner 0 = .ok (.iconst (-1), 1) := by decide +kernel
theorem dX3_bestPartner_1 : decode cX3_bestPartner 1 = .ok (.istore_n 2, 1) := by decide +kernel
theorem dX3_bestPartner_2 : decode cX3_bestPartner 2 = .ok (.iconst 0, 1) := by decide +kernel
theorem dX3_bestPartner_3 : decode cX3_bestPartner 3 = .ok (.istore_n 3, 1) := by decide +kernel
theorem dX3_bestPartner_4 : decode cX3_bestPartner 4 = .ok (.iconst 0, 1) := by decide +kernel
theorem dX3_bestPartner_5 : decode cX3_bestPartner 5 = .ok (.istore 4, 2) := by decide +kernel
theorem dX3_bestPartner_7 : decode cX3_bestPartner 7 = .ok (.iload 4, 2) := by decide +kernel
theorem dX3_bestPartner_9 : decode cX3_bestPartner 9 = .ok (.aload_n 0, 1) := by decide +kernel
theorem dX3_bestPartner_10 : decode cX3_bestPartner 10 = .ok (.getfield 50, 3) := by decide +kernel
theorem dX3_bestPartner_13 : decode cX3_bestPartner 13 = .ok (.if_icmp .ge 30, 3) := by decide +kernel
theorem dX3_bestPartner_16 : decode cX3_bestPartner 16 = .ok (.aload_n 0, 1) := by decide +kernel
theorem dX3_bestPartner_17 : decode cX3_bestPartner 17 = .ok (.iload_n 1, 1) := by decide +kernel
theorem dX3_bestPartner_18 : decode cX3_bestPartner 18 = .ok (.iload 4, 2) := by decide +kernel
theorem dX3_bestPartner_20 : decode cX3_bestPartner 20 = .ok (.invokevirtual 99, 3) := by decide +kernel
theorem dX3_bestPartner_23 : decode cX3_bestPartner 23 = .ok (.istore 5, 2) := by decide +kernel
theorem dX3_bestPartner_25 : decode cX3_bestPartner 25 = .ok (.iload 5, 2) := by decide +kernel
theorem dX3_bestPartner_27 : decode cX3_bestPartner 27 = .ok (.iload_n 3, 1) := by decide +kernel
theorem dX3_bestPartner_28 : decode cX3_bestPartner 28 = .ok (.if_icmp .le 9, 3) := by decide +kernel
theorem dX3_bestPartner_31 : decode cX3_bestPartner 31 = .ok (.iload 4, 2) := by decide +kernel
theorem dX3_bestPartner_33 : decode cX3_bestPartner 33 = .ok (.istore_n 2, 1) := by decide +kernel
theorem dX3_bestPartner_34 : decode cX3_bestPartner 34 = .ok (.iload 5, 2) := by decide +kernel
theorem dX3_bestPartner_36 : decode cX3_bestPartner 36 = .ok (.istore_n 3, 1) := by decide +kernel
theorem dX3_bestPartner_37 : decode cX3_bestPartner 37 = .ok (.iinc 4 1, 3) := by decide +kernel
theorem dX3_bestPartner_40 : decode cX3_bestPartner 40 = .ok (.goto (-33), 3) := by decide +kernel
theorem dX3_bestPartner_43 : decode cX3_bestPartner 43 = .ok (.iload_n 2, 1) := by decide +kernel
theorem dX3_bestPartner_44 : decode cX3_bestPartner 44 = .ok (.ireturn, 1) := by decide +kernel
theorem dX3_clear_0 : decode cX3_clear 0 = .ok (.aload_n 0, 1) := by decide +kernel
theorem dX3_clear_1 : decode cX3_clear 1 = .ok (.iconst 0, 1) := by decide +kernel
theorem dX3_clear_2 : decode cX3_clear 2 = .ok (.iconst 0, 1) := by decide +kernel
theorem dX3_clear_3 : decode cX3_clear 3 = .ok (.invokevirtual 36, 3) := by decide +kernel
theorem dX3_clear_6 : decode cX3_clear 6 = .ok (.aload_n 0, 1) := by decide +kernel
theorem dX3_clear_7 : decode cX3_clear 7 = .ok (.iconst 0, 1) := by decide +kernel
theorem dX3_clear_8 : decode cX3_clear 8 = .ok (.putfield 40, 3) := by decide +kernel
theorem dX3_clear_11 : decode cX3_clear 11 = .ok (.aload_n 0, 1) := by decide +kernel
theorem dX3_clear_12 : decode cX3_clear 12 = .ok (.iconst 0, 1) := by decide +kernel
theorem dX3_clear_13 : decode cX3_clear 13 = .ok (.putfield 44, 3) := by decide +kernel
theorem dX3_clear_16 : decode cX3_clear 16 = .ok (.aload_n 0, 1) := by decide +kernel
theorem dX3_clear_17 : decode cX3_clear 17 = .ok (.iconst 0, 1) := by decide +kernel
theorem dX3_clear_18 : decode cX3_clear 18 = .ok (.putfield 47, 3) := by decide +kernel
theorem dX3_clear_21 : decode cX3_clear 21 = .ok (.aload_n 0, 1) := by decide +kernel
theorem dX3_clear_22 : decode cX3_clear 22 = .ok (.iconst 0, 1) := by decide +kernel
theorem dX3_clear_23 : decode cX3_clear 23 = .ok (.putfield 50, 3) := by decide +kernel
theorem dX3_clear_26 : decode cX3_clear 26 = .ok (.aload_n 0, 1) := by decide +kernel
theorem dX3_clear_27 : decode cX3_clear 27 = .ok (.iconst 0, 1) := by decide +kernel
theorem dX3_clear_28 : decode cX3_clear 28 = .ok (.putfield 53, 3) := by decide +kernel
theorem dX3_clear_31 : decode cX3_clear 31 = .ok (.aload_n 0, 1) := by decide +kernel
theorem dX3_clear_32 : decode cX3_clear 32 = .ok (.iconst 0, 1) := by decide +kernel
theorem dX3_clear_33 : decode cX3_clear 33 = .ok (.putfield 56, 3) := by decide +kernel
theorem dX3_clear_36 : decode cX3_clear 36 = .ok (.return_, 1) := by decide +kernel
theorem dX3_copyFrom_0 : decode cX3_copyFrom 0 = .ok (.aload_n 0, 1) := by decide +kernel
theorem dX3_copyFrom_1 : decode cX3_copyFrom 1 = .ok (.aload_n 1, 1) := by decide +kernel
theorem dX3_copyFrom_2 : decode cX3_copyFrom 2 = .ok (.getfield 59, 3) := by decide +kernel
theorem dX3_copyFrom_5 : decode cX3_copyFrom 5 = .ok (.aload_n 1, 1) := by decide +kernel
theorem dX3_copyFrom_6 : decode cX3_copyFrom 6 = .ok (.getfield 62, 3) := by decide +kernel
theorem dX3_copyFrom_9 : decode cX3_copyFrom 9 = .ok (.invokevirtual 36, 3) := by decide +kernel
theorem dX3_copyFrom_12 : decode cX3_copyFrom 12 = .ok (.aload_n 0, 1) := by decide +kernel
theorem dX3_copyFrom_13 : decode cX3_copyFrom 13 = .ok (.aload_n 1, 1) := by decide +kernel
theorem dX3_copyFrom_14 : decode cX3_copyFrom 14 = .ok (.getfield 40, 3) := by decide +kernel
theorem dX3_copyFrom_17 : decode cX3_copyFrom 17 = .ok (.putfield 40, 3) := by decide +kernel
theorem dX3_copyFrom_20 : decode cX3_copyFrom 20 = .ok (.aload_n 0, 1) := by decide +kernel
theorem dX3_copyFrom_21 : decode cX3_copyFrom 21 = .ok (.aload_n 1, 1) := by decide +kernel
theorem dX3_copyFrom_22 : decode cX3_copyFrom 22 = .ok (.getfield 44, 3) := by decide +kernel
theorem dX3_copyFrom_25 : decode cX3_copyFrom 25 = .ok (.putfield 44, 3) := by decide +kernel
theorem dX3_copyFrom_28 : decode cX3_copyFrom 28 = .ok (.aload_n 0, 1) := by decide +kernel
theorem dX3_copyFrom_29 : decode cX3_copyFrom 29 = .ok (.aload_n 1, 1) := by decide +kernel
theorem dX3_copyFrom_30 : decode cX3_copyFrom 30 = .ok (.getfield 47, 3) := by decide +kernel
theorem dX3_copyFrom_33 : decode cX3_copyFrom 33 = .ok (.putfield 47, 3) := by decide +kernel
theorem dX3_copyFrom_36 : decode cX3_copyFrom 36 = .ok (.aload_n 0, 1) := by decide +kernel
theorem dX3_copyFrom_37 : decode cX3_copyFrom 37 = .ok (.aload_n 1, 1) := by decide +kernel
theorem dX3_copyFrom_38 : decode cX3_copyFrom 38 = .ok (.getfield 50, 3) := by decide +kernel
theorem dX3_copyFrom_41 : decode cX3_copyFrom 41 = .ok (.putfield 50, 3) := by decide +kernel
theorem dX3_copyFrom_44 : decode cX3_copyFrom 44 = .ok (.aload_n 0, 1) := by decide +kernel
theorem dX3_copyFrom_45 : decode cX3_copyFrom 45 = .ok (.aload_n 1, 1) := by decide +kernel
theorem dX3_copyFrom_46 : decode cX3_copyFrom 46 = .ok (.getfield 53, 3) := by decide +kernel
theorem dX3_copyFrom_49 : decode cX3_copyFrom 49 = .ok (.putfield 53, 3) := by decide +kernel
theorem dX3_copyFrom_52 : decode cX3_copyFrom 52 = .ok (.aload_n 0, 1) := by decide +kernel
theorem dX3_copyFrom_53 : decode cX3_copyFrom 53 = .ok (.aload_n 1, 1) := by decide +kernel
theorem dX3_copyFrom_54 : decode cX3_copyFrom 54 = .ok (.getfield 56, 3) := by decide +kernel
theorem dX3_copyFrom_57 : decode cX3_copyFrom 57 = .ok (.putfield 56, 3) := by decide +kernel
theorem dX3_copyFrom_60 : decode cX3_copyFrom 60 = .ok (.aload_n 1, 1) := by decide +kernel
theorem dX3_copyFrom_61 : decode cX3_copyFrom 61 = .ok (.getfield 9, 3) := by decide +kernel
theorem dX3_copyFrom_64 : decode cX3_copyFrom 64 = .ok (.iconst 0, 1) := by decide +kernel
theorem dX3_copyFrom_65 : decode cX3_copyFrom 65 = .ok (.aload_n 0, 1) := by decide +kernel
theorem dX3_copyFrom_66 : decode cX3_copyFrom 66 = .ok (.getfield 9, 3) := by decide +kernel
theorem dX3_copyFrom_69 : decode cX3_copyFrom 69 = .ok (.iconst 0, 1) := by decide +kernel
theorem dX3_copyFrom_70 : decode cX3_copyFrom 70 = .ok (.bipush 8, 2) := by decide +kernel
theorem dX3_copyFrom_72 : decode cX3_copyFrom 72 = .ok (.invokestatic 65, 3) := by decide +kernel
theorem dX3_copyFrom_75 : decode cX3_copyFrom 75 = .ok (.aload_n 1, 1) := by decide +kernel
theorem dX3_copyFrom_76 : decode cX3_copyFrom 76 = .ok (.getfield 15, 3) := by decide +kernel
theorem dX3_copyFrom_79 : decode cX3_copyFrom 79 = .ok (.iconst 0, 1) := by decide +kernel
theorem dX3_copyFrom_80 : decode cX3_copyFrom 80 = .ok (.aload_n 0, 1) := by decide +kernel
theorem dX3_copyFrom_81 : decode cX3_copyFrom 81 = .ok (.getfield 15, 3) := by decide +kernel
theorem dX3_copyFrom_84 : decode cX3_copyFrom 84 = .ok (.iconst 0, 1) := by decide +kernel
theorem dX3_copyFrom_85 : decode cX3_copyFrom 85 = .ok (.bipush 8, 2) := by decide +kernel
theorem dX3_copyFrom_87 : decode cX3_copyFrom 87 = .ok (.invokestatic 65, 3) := by decide +kernel
theorem dX3_copyFrom_90 : decode cX3_copyFrom 90 = .ok (.aload_n 1, 1) := by decide +kernel
theorem dX3_copyFrom_91 : decode cX3_copyFrom 91 = .ok (.getfield 18, 3) := by decide +kernel
theorem dX3_copyFrom_94 : decode cX3_copyFrom 94 = .ok (.iconst 0, 1) := by decide +kernel
theorem dX3_copyFrom_95 : decode cX3_copyFrom 95 = .ok (.aload_n 0, 1) := by decide +kernel
theorem dX3_copyFrom_96 : decode cX3_copyFrom 96 = .ok (.getfield 18, 3) := by decide +kernel
theorem dX3_copyFrom_99 : decode cX3_copyFrom 99 = .ok (.iconst 0, 1) := by decide +kernel
theorem dX3_copyFrom_100 : decode cX3_copyFrom 100 = .ok (.bipush 8, 2) := by decide +kernel
theorem dX3_copyFrom_102 : decode cX3_copyFrom 102 = .ok (.invokestatic 65, 3) := by decide +kernel
theorem dX3_copyFrom_105 : decode cX3_copyFrom 105 = .ok (.aload_n 1, 1) := by decide +kernel
theorem dX3_copyFrom_106 : decode cX3_copyFrom 106 = .ok (.getfield 21, 3) := by decide +kernel
theorem dX3_copyFrom_109 : decode cX3_copyFrom 109 = .ok (.iconst 0, 1) := by decide +kernel
theorem dX3_copyFrom_110 : decode cX3_copyFrom 110 = .ok (.aload_n 0, 1) := by decide +kernel
theorem dX3_copyFrom_111 : decode cX3_copyFrom 111 = .ok (.getfield 21, 3) := by decide +kernel
theorem dX3_copyFrom_114 : decode cX3_copyFrom 114 = .ok (.iconst 0, 1) := by decide +kernel
theorem dX3_copyFrom_115 : decode cX3_copyFrom 115 = .ok (.bipush 7, 2) := by decide +kernel
theorem dX3_copyFrom_117 : decode cX3_copyFrom 117 = .ok (.invokestatic 65, 3) := by decide +kernel
theorem dX3_copyFrom_120 : decode cX3_copyFrom 120 = .ok (.aload_n 1, 1) := by decide +kernel
theorem dX3_copyFrom_121 : decode cX3_copyFrom 121 = .ok (.getfield 24, 3) := by decide +kernel
theorem dX3_copyFrom_124 : decode cX3_copyFrom 124 = .ok (.iconst 0, 1) := by decide +kernel
theorem dX3_copyFrom_125 : decode cX3_copyFrom 125 = .ok (.aload_n 0, 1) := by decide +kernel
theorem dX3_copyFrom_126 : decode cX3_copyFrom 126 = .ok (.getfield 24, 3) := by decide +kernel
theorem dX3_copyFrom_129 : decode cX3_copyFrom 129 = .ok (.iconst 0, 1) := by decide +kernel
theorem dX3_copyFrom_130 : decode cX3_copyFrom 130 = .ok (.bipush 7, 2) := by decide +kernel
theorem dX3_copyFrom_132 : decode cX3_copyFrom 132 = .ok (.invokestatic 65, 3) := by decide +kernel
theorem dX3_copyFrom_135 : decode cX3_copyFrom 135 = .ok (.aload_n 1, 1) := by decide +kernel
theorem dX3_copyFrom_136 : decode cX3_copyFrom 136 = .ok (.getfield 27, 3) := by decide +kernel
theorem dX3_copyFrom_139 : decode cX3_copyFrom 139 = .ok (.iconst 0, 1) := by decide +kernel
theorem dX3_copyFrom_140 : decode cX3_copyFrom 140 = .ok (.aload_n 0, 1) := by decide +kernel
theorem dX3_copyFrom_141 : decode cX3_copyFrom 141 = .ok (.getfield 27, 3) := by decide +kernel
theorem dX3_copyFrom_144 : decode cX3_copyFrom 144 = .ok (.iconst 0, 1) := by decide +kernel
theorem dX3_copyFrom_145 : decode cX3_copyFrom 145 = .ok (.bipush 7, 2) := by decide +kernel
theorem dX3_copyFrom_147 : decode cX3_copyFrom 147 = .ok (.invokestatic 65, 3) := by decide +kernel
theorem dX3_copyFrom_150 : decode cX3_copyFrom 150 = .ok (.aload_n 1, 1) := by decide +kernel
theorem dX3_copyFrom_151 : decode cX3_copyFrom 151 = .ok (.getfield 30, 3) := by decide +kernel
theorem dX3_copyFrom_154 : decode cX3_copyFrom 154 = .ok (.iconst 0, 1) := by decide +kernel
theorem dX3_copyFrom_155 : decode cX3_copyFrom 155 = .ok (.aload_n 0, 1) := by decide +kernel
theorem dX3_copyFrom_156 : decode cX3_copyFrom 156 = .ok (.getfield 30, 3) := by decide +kernel
theorem dX3_copyFrom_159 : decode cX3_copyFrom 159 = .ok (.iconst 0, 1) := by decide +kernel
theorem dX3_copyFrom_160 : decode cX3_copyFrom 160 = .ok (.iconst 4, 1) := by decide +kernel
theorem dX3_copyFrom_161 : decode cX3_copyFrom 161 = .ok (.invokestatic 65, 3) := by decide +kernel
theorem dX3_copyFrom_164 : decode cX3_copyFrom 164 = .ok (.aload_n 1, 1) := by decide +kernel
theorem dX3_copyFrom_165 : decode cX3_copyFrom 165 = .ok (.getfield 33, 3) := by decide +kernel
theorem dX3_copyFrom_168 : decode cX3_copyFrom 168 = .ok (.iconst 0, 1) := by decide +kernel
theorem dX3_copyFrom_169 : decode cX3_copyFrom 169 = .ok (.aload_n 0, 1) := by decide +kernel
theorem dX3_copyFrom_170 : decode cX3_copyFrom 170 = .ok (.getfield 33, 3) := by decide +kernel
theorem dX3_copyFrom_173 : decode cX3_copyFrom 173 = .ok (.iconst 0, 1) := by decide +kernel
theorem dX3_copyFrom_174 : decode cX3_copyFrom 174 = .ok (.iconst 4, 1) := by decide +kernel
theorem dX3_copyFrom_175 : decode cX3_copyFrom 175 = .ok (.invokestatic 65, 3) := by decide +kernel
theorem dX3_copyFrom_178 : decode cX3_copyFrom 178 = .ok (.return_, 1) := by decide +kernel
theorem dX3_exists_0 : decode cX3_exists 0 = .ok (.aload_n 0, 1) := by decide +kernel
theorem dX3_exists_1 : decode cX3_exists 1 = .ok (.getfield 47, 3) := by decide +kernel
theorem dX3_exists_4 : decode cX3_exists 4 = .ok (.ifCond .le 7, 3) := by decide +kernel
theorem dX3_exists_7 : decode cX3_exists 7 = .ok (.iconst 1, 1) := by decide +kernel
theorem dX3_exists_8 : decode cX3_exists 8 = .ok (.goto 4, 3) := by decide +kernel
theorem dX3_exists_11 : decode cX3_exists 11 = .ok (.iconst 0, 1) := by decide +kernel
theorem dX3_exists_12 : decode cX3_exists 12 = .ok (.ireturn, 1) := by decide +kernel
theorem dX3_farOf_0 : decode cX3_farOf 0 = .ok (.iload_n 1, 1) := by decide +kernel
theorem dX3_farOf_1 : decode cX3_farOf 1 = .ok (.ifCond .ne 10, 3) := by decide +kernel
theorem dX3_farOf_4 : decode cX3_farOf 4 = .ok (.aload_n 0, 1) := by decide +kernel
theorem dX3_farOf_5 : decode cX3_farOf 5 = .ok (.getfield 59, 3) := by decide +kernel
theorem dX3_farOf_8 : decode cX3_farOf 8 = .ok (.goto 7, 3) := by decide +kernel
theorem dX3_farOf_11 : decode cX3_farOf 11 = .ok (.aload_n 0, 1) := by decide +kernel
theorem dX3_farOf_12 : decode cX3_farOf 12 = .ok (.getfield 62, 3) := by decide +kernel
theorem dX3_farOf_15 : decode cX3_farOf 15 = .ok (.ireturn, 1) := by decide +kernel
theorem dX3_giftOf_0 : decode cX3_giftOf 0 = .ok (.aload_n 0, 1) := by decide +kernel
theorem dX3_giftOf_1 : decode cX3_giftOf 1 = .ok (.iload_n 1, 1) := by decide +kernel
theorem dX3_giftOf_2 : decode cX3_giftOf 2 = .ok (.invokevirtual 83, 3) := by decide +kernel
theorem dX3_giftOf_5 : decode cX3_giftOf 5 = .ok (.ifCond .ne 5, 3) := by decide +kernel
theorem dX3_giftOf_8 : decode cX3_giftOf 8 = .ok (.iconst 0, 1) := by decide +kernel
theorem dX3_giftOf_9 : decode cX3_giftOf 9 = .ok (.ireturn, 1) := by decide +kernel
theorem dX3_giftOf_10 : decode cX3_giftOf 10 = .ok (.iload_n 2, 1) := by decide +kernel
theorem dX3_giftOf_11 : decode cX3_giftOf 11 = .ok (.ifCond .ne 12, 3) := by decide +kernel
theorem dX3_giftOf_14 : decode cX3_giftOf 14 = .ok (.aload_n 0, 1) := by decide +kernel
theorem dX3_giftOf_15 : decode cX3_giftOf 15 = .ok (.getfield 24, 3) := by decide +kernel
theorem dX3_giftOf_18 : decode cX3_giftOf 18 = .ok (.iload_n 1, 1) := by decide +kernel
theorem dX3_giftOf_19 : decode cX3_giftOf 19 = .ok (.iaload, 1) := by decide +kernel
theorem dX3_giftOf_20 : decode cX3_giftOf 20 = .ok (.goto 9, 3) := by decide +kernel
theorem dX3_giftOf_23 : decode cX3_giftOf 23 = .ok (.aload_n 0, 1) := by decide +kernel
theorem dX3_giftOf_24 : decode cX3_giftOf 24 = .ok (.getfield 27, 3) := by decide +kernel
theorem dX3_giftOf_27 : decode cX3_giftOf 27 = .ok (.iload_n 1, 1) := by decide +kernel
theorem dX3_giftOf_28 : decode cX3_giftOf 28 = .ok (.iaload, 1) := by decide +kernel
theorem dX3_giftOf_29 : decode cX3_giftOf 29 = .ok (.ireturn, 1) := by decide +kernel
theorem dX3_gripOf_0 : decode cX3_gripOf 0 = .ok (.aload_n 0, 1) := by decide +kernel
theorem dX3_gripOf_1 : decode cX3_gripOf 1 = .ok (.iload_n 1, 1) := by decide +kernel
theorem dX3_gripOf_2 : decode cX3_gripOf 2 = .ok (.invokevirtual 79, 3) := by decide +kernel
theorem dX3_gripOf_5 : decode cX3_gripOf 5 = .ok (.ifCond .eq 12, 3) := by decide +kernel
theorem dX3_gripOf_8 : decode cX3_gripOf 8 = .ok (.aload_n 0, 1) := by decide +kernel
theorem dX3_gripOf_9 : decode cX3_gripOf 9 = .ok (.getfield 15, 3) := by decide +kernel
theorem dX3_gripOf_12 : decode cX3_gripOf 12 = .ok (.iload_n 1, 1) := by decide +kernel
theorem dX3_gripOf_13 : decode cX3_gripOf 13 = .ok (.iaload, 1) := by decide +kernel
theorem dX3_gripOf_14 : decode cX3_gripOf 14 = .ok (.goto 4, 3) := by decide +kernel
theorem dX3_gripOf_17 : decode cX3_gripOf 17 = .ok (.iconst (-1), 1) := by decide +kernel
theorem dX3_gripOf_18 : decode cX3_gripOf 18 = .ok (.ireturn, 1) := by decide +kernel
theorem dX3_hasClause_0 : decode cX3_hasClause 0 = .ok (.iload_n 1, 1) := by decide +kernel
theorem dX3_hasClause_1 : decode cX3_hasClause 1 = .ok (.ifCond .lt 21, 3) := by decide +kernel
theorem dX3_hasClause_4 : decode cX3_hasClause 4 = .ok (.iload_n 1, 1) := by decide +kernel
theorem dX3_hasClause_5 : decode cX3_hasClause 5 = .ok (.aload_n 0, 1) := by decide +kernel
theorem dX3_hasClause_6 : decode cX3_hasClause 6 = .ok (.getfield 53, 3) := by decide +kernel
theorem dX3_hasClause_9 : decode cX3_hasClause 9 = .ok (.if_icmp .ge 13, 3) := by decide +kernel
theorem dX3_hasClause_12 : decode cX3_hasClause 12 = .ok (.iload_n 1, 1) := by decide +kernel
theorem dX3_hasClause_13 : decode cX3_hasClause 13 = .ok (.bipush 7, 2) := by decide +kernel
theorem dX3_hasClause_15 : decode cX3_hasClause 15 = .ok (.if_icmp .ge 7, 3) := by decide +kernel
theorem dX3_hasClause_18 : decode cX3_hasClause 18 = .ok (.iconst 1, 1) := by decide +kernel
theorem dX3_hasClause_19 : decode cX3_hasClause 19 = .ok (.goto 4, 3) := by decide +kernel
theorem dX3_hasClause_22 : decode cX3_hasClause 22 = .ok (.iconst 0, 1) := by decide +kernel
theorem dX3_hasClause_23 : decode cX3_hasClause 23 = .ok (.ireturn, 1) := by decide +kernel
theorem dX3_hasMan_0 : decode cX3_hasMan 0 = .ok (.iload_n 1, 1) := by decide +kernel
theorem dX3_hasMan_1 : decode cX3_hasMan 1 = .ok (.ifCond .lt 21, 3) := by decide +kernel
theorem dX3_hasMan_4 : decode cX3_hasMan 4 = .ok (.iload_n 1, 1) := by decide +kernel
theorem dX3_hasMan_5 : decode cX3_hasMan 5 = .ok (.aload_n 0, 1) := by decide +kernel
theorem dX3_hasMan_6 : decode cX3_hasMan 6 = .ok (.getfield 50, 3) := by decide +kernel
theorem dX3_hasMan_9 : decode cX3_hasMan 9 = .ok (.if_icmp .ge 13, 3) := by decide +kernel
theorem dX3_hasMan_12 : decode cX3_hasMan 12 = .ok (.iload_n 1, 1) := by decide +kernel
theorem dX3_hasMan_13 : decode cX3_hasMan 13 = .ok (.bipush 8, 2) := by decide +kernel
theorem dX3_hasMan_15 : decode cX3_hasMan 15 = .ok (.if_icmp .ge 7, 3) := by decide +kernel
theorem dX3_hasMan_18 : decode cX3_hasMan 18 = .ok (.iconst 1, 1) := by decide +kernel
theorem dX3_hasMan_19 : decode cX3_hasMan 19 = .ok (.goto 4, 3) := by decide +kernel
theorem dX3_hasMan_22 : decode cX3_hasMan 22 = .ok (.iconst 0, 1) := by decide +kernel
theorem dX3_hasMan_23 : decode cX3_hasMan 23 = .ok (.ireturn, 1) := by decide +kernel
theorem dX3_hasSide_0 : decode cX3_hasSide 0 = .ok (.aload_n 0, 1) := by decide +kernel
theorem dX3_hasSide_1 : decode cX3_hasSide 1 = .ok (.invokevirtual 71, 3) := by decide +kernel
theorem dX3_hasSide_4 : decode cX3_hasSide 4 = .ok (.ifCond .eq 16, 3) := by decide +kernel
theorem dX3_hasSide_7 : decode cX3_hasSide 7 = .ok (.iload_n 1, 1) := by decide +kernel
theorem dX3_hasSide_8 : decode cX3_hasSide 8 = .ok (.iconst 0, 1) := by decide +kernel
theorem dX3_hasSide_9 : decode cX3_hasSide 9 = .ok (.iconst 1, 1) := by decide +kernel
theorem dX3_hasSide_10 : decode cX3_hasSide 10 = .ok (.invokestatic 75, 3) := by decide +kernel
theorem dX3_hasSide_13 : decode cX3_hasSide 13 = .ok (.ifCond .eq 7, 3) := by decide +kernel
theorem dX3_hasSide_16 : decode cX3_hasSide 16 = .ok (.iconst 1, 1) := by decide +kernel
theorem dX3_hasSide_17 : decode cX3_hasSide 17 = .ok (.goto 4, 3) := by decide +kernel
theorem dX3_hasSide_20 : decode cX3_hasSide 20 = .ok (.iconst 0, 1) := by decide +kernel
theorem dX3_hasSide_21 : decode cX3_hasSide 21 = .ok (.ireturn, 1) := by decide +kernel
theorem dX3_holdByGrips_0 : decode cX3_holdByGrips 0 = .ok (.aload_n 0, 1) := by decide +kernel
theorem dX3_holdByGrips_1 : decode cX3_holdByGrips 1 = .ok (.iload_n 1, 1) := by decide +kernel
theorem dX3_holdByGrips_2 : decode cX3_holdByGrips 2 = .ok (.invokevirtual 79, 3) := by decide +kernel
theorem dX3_holdByGrips_5 : decode cX3_holdByGrips 5 = .ok (.ifCond .eq 11, 3) := by decide +kernel
theorem dX3_holdByGrips_8 : decode cX3_holdByGrips 8 = .ok (.aload_n 0, 1) := by decide +kernel
theorem dX3_holdByGrips_9 : decode cX3_holdByGrips 9 = .ok (.iload_n 2, 1) := by decide +kernel
theorem dX3_holdByGrips_10 : decode cX3_holdByGrips 10 = .ok (.invokevirtual 79, 3) := by decide +kernel
theorem dX3_holdByGrips_13 : decode cX3_holdByGrips 13 = .ok (.ifCond .ne 6, 3) := by decide +kernel
theorem dX3_holdByGrips_16 : decode cX3_holdByGrips 16 = .ok (.bipush (-2), 2) := by decide +kernel
theorem dX3_holdByGrips_18 : decode cX3_holdByGrips 18 = .ok (.ireturn, 1) := by decide +kernel
theorem dX3_holdByGrips_19 : decode cX3_holdByGrips 19 = .ok (.iload_n 3, 1) := by decide +kernel
theorem dX3_holdByGrips_20 : decode cX3_holdByGrips 20 = .ok (.iload 4, 2) := by decide +kernel
theorem dX3_holdByGrips_22 : decode cX3_holdByGrips 22 = .ok (.invokestatic 90, 3) := by decide +kernel
theorem dX3_holdByGrips_25 : decode cX3_holdByGrips 25 = .ok (.aload_n 0, 1) := by decide +kernel
theorem dX3_holdByGrips_26 : decode cX3_holdByGrips 26 = .ok (.getfield 18, 3) := by decide +kernel
theorem dX3_holdByGrips_29 : decode cX3_holdByGrips 29 = .ok (.iload_n 1, 1) := by decide +kernel
theorem dX3_holdByGrips_30 : decode cX3_holdByGrips 30 = .ok (.iaload, 1) := by decide +kernel
theorem dX3_holdByGrips_31 : decode cX3_holdByGrips 31 = .ok (.aload_n 0, 1) := by decide +kernel
theorem dX3_holdByGrips_32 : decode cX3_holdByGrips 32 = .ok (.getfield 18, 3) := by decide +kernel
theorem dX3_holdByGrips_35 : decode cX3_holdByGrips 35 = .ok (.iload_n 2, 1) := by decide +kernel
theorem dX3_holdByGrips_36 : decode cX3_holdByGrips 36 = .ok (.iaload, 1) := by decide +kernel
theorem dX3_holdByGrips_37 : decode cX3_holdByGrips 37 = .ok (.invokestatic 90, 3) := by decide +kernel
theorem dX3_holdByGrips_40 : decode cX3_holdByGrips 40 = .ok (.iadd, 1) := by decide +kernel
theorem dX3_holdByGrips_41 : decode cX3_holdByGrips 41 = .ok (.ireturn, 1) := by decide +kernel
theorem dX3_holdOrRefusal_0 : decode cX3_holdOrRefusal 0 = .ok (.aload_n 0, 1) := by decide +kernel
theorem dX3_holdOrRefusal_1 : decode cX3_holdOrRefusal 1 = .ok (.iload_n 1, 1) := by decide +kernel
theorem dX3_holdOrRefusal_2 : decode cX3_holdOrRefusal 2 = .ok (.invokevirtual 79, 3) := by decide +kernel
theorem dX3_holdOrRefusal_5 : decode cX3_holdOrRefusal 5 = .ok (.ifCond .eq 11, 3) := by decide +kernel
theorem dX3_holdOrRefusal_8 : decode cX3_holdOrRefusal 8 = .ok (.aload_n 0, 1) := by decide +kernel
theorem dX3_holdOrRefusal_9 : decode cX3_holdOrRefusal 9 = .ok (.iload_n 2, 1) := by decide +kernel
theorem dX3_holdOrRefusal_10 : decode cX3_holdOrRefusal 10 = .ok (.invokevirtual 79, 3) := by decide +kernel
theorem dX3_holdOrRefusal_13 : decode cX3_holdOrRefusal 13 = .ok (.ifCond .ne 6, 3) := by decide +kernel
theorem dX3_holdOrRefusal_16 : decode cX3_holdOrRefusal 16 = .ok (.bipush (-2), 2) := by decide +kernel
theorem dX3_holdOrRefusal_18 : decode cX3_holdOrRefusal 18 = .ok (.ireturn, 1) := by decide +kernel
theorem dX3_holdOrRefusal_19 : decode cX3_holdOrRefusal 19 = .ok (.aload_n 0, 1) := by decide +kernel
theorem dX3_holdOrRefusal_20 : decode cX3_holdOrRefusal 20 = .ok (.getfield 9, 3) := by decide +kernel
theorem dX3_holdOrRefusal_23 : decode cX3_holdOrRefusal 23 = .ok (.iload_n 1, 1) := by decide +kernel
theorem dX3_holdOrRefusal_24 : decode cX3_holdOrRefusal 24 = .ok (.iaload, 1) := by decide +kernel
theorem dX3_holdOrRefusal_25 : decode cX3_holdOrRefusal 25 = .ok (.aload_n 0, 1) := by decide +kernel
theorem dX3_holdOrRefusal_26 : decode cX3_holdOrRefusal 26 = .ok (.getfield 9, 3) := by decide +kernel
theorem dX3_holdOrRefusal_29 : decode cX3_holdOrRefusal 29 = .ok (.iload_n 2, 1) := by decide +kernel
theorem dX3_holdOrRefusal_30 : decode cX3_holdOrRefusal 30 = .ok (.iaload, 1) := by decide +kernel
theorem dX3_holdOrRefusal_31 : decode cX3_holdOrRefusal 31 = .ok (.if_icmp .ne 5, 3) := by decide +kernel
theorem dX3_holdOrRefusal_34 : decode cX3_holdOrRefusal 34 = .ok (.iconst (-1), 1) := by decide +kernel
theorem dX3_holdOrRefusal_35 : decode cX3_holdOrRefusal 35 = .ok (.ireturn, 1) := by decide +kernel
theorem dX3_holdOrRefusal_36 : decode cX3_holdOrRefusal 36 = .ok (.aload_n 0, 1) := by decide +kernel
theorem dX3_holdOrRefusal_37 : decode cX3_holdOrRefusal 37 = .ok (.iload_n 1, 1) := by decide +kernel
theorem dX3_holdOrRefusal_38 : decode cX3_holdOrRefusal 38 = .ok (.iload_n 2, 1) := by decide +kernel
theorem dX3_holdOrRefusal_39 : decode cX3_holdOrRefusal 39 = .ok (.aload_n 0, 1) := by decide +kernel
theorem dX3_holdOrRefusal_40 : decode cX3_holdOrRefusal 40 = .ok (.getfield 15, 3) := by decide +kernel
theorem dX3_holdOrRefusal_43 : decode cX3_holdOrRefusal 43 = .ok (.iload_n 1, 1) := by decide +kernel
theorem dX3_holdOrRefusal_44 : decode cX3_holdOrRefusal 44 = .ok (.iaload, 1) := by decide +kernel
theorem dX3_holdOrRefusal_45 : decode cX3_holdOrRefusal 45 = .ok (.aload_n 0, 1) := by decide +kernel
theorem dX3_holdOrRefusal_46 : decode cX3_holdOrRefusal 46 = .ok (.getfield 15, 3) := by decide +kernel
theorem dX3_holdOrRefusal_49 : decode cX3_holdOrRefusal 49 = .ok (.iload_n 2, 1) := by decide +kernel
theorem dX3_holdOrRefusal_50 : decode cX3_holdOrRefusal 50 = .ok (.iaload, 1) := by decide +kernel
theorem dX3_holdOrRefusal_51 : decode cX3_holdOrRefusal 51 = .ok (.invokevirtual 86, 3) := by decide +kernel
theorem dX3_holdOrRefusal_54 : decode cX3_holdOrRefusal 54 = .ok (.ireturn, 1) := by decide +kernel
theorem dX3_init_0 : decode cX3_init 0 = .ok (.aload_n 0, 1) := by decide +kernel
theorem dX3_init_1 : decode cX3_init 1 = .ok (.invokespecial 3, 3) := by decide +kernel
theorem dX3_init_4 : decode cX3_init 4 = .ok (.aload_n 0, 1) := by decide +kernel
theorem dX3_init_5 : decode cX3_init 5 = .ok (.bipush 8, 2) := by decide +kernel
theorem dX3_init_7 : decode cX3_init 7 = .ok (.newarray .int, 2) := by decide +kernel
theorem dX3_init_9 : decode cX3_init 9 = .ok (.putfield 9, 3) := by decide +kernel
theorem dX3_init_12 : decode cX3_init 12 = .ok (.aload_n 0, 1) := by decide +kernel
theorem dX3_init_13 : decode cX3_init 13 = .ok (.bipush 8, 2) := by decide +kernel
theorem dX3_init_15 : decode cX3_init 15 = .ok (.newarray .int, 2) := by decide +kernel
theorem dX3_init_17 : decode cX3_init 17 = .ok (.putfield 15, 3) := by decide +kernel
theorem dX3_init_20 : decode cX3_init 20 = .ok (.aload_n 0, 1) := by decide +kernel
theorem dX3_init_21 : decode cX3_init 21 = .ok (.bipush 8, 2) := by decide +kernel
theorem dX3_init_23 : decode cX3_init 23 = .ok (.newarray .int, 2) := by decide +kernel
theorem dX3_init_25 : decode cX3_init 25 = .ok (.putfield 18, 3) := by decide +kernel
theorem dX3_init_28 : decode cX3_init 28 = .ok (.aload_n 0, 1) := by decide +kernel
theorem dX3_init_29 : decode cX3_init 29 = .ok (.bipush 7, 2) := by decide +kernel
theorem dX3_init_31 : decode cX3_init 31 = .ok (.newarray .int, 2) := by decide +kernel
theorem dX3_init_33 : decode cX3_init 33 = .ok (.putfield 21, 3) := by decide +kernel
theorem dX3_init_36 : decode cX3_init 36 = .ok (.aload_n 0, 1) := by decide +kernel
theorem dX3_init_37 : decode cX3_init 37 = .ok (.bipush 7, 2) := by decide +kernel
theorem dX3_init_39 : decode cX3_init 39 = .ok (.newarray .int, 2) := by decide +kernel
theorem dX3_init_41 : decode cX3_init 41 = .ok (.putfield 24, 3) := by decide +kernel
theorem dX3_init_44 : decode cX3_init 44 = .ok (.aload_n 0, 1) := by decide +kernel
theorem dX3_init_45 : decode cX3_init 45 = .ok (.bipush 7, 2) := by decide +kernel
theorem dX3_init_47 : decode cX3_init 47 = .ok (.newarray .int, 2) := by decide +kernel
theorem dX3_init_49 : decode cX3_init 49 = .ok (.putfield 27, 3) := by decide +kernel
theorem dX3_init_52 : decode cX3_init 52 = .ok (.aload_n 0, 1) := by decide +kernel
theorem dX3_init_53 : decode cX3_init 53 = .ok (.iconst 4, 1) := by decide +kernel
theorem dX3_init_54 : decode cX3_init 54 = .ok (.newarray .int, 2) := by decide +kernel
theorem dX3_init_56 : decode cX3_init 56 = .ok (.putfield 30, 3) := by decide +kernel
theorem dX3_init_59 : decode cX3_init 59 = .ok (.aload_n 0, 1) := by decide +kernel
theorem dX3_init_60 : decode cX3_init 60 = .ok (.iconst 4, 1) := by decide +kernel
theorem dX3_init_61 : decode cX3_init 61 = .ok (.newarray .int, 2) := by decide +kernel
theorem dX3_init_63 : decode cX3_init 63 = .ok (.putfield 33, 3) := by decide +kernel
theorem dX3_init_66 : decode cX3_init 66 = .ok (.return_, 1) := by decide +kernel
theorem dX3_isWindy_0 : decode cX3_isWindy 0 = .ok (.iload_n 1, 1) := by decide +kernel
theorem dX3_isWindy_1 : decode cX3_isWindy 1 = .ok (.sipush 999, 3) := by decide +kernel
theorem dX3_isWindy_4 : decode cX3_isWindy 4 = .ok (.if_icmp .le 5, 3) := by decide +kernel
theorem dX3_isWindy_7 : decode cX3_isWindy 7 = .ok (.iconst 0, 1) := by decide +kernel
theorem dX3_isWindy_8 : decode cX3_isWindy 8 = .ok (.ireturn, 1) := by decide +kernel
theorem dX3_isWindy_9 : decode cX3_isWindy 9 = .ok (.iconst 0, 1) := by decide +kernel
theorem dX3_isWindy_10 : decode cX3_isWindy 10 = .ok (.istore_n 2, 1) := by decide +kernel
theorem dX3_isWindy_11 : decode cX3_isWindy 11 = .ok (.iload_n 2, 1) := by decide +kernel
theorem dX3_isWindy_12 : decode cX3_isWindy 12 = .ok (.aload_n 0, 1) := by decide +kernel
theorem dX3_isWindy_13 : decode cX3_isWindy 13 = .ok (.getfield 56, 3) := by decide +kernel
theorem dX3_isWindy_16 : decode cX3_isWindy 16 = .ok (.if_icmp .ge 35, 3) := by decide +kernel
theorem dX3_isWindy_19 : decode cX3_isWindy 19 = .ok (.iload_n 2, 1) := by decide +kernel
theorem dX3_isWindy_20 : decode cX3_isWindy 20 = .ok (.iconst 4, 1) := by decide +kernel
theorem dX3_isWindy_21 : decode cX3_isWindy 21 = .ok (.if_icmp .ge 30, 3) := by decide +kernel
theorem dX3_isWindy_24 : decode cX3_isWindy 24 = .ok (.iload_n 1, 1) := by decide +kernel
theorem dX3_isWindy_25 : decode cX3_isWindy 25 = .ok (.aload_n 0, 1) := by decide +kernel
theorem dX3_isWindy_26 : decode cX3_isWindy 26 = .ok (.getfield 30, 3) := by decide +kernel
theorem dX3_isWindy_29 : decode cX3_isWindy 29 = .ok (.iload_n 2, 1) := by decide +kernel
theorem dX3_isWindy_30 : decode cX3_isWindy 30 = .ok (.iaload, 1) := by decide +kernel
theorem dX3_isWindy_31 : decode cX3_isWindy 31 = .ok (.aload_n 0, 1) := by decide +kernel
theorem dX3_isWindy_32 : decode cX3_isWindy 32 = .ok (.getfield 33, 3) := by decide +kernel
theorem dX3_isWindy_35 : decode cX3_isWindy 35 = .ok (.iload_n 2, 1) := by decide +kernel
theorem dX3_isWindy_36 : decode cX3_isWindy 36 = .ok (.iaload, 1) := by decide +kernel
theorem dX3_isWindy_37 : decode cX3_isWindy 37 = .ok (.invokestatic 75, 3) := by decide +kernel
theorem dX3_isWindy_40 : decode cX3_isWindy 40 = .ok (.ifCond .eq 5, 3) := by decide +kernel
theorem dX3_isWindy_43 : decode cX3_isWindy 43 = .ok (.iconst 1, 1) := by decide +kernel
theorem dX3_isWindy_44 : decode cX3_isWindy 44 = .ok (.ireturn, 1) := by decide +kernel
theorem dX3_isWindy_45 : decode cX3_isWindy 45 = .ok (.iinc 2 1, 3) := by decide +kernel
theorem dX3_isWindy_48 : decode cX3_isWindy 48 = .ok (.goto (-37), 3) := by decide +kernel
theorem dX3_isWindy_51 : decode cX3_isWindy 51 = .ok (.iconst 0, 1) := by decide +kernel
theorem dX3_isWindy_52 : decode cX3_isWindy 52 = .ok (.ireturn, 1) := by decide +kernel
theorem dX3_lengthOf_0 : decode cX3_lengthOf 0 = .ok (.aload_n 0, 1) := by decide +kernel
theorem dX3_lengthOf_1 : decode cX3_lengthOf 1 = .ok (.iload_n 1, 1) := by decide +kernel
theorem dX3_lengthOf_2 : decode cX3_lengthOf 2 = .ok (.invokevirtual 83, 3) := by decide +kernel
theorem dX3_lengthOf_5 : decode cX3_lengthOf 5 = .ok (.ifCond .eq 12, 3) := by decide +kernel
theorem dX3_lengthOf_8 : decode cX3_lengthOf 8 = .ok (.aload_n 0, 1) := by decide +kernel
theorem dX3_lengthOf_9 : decode cX3_lengthOf 9 = .ok (.getfield 21, 3) := by decide +kernel
theorem dX3_lengthOf_12 : decode cX3_lengthOf 12 = .ok (.iload_n 1, 1) := by decide +kernel
theorem dX3_lengthOf_13 : decode cX3_lengthOf 13 = .ok (.iaload, 1) := by decide +kernel
theorem dX3_lengthOf_14 : decode cX3_lengthOf 14 = .ok (.goto 4, 3) := by decide +kernel
theorem dX3_lengthOf_17 : decode cX3_lengthOf 17 = .ok (.iconst 0, 1) := by decide +kernel
theorem dX3_lengthOf_18 : decode cX3_lengthOf 18 = .ok (.ireturn, 1) := by decide +kernel
theorem dX3_resinedHold_0 : decode cX3_resinedHold 0 = .ok (.aload_n 0, 1) := by decide +kernel
theorem dX3_resinedHold_1 : decode cX3_resinedHold 1 = .ok (.iload_n 1, 1) := by decide +kernel
theorem dX3_resinedHold_2 : decode cX3_resinedHold 2 = .ok (.invokevirtual 79, 3) := by decide +kernel
theorem dX3_resinedHold_5 : decode cX3_resinedHold 5 = .ok (.ifCond .eq 11, 3) := by decide +kernel
theorem dX3_resinedHold_8 : decode cX3_resinedHold 8 = .ok (.aload_n 0, 1) := by decide +kernel
theorem dX3_resinedHold_9 : decode cX3_resinedHold 9 = .ok (.iload_n 2, 1) := by decide +kernel
theorem dX3_resinedHold_10 : decode cX3_resinedHold 10 = .ok (.invokevirtual 79, 3) := by decide +kernel
theorem dX3_resinedHold_13 : decode cX3_resinedHold 13 = .ok (.ifCond .ne 6, 3) := by decide +kernel
theorem dX3_resinedHold_16 : decode cX3_resinedHold 16 = .ok (.bipush (-2), 2) := by decide +kernel
theorem dX3_resinedHold_18 : decode cX3_resinedHold 18 = .ok (.ireturn, 1) := by decide +kernel
theorem dX3_resinedHold_19 : decode cX3_resinedHold 19 = .ok (.iconst 0, 1) := by decide +kernel
theorem dX3_resinedHold_20 : decode cX3_resinedHold 20 = .ok (.istore 4, 2) := by decide +kernel
theorem dX3_resinedHold_22 : decode cX3_resinedHold 22 = .ok (.iconst 0, 1) := by decide +kernel
theorem dX3_resinedHold_23 : decode cX3_resinedHold 23 = .ok (.istore 5, 2) := by decide +kernel
theorem dX3_resinedHold_25 : decode cX3_resinedHold 25 = .ok (.iload 5, 2) := by decide +kernel
theorem dX3_resinedHold_27 : decode cX3_resinedHold 27 = .ok (.iload_n 3, 1) := by decide +kernel
theorem dX3_resinedHold_28 : decode cX3_resinedHold 28 = .ok (.if_icmp .gt 50, 3) := by decide +kernel
theorem dX3_resinedHold_31 : decode cX3_resinedHold 31 = .ok (.aload_n 0, 1) := by decide +kernel
theorem dX3_resinedHold_32 : decode cX3_resinedHold 32 = .ok (.iload_n 1, 1) := by decide +kernel
theorem dX3_resinedHold_33 : decode cX3_resinedHold 33 = .ok (.iload_n 2, 1) := by decide +kernel
theorem dX3_resinedHold_34 : decode cX3_resinedHold 34 = .ok (.aload_n 0, 1) := by decide +kernel
theorem dX3_resinedHold_35 : decode cX3_resinedHold 35 = .ok (.getfield 15, 3) := by decide +kernel
theorem dX3_resinedHold_38 : decode cX3_resinedHold 38 = .ok (.iload_n 1, 1) := by decide +kernel
theorem dX3_resinedHold_39 : decode cX3_resinedHold 39 = .ok (.iaload, 1) := by decide +kernel
theorem dX3_resinedHold_40 : decode cX3_resinedHold 40 = .ok (.iconst 2, 1) := by decide +kernel
theorem dX3_resinedHold_41 : decode cX3_resinedHold 41 = .ok (.iload 5, 2) := by decide +kernel
theorem dX3_resinedHold_43 : decode cX3_resinedHold 43 = .ok (.imul, 1) := by decide +kernel
theorem dX3_resinedHold_44 : decode cX3_resinedHold 44 = .ok (.iadd, 1) := by decide +kernel
theorem dX3_resinedHold_45 : decode cX3_resinedHold 45 = .ok (.aload_n 0, 1) := by decide +kernel
theorem dX3_resinedHold_46 : decode cX3_resinedHold 46 = .ok (.getfield 15, 3) := by decide +kernel
theorem dX3_resinedHold_49 : decode cX3_resinedHold 49 = .ok (.iload_n 2, 1) := by decide +kernel
theorem dX3_resinedHold_50 : decode cX3_resinedHold 50 = .ok (.iaload, 1) := by decide +kernel
theorem dX3_resinedHold_51 : decode cX3_resinedHold 51 = .ok (.iconst 2, 1) := by decide +kernel
theorem dX3_resinedHold_52 : decode cX3_resinedHold 52 = .ok (.iload_n 3, 1) := by decide +kernel
theorem dX3_resinedHold_53 : decode cX3_resinedHold 53 = .ok (.iload 5, 2) := by decide +kernel
theorem dX3_resinedHold_55 : decode cX3_resinedHold 55 = .ok (.isub, 1) := by decide +kernel
theorem dX3_resinedHold_56 : decode cX3_resinedHold 56 = .ok (.imul, 1) := by decide +kernel
theorem dX3_resinedHold_57 : decode cX3_resinedHold 57 = .ok (.iadd, 1) := by decide +kernel
theorem dX3_resinedHold_58 : decode cX3_resinedHold 58 = .ok (.invokevirtual 86, 3) := by decide +kernel
theorem dX3_resinedHold_61 : decode cX3_resinedHold 61 = .ok (.istore 6, 2) := by decide +kernel
theorem dX3_resinedHold_63 : decode cX3_resinedHold 63 = .ok (.iload 4, 2) := by decide +kernel
theorem dX3_resinedHold_65 : decode cX3_resinedHold 65 = .ok (.iload 6, 2) := by decide +kernel
theorem dX3_resinedHold_67 : decode cX3_resinedHold 67 = .ok (.invokestatic 96, 3) := by decide +kernel
theorem dX3_resinedHold_70 : decode cX3_resinedHold 70 = .ok (.istore 4, 2) := by decide +kernel
theorem dX3_resinedHold_72 : decode cX3_resinedHold 72 = .ok (.iinc 5 1, 3) := by decide +kernel
theorem dX3_resinedHold_75 : decode cX3_resinedHold 75 = .ok (.goto (-50), 3) := by decide +kernel
theorem dX3_resinedHold_78 : decode cX3_resinedHold 78 = .ok (.iload 4, 2) := by decide +kernel
theorem dX3_resinedHold_80 : decode cX3_resinedHold 80 = .ok (.ireturn, 1) := by decide +kernel
theorem dX3_setFars_0 : decode cX3_setFars 0 = .ok (.aload_n 0, 1) := by decide +kernel
theorem dX3_setFars_1 : decode cX3_setFars 1 = .ok (.iload_n 1, 1) := by decide +kernel
theorem dX3_setFars_2 : decode cX3_setFars 2 = .ok (.putfield 59, 3) := by decide +kernel
theorem dX3_setFars_5 : decode cX3_setFars 5 = .ok (.aload_n 0, 1) := by decide +kernel
theorem dX3_setFars_6 : decode cX3_setFars 6 = .ok (.iload_n 2, 1) := by decide +kernel
theorem dX3_setFars_7 : decode cX3_setFars 7 = .ok (.putfield 62, 3) := by decide +kernel
theorem dX3_setFars_10 : decode cX3_setFars 10 = .ok (.return_, 1) := by decide +kernel
theorem dX3_setGrip_0 : decode cX3_setGrip 0 = .ok (.aload_n 0, 1) := by decide +kernel

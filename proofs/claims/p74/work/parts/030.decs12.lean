theorem dX12_layMatched_79 : decode cX12_layMatched 79 = .ok (.if_icmp .ne 46, 3) := by decide +kernel
theorem dX12_layMatched_82 : decode cX12_layMatched 82 = .ok (.iload_n 2, 1) := by decide +kernel
theorem dX12_layMatched_83 : decode cX12_layMatched 83 = .ok (.iload 5, 2) := by decide +kernel
theorem dX12_layMatched_85 : decode cX12_layMatched 85 = .ok (.invokestatic 299, 3) := by decide +kernel
theorem dX12_layMatched_88 : decode cX12_layMatched 88 = .ok (.ifCond .ne 37, 3) := by decide +kernel
theorem dX12_layMatched_91 : decode cX12_layMatched 91 = .ok (.aload_n 0, 1) := by decide +kernel
theorem dX12_layMatched_92 : decode cX12_layMatched 92 = .ok (.iload_n 3, 1) := by decide +kernel
theorem dX12_layMatched_93 : decode cX12_layMatched 93 = .ok (.iload 5, 2) := by decide +kernel
theorem dX12_layMatched_95 : decode cX12_layMatched 95 = .ok (.invokevirtual 239, 3) := by decide +kernel
theorem dX12_layMatched_98 : decode cX12_layMatched 98 = .ok (.aload_n 0, 1) := by decide +kernel
theorem dX12_layMatched_99 : decode cX12_layMatched 99 = .ok (.iload_n 3, 1) := by decide +kernel
theorem dX12_layMatched_100 : decode cX12_layMatched 100 = .ok (.iconst 1, 1) := by decide +kernel
theorem dX12_layMatched_101 : decode cX12_layMatched 101 = .ok (.iadd, 1) := by decide +kernel
theorem dX12_layMatched_102 : decode cX12_layMatched 102 = .ok (.iload_n 2, 1) := by decide +kernel
theorem dX12_layMatched_103 : decode cX12_layMatched 103 = .ok (.iconst 1, 1) := by decide +kernel
theorem dX12_layMatched_104 : decode cX12_layMatched 104 = .ok (.iload 5, 2) := by decide +kernel
theorem dX12_layMatched_106 : decode cX12_layMatched 106 = .ok (.ishl, 1) := by decide +kernel
theorem dX12_layMatched_107 : decode cX12_layMatched 107 = .ok (.ior, 1) := by decide +kernel
theorem dX12_layMatched_108 : decode cX12_layMatched 108 = .ok (.invokevirtual 296, 3) := by decide +kernel
theorem dX12_layMatched_111 : decode cX12_layMatched 111 = .ok (.iadd, 1) := by decide +kernel
theorem dX12_layMatched_112 : decode cX12_layMatched 112 = .ok (.aload_n 0, 1) := by decide +kernel
theorem dX12_layMatched_113 : decode cX12_layMatched 113 = .ok (.iload_n 3, 1) := by decide +kernel
theorem dX12_layMatched_114 : decode cX12_layMatched 114 = .ok (.iload_n 2, 1) := by decide +kernel
theorem dX12_layMatched_115 : decode cX12_layMatched 115 = .ok (.invokevirtual 296, 3) := by decide +kernel
theorem dX12_layMatched_118 : decode cX12_layMatched 118 = .ok (.if_icmp .ne 7, 3) := by decide +kernel
theorem dX12_layMatched_121 : decode cX12_layMatched 121 = .ok (.iload 5, 2) := by decide +kernel
theorem dX12_layMatched_123 : decode cX12_layMatched 123 = .ok (.istore 4, 2) := by decide +kernel
theorem dX12_layMatched_125 : decode cX12_layMatched 125 = .ok (.iinc 5 1, 3) := by decide +kernel
theorem dX12_layMatched_128 : decode cX12_layMatched 128 = .ok (.goto (-69), 3) := by decide +kernel
theorem dX12_layMatched_131 : decode cX12_layMatched 131 = .ok (.iload 4, 2) := by decide +kernel
theorem dX12_layMatched_133 : decode cX12_layMatched 133 = .ok (.iconst (-1), 1) := by decide +kernel
theorem dX12_layMatched_134 : decode cX12_layMatched 134 = .ok (.if_icmp .ne 6, 3) := by decide +kernel
theorem dX12_layMatched_137 : decode cX12_layMatched 137 = .ok (.goto 26, 3) := by decide +kernel
theorem dX12_layMatched_140 : decode cX12_layMatched 140 = .ok (.aload_n 0, 1) := by decide +kernel
theorem dX12_layMatched_141 : decode cX12_layMatched 141 = .ok (.getfield 40, 3) := by decide +kernel
theorem dX12_layMatched_144 : decode cX12_layMatched 144 = .ok (.iload_n 3, 1) := by decide +kernel
theorem dX12_layMatched_145 : decode cX12_layMatched 145 = .ok (.iload 4, 2) := by decide +kernel
theorem dX12_layMatched_147 : decode cX12_layMatched 147 = .ok (.iastore, 1) := by decide +kernel
theorem dX12_layMatched_148 : decode cX12_layMatched 148 = .ok (.aload_n 0, 1) := by decide +kernel
theorem dX12_layMatched_149 : decode cX12_layMatched 149 = .ok (.getfield 40, 3) := by decide +kernel
theorem dX12_layMatched_152 : decode cX12_layMatched 152 = .ok (.iload 4, 2) := by decide +kernel
theorem dX12_layMatched_154 : decode cX12_layMatched 154 = .ok (.iload_n 3, 1) := by decide +kernel
theorem dX12_layMatched_155 : decode cX12_layMatched 155 = .ok (.iastore, 1) := by decide +kernel
theorem dX12_layMatched_156 : decode cX12_layMatched 156 = .ok (.iload_n 2, 1) := by decide +kernel
theorem dX12_layMatched_157 : decode cX12_layMatched 157 = .ok (.iconst 1, 1) := by decide +kernel
theorem dX12_layMatched_158 : decode cX12_layMatched 158 = .ok (.iload 4, 2) := by decide +kernel
theorem dX12_layMatched_160 : decode cX12_layMatched 160 = .ok (.ishl, 1) := by decide +kernel
theorem dX12_layMatched_161 : decode cX12_layMatched 161 = .ok (.ior, 1) := by decide +kernel
theorem dX12_layMatched_162 : decode cX12_layMatched 162 = .ok (.istore_n 2, 1) := by decide +kernel
theorem dX12_layMatched_163 : decode cX12_layMatched 163 = .ok (.iinc 3 1, 3) := by decide +kernel
theorem dX12_layMatched_166 : decode cX12_layMatched 166 = .ok (.goto (-130), 3) := by decide +kernel
theorem dX12_layMatched_169 : decode cX12_layMatched 169 = .ok (.return_, 1) := by decide +kernel
theorem dX12_laySaid_0 : decode cX12_laySaid 0 = .ok (.aload_n 0, 1) := by decide +kernel
theorem dX12_laySaid_1 : decode cX12_laySaid 1 = .ok (.aload_n 0, 1) := by decide +kernel
theorem dX12_laySaid_2 : decode cX12_laySaid 2 = .ok (.getfield 52, 3) := by decide +kernel
theorem dX12_laySaid_5 : decode cX12_laySaid 5 = .ok (.iload_n 1, 1) := by decide +kernel
theorem dX12_laySaid_6 : decode cX12_laySaid 6 = .ok (.iaload, 1) := by decide +kernel
theorem dX12_laySaid_7 : decode cX12_laySaid 7 = .ok (.putfield 320, 3) := by decide +kernel
theorem dX12_laySaid_10 : decode cX12_laySaid 10 = .ok (.iconst 0, 1) := by decide +kernel
theorem dX12_laySaid_11 : decode cX12_laySaid 11 = .ok (.istore_n 2, 1) := by decide +kernel
theorem dX12_laySaid_12 : decode cX12_laySaid 12 = .ok (.iload_n 2, 1) := by decide +kernel
theorem dX12_laySaid_13 : decode cX12_laySaid 13 = .ok (.aload_n 0, 1) := by decide +kernel
theorem dX12_laySaid_14 : decode cX12_laySaid 14 = .ok (.getfield 320, 3) := by decide +kernel
theorem dX12_laySaid_17 : decode cX12_laySaid 17 = .ok (.if_icmp .ge 22, 3) := by decide +kernel
theorem dX12_laySaid_20 : decode cX12_laySaid 20 = .ok (.aload_n 0, 1) := by decide +kernel
theorem dX12_laySaid_21 : decode cX12_laySaid 21 = .ok (.getfield 43, 3) := by decide +kernel
theorem dX12_laySaid_24 : decode cX12_laySaid 24 = .ok (.iload_n 2, 1) := by decide +kernel
theorem dX12_laySaid_25 : decode cX12_laySaid 25 = .ok (.aload_n 0, 1) := by decide +kernel
theorem dX12_laySaid_26 : decode cX12_laySaid 26 = .ok (.iload_n 1, 1) := by decide +kernel
theorem dX12_laySaid_27 : decode cX12_laySaid 27 = .ok (.iload_n 2, 1) := by decide +kernel
theorem dX12_laySaid_28 : decode cX12_laySaid 28 = .ok (.invokevirtual 316, 3) := by decide +kernel
theorem dX12_laySaid_31 : decode cX12_laySaid 31 = .ok (.l2i, 1) := by decide +kernel
theorem dX12_laySaid_32 : decode cX12_laySaid 32 = .ok (.iastore, 1) := by decide +kernel
theorem dX12_laySaid_33 : decode cX12_laySaid 33 = .ok (.iinc 2 1, 3) := by decide +kernel
theorem dX12_laySaid_36 : decode cX12_laySaid 36 = .ok (.goto (-24), 3) := by decide +kernel
theorem dX12_laySaid_39 : decode cX12_laySaid 39 = .ok (.return_, 1) := by decide +kernel
theorem dX12_layTired_0 : decode cX12_layTired 0 = .ok (.iload_n 1, 1) := by decide +kernel
theorem dX12_layTired_1 : decode cX12_layTired 1 = .ok (.invokestatic 311, 3) := by decide +kernel
theorem dX12_layTired_4 : decode cX12_layTired 4 = .ok (.ifCond .eq 14, 3) := by decide +kernel
theorem dX12_layTired_7 : decode cX12_layTired 7 = .ok (.aload_n 0, 1) := by decide +kernel
theorem dX12_layTired_8 : decode cX12_layTired 8 = .ok (.invokevirtual 74, 3) := by decide +kernel
theorem dX12_layTired_11 : decode cX12_layTired 11 = .ok (.ifCond .eq 7, 3) := by decide +kernel
theorem dX12_layTired_14 : decode cX12_layTired 14 = .ok (.iload_n 2, 1) := by decide +kernel
theorem dX12_layTired_15 : decode cX12_layTired 15 = .ok (.ifCond .ne 6, 3) := by decide +kernel
theorem dX12_layTired_18 : decode cX12_layTired 18 = .ok (.bipush (-2), 2) := by decide +kernel
theorem dX12_layTired_20 : decode cX12_layTired 20 = .ok (.ireturn, 1) := by decide +kernel
theorem dX12_layTired_21 : decode cX12_layTired 21 = .ok (.aload_n 0, 1) := by decide +kernel
theorem dX12_layTired_22 : decode cX12_layTired 22 = .ok (.getfield 52, 3) := by decide +kernel
theorem dX12_layTired_25 : decode cX12_layTired 25 = .ok (.iload_n 1, 1) := by decide +kernel
theorem dX12_layTired_26 : decode cX12_layTired 26 = .ok (.iaload, 1) := by decide +kernel
theorem dX12_layTired_27 : decode cX12_layTired 27 = .ok (.iconst (-1), 1) := by decide +kernel
theorem dX12_layTired_28 : decode cX12_layTired 28 = .ok (.if_icmp .ne 6, 3) := by decide +kernel
theorem dX12_layTired_31 : decode cX12_layTired 31 = .ok (.bipush (-6), 2) := by decide +kernel
theorem dX12_layTired_33 : decode cX12_layTired 33 = .ok (.ireturn, 1) := by decide +kernel
theorem dX12_layTired_34 : decode cX12_layTired 34 = .ok (.aload_n 0, 1) := by decide +kernel
theorem dX12_layTired_35 : decode cX12_layTired 35 = .ok (.getfield 52, 3) := by decide +kernel
theorem dX12_layTired_38 : decode cX12_layTired 38 = .ok (.iload_n 1, 1) := by decide +kernel
theorem dX12_layTired_39 : decode cX12_layTired 39 = .ok (.iaload, 1) := by decide +kernel
theorem dX12_layTired_40 : decode cX12_layTired 40 = .ok (.iconst 3, 1) := by decide +kernel
theorem dX12_layTired_41 : decode cX12_layTired 41 = .ok (.irem, 1) := by decide +kernel
theorem dX12_layTired_42 : decode cX12_layTired 42 = .ok (.ifCond .eq 6, 3) := by decide +kernel
theorem dX12_layTired_45 : decode cX12_layTired 45 = .ok (.bipush (-2), 2) := by decide +kernel
theorem dX12_layTired_47 : decode cX12_layTired 47 = .ok (.ireturn, 1) := by decide +kernel
theorem dX12_layTired_48 : decode cX12_layTired 48 = .ok (.iconst 0, 1) := by decide +kernel
theorem dX12_layTired_49 : decode cX12_layTired 49 = .ok (.istore_n 3, 1) := by decide +kernel
theorem dX12_layTired_50 : decode cX12_layTired 50 = .ok (.iload_n 3, 1) := by decide +kernel
theorem dX12_layTired_51 : decode cX12_layTired 51 = .ok (.aload_n 0, 1) := by decide +kernel
theorem dX12_layTired_52 : decode cX12_layTired 52 = .ok (.getfield 52, 3) := by decide +kernel
theorem dX12_layTired_55 : decode cX12_layTired 55 = .ok (.iload_n 1, 1) := by decide +kernel
theorem dX12_layTired_56 : decode cX12_layTired 56 = .ok (.iaload, 1) := by decide +kernel
theorem dX12_layTired_57 : decode cX12_layTired 57 = .ok (.if_icmp .ge 89, 3) := by decide +kernel
theorem dX12_layTired_60 : decode cX12_layTired 60 = .ok (.aload_n 0, 1) := by decide +kernel
theorem dX12_layTired_61 : decode cX12_layTired 61 = .ok (.iload_n 1, 1) := by decide +kernel
theorem dX12_layTired_62 : decode cX12_layTired 62 = .ok (.iload_n 3, 1) := by decide +kernel
theorem dX12_layTired_63 : decode cX12_layTired 63 = .ok (.invokevirtual 316, 3) := by decide +kernel
theorem dX12_layTired_66 : decode cX12_layTired 66 = .ok (.lstore 4, 2) := by decide +kernel
theorem dX12_layTired_68 : decode cX12_layTired 68 = .ok (.aload_n 0, 1) := by decide +kernel
theorem dX12_layTired_69 : decode cX12_layTired 69 = .ok (.iload_n 1, 1) := by decide +kernel
theorem dX12_layTired_70 : decode cX12_layTired 70 = .ok (.iload_n 3, 1) := by decide +kernel
theorem dX12_layTired_71 : decode cX12_layTired 71 = .ok (.iconst 1, 1) := by decide +kernel
theorem dX12_layTired_72 : decode cX12_layTired 72 = .ok (.iadd, 1) := by decide +kernel
theorem dX12_layTired_73 : decode cX12_layTired 73 = .ok (.invokevirtual 316, 3) := by decide +kernel
theorem dX12_layTired_76 : decode cX12_layTired 76 = .ok (.lstore 6, 2) := by decide +kernel
theorem dX12_layTired_78 : decode cX12_layTired 78 = .ok (.aload_n 0, 1) := by decide +kernel
theorem dX12_layTired_79 : decode cX12_layTired 79 = .ok (.lload 4, 2) := by decide +kernel
theorem dX12_layTired_81 : decode cX12_layTired 81 = .ok (.invokevirtual 198, 3) := by decide +kernel
theorem dX12_layTired_84 : decode cX12_layTired 84 = .ok (.ifCond .eq 53, 3) := by decide +kernel
theorem dX12_layTired_87 : decode cX12_layTired 87 = .ok (.aload_n 0, 1) := by decide +kernel
theorem dX12_layTired_88 : decode cX12_layTired 88 = .ok (.lload 6, 2) := by decide +kernel
theorem dX12_layTired_90 : decode cX12_layTired 90 = .ok (.invokevirtual 198, 3) := by decide +kernel
theorem dX12_layTired_93 : decode cX12_layTired 93 = .ok (.ifCond .eq 44, 3) := by decide +kernel
theorem dX12_layTired_96 : decode cX12_layTired 96 = .ok (.aload_n 0, 1) := by decide +kernel
theorem dX12_layTired_97 : decode cX12_layTired 97 = .ok (.iload_n 1, 1) := by decide +kernel
theorem dX12_layTired_98 : decode cX12_layTired 98 = .ok (.iload_n 3, 1) := by decide +kernel
theorem dX12_layTired_99 : decode cX12_layTired 99 = .ok (.iconst 2, 1) := by decide +kernel
theorem dX12_layTired_100 : decode cX12_layTired 100 = .ok (.iadd, 1) := by decide +kernel
theorem dX12_layTired_101 : decode cX12_layTired 101 = .ok (.invokevirtual 316, 3) := by decide +kernel
theorem dX12_layTired_104 : decode cX12_layTired 104 = .ok (.lconst 0, 1) := by decide +kernel
theorem dX12_layTired_105 : decode cX12_layTired 105 = .ok (.ldc2_w 314, 3) := by decide +kernel
theorem dX12_layTired_108 : decode cX12_layTired 108 = .ok (.invokestatic 70, 3) := by decide +kernel
theorem dX12_layTired_111 : decode cX12_layTired 111 = .ok (.ifCond .eq 26, 3) := by decide +kernel
theorem dX12_layTired_114 : decode cX12_layTired 114 = .ok (.aload_n 0, 1) := by decide +kernel
theorem dX12_layTired_115 : decode cX12_layTired 115 = .ok (.lload 4, 2) := by decide +kernel
theorem dX12_layTired_117 : decode cX12_layTired 117 = .ok (.l2i, 1) := by decide +kernel
theorem dX12_layTired_118 : decode cX12_layTired 118 = .ok (.iconst 0, 1) := by decide +kernel
theorem dX12_layTired_119 : decode cX12_layTired 119 = .ok (.invokevirtual 202, 3) := by decide +kernel
theorem dX12_layTired_122 : decode cX12_layTired 122 = .ok (.ifCond .ne 15, 3) := by decide +kernel
theorem dX12_layTired_125 : decode cX12_layTired 125 = .ok (.aload_n 0, 1) := by decide +kernel
theorem dX12_layTired_126 : decode cX12_layTired 126 = .ok (.lload 6, 2) := by decide +kernel
theorem dX12_layTired_128 : decode cX12_layTired 128 = .ok (.l2i, 1) := by decide +kernel
theorem dX12_layTired_129 : decode cX12_layTired 129 = .ok (.iconst 0, 1) := by decide +kernel
theorem dX12_layTired_130 : decode cX12_layTired 130 = .ok (.invokevirtual 202, 3) := by decide +kernel
theorem dX12_layTired_133 : decode cX12_layTired 133 = .ok (.iconst 1, 1) := by decide +kernel
theorem dX12_layTired_134 : decode cX12_layTired 134 = .ok (.if_icmp .eq 6, 3) := by decide +kernel
theorem dX12_layTired_137 : decode cX12_layTired 137 = .ok (.bipush (-2), 2) := by decide +kernel
theorem dX12_layTired_139 : decode cX12_layTired 139 = .ok (.ireturn, 1) := by decide +kernel
theorem dX12_layTired_140 : decode cX12_layTired 140 = .ok (.iinc 3 3, 3) := by decide +kernel
theorem dX12_layTired_143 : decode cX12_layTired 143 = .ok (.goto (-93), 3) := by decide +kernel
theorem dX12_layTired_146 : decode cX12_layTired 146 = .ok (.aload_n 0, 1) := by decide +kernel
theorem dX12_layTired_147 : decode cX12_layTired 147 = .ok (.iconst 0, 1) := by decide +kernel
theorem dX12_layTired_148 : decode cX12_layTired 148 = .ok (.putfield 389, 3) := by decide +kernel
theorem dX12_layTired_151 : decode cX12_layTired 151 = .ok (.iconst 0, 1) := by decide +kernel
theorem dX12_layTired_152 : decode cX12_layTired 152 = .ok (.istore_n 3, 1) := by decide +kernel
theorem dX12_layTired_153 : decode cX12_layTired 153 = .ok (.iload_n 3, 1) := by decide +kernel
theorem dX12_layTired_154 : decode cX12_layTired 154 = .ok (.aload_n 0, 1) := by decide +kernel
theorem dX12_layTired_155 : decode cX12_layTired 155 = .ok (.getfield 9, 3) := by decide +kernel
theorem dX12_layTired_158 : decode cX12_layTired 158 = .ok (.iconst 4, 1) := by decide +kernel
theorem dX12_layTired_159 : decode cX12_layTired 159 = .ok (.iaload, 1) := by decide +kernel
theorem dX12_layTired_160 : decode cX12_layTired 160 = .ok (.if_icmp .ge 69, 3) := by decide +kernel
theorem dX12_layTired_163 : decode cX12_layTired 163 = .ok (.iconst 1, 1) := by decide +kernel
theorem dX12_layTired_164 : decode cX12_layTired 164 = .ok (.istore 4, 2) := by decide +kernel
theorem dX12_layTired_166 : decode cX12_layTired 166 = .ok (.iload 4, 2) := by decide +kernel
theorem dX12_layTired_168 : decode cX12_layTired 168 = .ok (.aload_n 0, 1) := by decide +kernel
theorem dX12_layTired_169 : decode cX12_layTired 169 = .ok (.iload_n 3, 1) := by decide +kernel
theorem dX12_layTired_170 : decode cX12_layTired 170 = .ok (.iconst 1, 1) := by decide +kernel
theorem dX12_layTired_171 : decode cX12_layTired 171 = .ok (.invokevirtual 202, 3) := by decide +kernel
theorem dX12_layTired_174 : decode cX12_layTired 174 = .ok (.if_icmp .ge 49, 3) := by decide +kernel
theorem dX12_layTired_177 : decode cX12_layTired 177 = .ok (.aload_n 0, 1) := by decide +kernel
theorem dX12_layTired_178 : decode cX12_layTired 178 = .ok (.iload_n 1, 1) := by decide +kernel
theorem dX12_layTired_179 : decode cX12_layTired 179 = .ok (.iload_n 3, 1) := by decide +kernel
theorem dX12_layTired_180 : decode cX12_layTired 180 = .ok (.iload 4, 2) := by decide +kernel
theorem dX12_layTired_182 : decode cX12_layTired 182 = .ok (.invokevirtual 392, 3) := by decide +kernel
theorem dX12_layTired_185 : decode cX12_layTired 185 = .ok (.ifCond .ne 6, 3) := by decide +kernel
theorem dX12_layTired_188 : decode cX12_layTired 188 = .ok (.goto 29, 3) := by decide +kernel
theorem dX12_layTired_191 : decode cX12_layTired 191 = .ok (.aload_n 0, 1) := by decide +kernel
theorem dX12_layTired_192 : decode cX12_layTired 192 = .ok (.getfield 49, 3) := by decide +kernel
theorem dX12_layTired_195 : decode cX12_layTired 195 = .ok (.aload_n 0, 1) := by decide +kernel
theorem dX12_layTired_196 : decode cX12_layTired 196 = .ok (.getfield 389, 3) := by decide +kernel
theorem dX12_layTired_199 : decode cX12_layTired 199 = .ok (.bipush 100, 2) := by decide +kernel
theorem dX12_layTired_201 : decode cX12_layTired 201 = .ok (.iload_n 3, 1) := by decide +kernel
theorem dX12_layTired_202 : decode cX12_layTired 202 = .ok (.imul, 1) := by decide +kernel
theorem dX12_layTired_203 : decode cX12_layTired 203 = .ok (.iload 4, 2) := by decide +kernel
theorem dX12_layTired_205 : decode cX12_layTired 205 = .ok (.iadd, 1) := by decide +kernel
theorem dX12_layTired_206 : decode cX12_layTired 206 = .ok (.iastore, 1) := by decide +kernel
theorem dX12_layTired_207 : decode cX12_layTired 207 = .ok (.aload_n 0, 1) := by decide +kernel
theorem dX12_layTired_208 : decode cX12_layTired 208 = .ok (.dup, 1) := by decide +kernel
theorem dX12_layTired_209 : decode cX12_layTired 209 = .ok (.getfield 389, 3) := by decide +kernel
theorem dX12_layTired_212 : decode cX12_layTired 212 = .ok (.iconst 1, 1) := by decide +kernel
theorem dX12_layTired_213 : decode cX12_layTired 213 = .ok (.iadd, 1) := by decide +kernel
theorem dX12_layTired_214 : decode cX12_layTired 214 = .ok (.putfield 389, 3) := by decide +kernel
theorem dX12_layTired_217 : decode cX12_layTired 217 = .ok (.iinc 4 1, 3) := by decide +kernel
theorem dX12_layTired_220 : decode cX12_layTired 220 = .ok (.goto (-54), 3) := by decide +kernel
theorem dX12_layTired_223 : decode cX12_layTired 223 = .ok (.iinc 3 1, 3) := by decide +kernel
theorem dX12_layTired_226 : decode cX12_layTired 226 = .ok (.goto (-73), 3) := by decide +kernel
theorem dX12_layTired_229 : decode cX12_layTired 229 = .ok (.iconst 0, 1) := by decide +kernel
theorem dX12_layTired_230 : decode cX12_layTired 230 = .ok (.ireturn, 1) := by decide +kernel
theorem dX12_least_0 : decode cX12_least 0 = .ok (.aload_n 0, 1) := by decide +kernel
theorem dX12_least_1 : decode cX12_least 1 = .ok (.iload_n 1, 1) := by decide +kernel
theorem dX12_least_2 : decode cX12_least 2 = .ok (.iconst 1, 1) := by decide +kernel
theorem dX12_least_3 : decode cX12_least 3 = .ok (.invokevirtual 341, 3) := by decide +kernel
theorem dX12_least_6 : decode cX12_least 6 = .ok (.ifCond .eq 11, 3) := by decide +kernel
theorem dX12_least_9 : decode cX12_least 9 = .ok (.aload_n 0, 1) := by decide +kernel
theorem dX12_least_10 : decode cX12_least 10 = .ok (.iload_n 1, 1) := by decide +kernel
theorem dX12_least_11 : decode cX12_least 11 = .ok (.invokevirtual 344, 3) := by decide +kernel
theorem dX12_least_14 : decode cX12_least 14 = .ok (.goto 5, 3) := by decide +kernel
theorem dX12_least_17 : decode cX12_least 17 = .ok (.bipush (-2), 2) := by decide +kernel
theorem dX12_least_19 : decode cX12_least 19 = .ok (.ireturn, 1) := by decide +kernel
theorem dX12_leastOf_0 : decode cX12_leastOf 0 = .ok (.aload_n 0, 1) := by decide +kernel
theorem dX12_leastOf_1 : decode cX12_leastOf 1 = .ok (.aload_n 0, 1) := by decide +kernel
theorem dX12_leastOf_2 : decode cX12_leastOf 2 = .ok (.getfield 9, 3) := by decide +kernel
theorem dX12_leastOf_5 : decode cX12_leastOf 5 = .ok (.iconst 5, 1) := by decide +kernel
theorem dX12_leastOf_6 : decode cX12_leastOf 6 = .ok (.iaload, 1) := by decide +kernel
theorem dX12_leastOf_7 : decode cX12_leastOf 7 = .ok (.putfield 320, 3) := by decide +kernel
theorem dX12_leastOf_10 : decode cX12_leastOf 10 = .ok (.iconst 0, 1) := by decide +kernel
theorem dX12_leastOf_11 : decode cX12_leastOf 11 = .ok (.istore_n 2, 1) := by decide +kernel
theorem dX12_leastOf_12 : decode cX12_leastOf 12 = .ok (.iload_n 2, 1) := by decide +kernel
theorem dX12_leastOf_13 : decode cX12_leastOf 13 = .ok (.aload_n 0, 1) := by decide +kernel
theorem dX12_leastOf_14 : decode cX12_leastOf 14 = .ok (.getfield 320, 3) := by decide +kernel
theorem dX12_leastOf_17 : decode cX12_leastOf 17 = .ok (.if_icmp .ge 16, 3) := by decide +kernel
theorem dX12_leastOf_20 : decode cX12_leastOf 20 = .ok (.aload_n 0, 1) := by decide +kernel
theorem dX12_leastOf_21 : decode cX12_leastOf 21 = .ok (.getfield 43, 3) := by decide +kernel
theorem dX12_leastOf_24 : decode cX12_leastOf 24 = .ok (.iload_n 2, 1) := by decide +kernel
theorem dX12_leastOf_25 : decode cX12_leastOf 25 = .ok (.iload_n 2, 1) := by decide +kernel
theorem dX12_leastOf_26 : decode cX12_leastOf 26 = .ok (.iastore, 1) := by decide +kernel
theorem dX12_leastOf_27 : decode cX12_leastOf 27 = .ok (.iinc 2 1, 3) := by decide +kernel
theorem dX12_leastOf_30 : decode cX12_leastOf 30 = .ok (.goto (-18), 3) := by decide +kernel
theorem dX12_leastOf_33 : decode cX12_leastOf 33 = .ok (.iconst (-1), 1) := by decide +kernel
theorem dX12_leastOf_34 : decode cX12_leastOf 34 = .ok (.istore_n 2, 1) := by decide +kernel
theorem dX12_leastOf_35 : decode cX12_leastOf 35 = .ok (.aload_n 0, 1) := by decide +kernel
theorem dX12_leastOf_36 : decode cX12_leastOf 36 = .ok (.iload_n 1, 1) := by decide +kernel
theorem dX12_leastOf_37 : decode cX12_leastOf 37 = .ok (.invokevirtual 332, 3) := by decide +kernel
theorem dX12_leastOf_40 : decode cX12_leastOf 40 = .ok (.istore_n 3, 1) := by decide +kernel
theorem dX12_leastOf_41 : decode cX12_leastOf 41 = .ok (.iload_n 3, 1) := by decide +kernel
theorem dX12_leastOf_42 : decode cX12_leastOf 42 = .ok (.iconst (-1), 1) := by decide +kernel
theorem dX12_leastOf_43 : decode cX12_leastOf 43 = .ok (.if_icmp .ne 5, 3) := by decide +kernel
theorem dX12_leastOf_46 : decode cX12_leastOf 46 = .ok (.iconst (-1), 1) := by decide +kernel
theorem dX12_leastOf_47 : decode cX12_leastOf 47 = .ok (.ireturn, 1) := by decide +kernel
theorem dX12_leastOf_48 : decode cX12_leastOf 48 = .ok (.iload_n 2, 1) := by decide +kernel
theorem dX12_leastOf_49 : decode cX12_leastOf 49 = .ok (.iconst (-1), 1) := by decide +kernel
theorem dX12_leastOf_50 : decode cX12_leastOf 50 = .ok (.if_icmp .eq 11, 3) := by decide +kernel
theorem dX12_leastOf_53 : decode cX12_leastOf 53 = .ok (.iload_n 3, 1) := by decide +kernel
theorem dX12_leastOf_54 : decode cX12_leastOf 54 = .ok (.iload_n 2, 1) := by decide +kernel
theorem dX12_leastOf_55 : decode cX12_leastOf 55 = .ok (.if_icmp .lt 6, 3) := by decide +kernel
theorem dX12_leastOf_58 : decode cX12_leastOf 58 = .ok (.goto 37, 3) := by decide +kernel
theorem dX12_leastOf_61 : decode cX12_leastOf 61 = .ok (.iload_n 3, 1) := by decide +kernel
theorem dX12_leastOf_62 : decode cX12_leastOf 62 = .ok (.istore_n 2, 1) := by decide +kernel
theorem dX12_leastOf_63 : decode cX12_leastOf 63 = .ok (.iconst 0, 1) := by decide +kernel
theorem dX12_leastOf_64 : decode cX12_leastOf 64 = .ok (.istore 4, 2) := by decide +kernel
theorem dX12_leastOf_66 : decode cX12_leastOf 66 = .ok (.iload 4, 2) := by decide +kernel
theorem dX12_leastOf_68 : decode cX12_leastOf 68 = .ok (.aload_n 0, 1) := by decide +kernel
theorem dX12_leastOf_69 : decode cX12_leastOf 69 = .ok (.getfield 320, 3) := by decide +kernel
theorem dX12_leastOf_72 : decode cX12_leastOf 72 = .ok (.if_icmp .ge 23, 3) := by decide +kernel
theorem dX12_leastOf_75 : decode cX12_leastOf 75 = .ok (.aload_n 0, 1) := by decide +kernel
theorem dX12_leastOf_76 : decode cX12_leastOf 76 = .ok (.getfield 46, 3) := by decide +kernel
theorem dX12_leastOf_79 : decode cX12_leastOf 79 = .ok (.iload 4, 2) := by decide +kernel
theorem dX12_leastOf_81 : decode cX12_leastOf 81 = .ok (.aload_n 0, 1) := by decide +kernel
theorem dX12_leastOf_82 : decode cX12_leastOf 82 = .ok (.getfield 43, 3) := by decide +kernel
theorem dX12_leastOf_85 : decode cX12_leastOf 85 = .ok (.iload 4, 2) := by decide +kernel
theorem dX12_leastOf_87 : decode cX12_leastOf 87 = .ok (.iaload, 1) := by decide +kernel
theorem dX12_leastOf_88 : decode cX12_leastOf 88 = .ok (.iastore, 1) := by decide +kernel
theorem dX12_leastOf_89 : decode cX12_leastOf 89 = .ok (.iinc 4 1, 3) := by decide +kernel
theorem dX12_leastOf_92 : decode cX12_leastOf 92 = .ok (.goto (-26), 3) := by decide +kernel
theorem dX12_leastOf_95 : decode cX12_leastOf 95 = .ok (.aload_n 0, 1) := by decide +kernel
theorem dX12_leastOf_96 : decode cX12_leastOf 96 = .ok (.invokevirtual 338, 3) := by decide +kernel
theorem dX12_leastOf_99 : decode cX12_leastOf 99 = .ok (.ifCond .ne (-64), 3) := by decide +kernel
theorem dX12_leastOf_102 : decode cX12_leastOf 102 = .ok (.iload_n 2, 1) := by decide +kernel
theorem dX12_leastOf_103 : decode cX12_leastOf 103 = .ok (.ireturn, 1) := by decide +kernel
theorem dX12_loners_0 : decode cX12_loners 0 = .ok (.aload_n 0, 1) := by decide +kernel
theorem dX12_loners_1 : decode cX12_loners 1 = .ok (.invokevirtual 74, 3) := by decide +kernel
theorem dX12_loners_4 : decode cX12_loners 4 = .ok (.ifCond .ne 6, 3) := by decide +kernel
theorem dX12_loners_7 : decode cX12_loners 7 = .ok (.bipush (-2), 2) := by decide +kernel
theorem dX12_loners_9 : decode cX12_loners 9 = .ok (.ireturn, 1) := by decide +kernel
theorem dX12_loners_10 : decode cX12_loners 10 = .ok (.aload_n 0, 1) := by decide +kernel
theorem dX12_loners_11 : decode cX12_loners 11 = .ok (.invokevirtual 305, 3) := by decide +kernel
theorem dX12_loners_14 : decode cX12_loners 14 = .ok (.iconst 0, 1) := by decide +kernel
theorem dX12_loners_15 : decode cX12_loners 15 = .ok (.istore_n 1, 1) := by decide +kernel
theorem dX12_loners_16 : decode cX12_loners 16 = .ok (.iconst 0, 1) := by decide +kernel
theorem dX12_loners_17 : decode cX12_loners 17 = .ok (.istore_n 2, 1) := by decide +kernel
theorem dX12_loners_18 : decode cX12_loners 18 = .ok (.iload_n 2, 1) := by decide +kernel
theorem dX12_loners_19 : decode cX12_loners 19 = .ok (.aload_n 0, 1) := by decide +kernel
theorem dX12_loners_20 : decode cX12_loners 20 = .ok (.getfield 9, 3) := by decide +kernel
theorem dX12_loners_23 : decode cX12_loners 23 = .ok (.iconst 4, 1) := by decide +kernel
theorem dX12_loners_24 : decode cX12_loners 24 = .ok (.iaload, 1) := by decide +kernel
theorem dX12_loners_25 : decode cX12_loners 25 = .ok (.if_icmp .ge 29, 3) := by decide +kernel
theorem dX12_loners_28 : decode cX12_loners 28 = .ok (.iload_n 1, 1) := by decide +kernel
theorem dX12_loners_29 : decode cX12_loners 29 = .ok (.aload_n 0, 1) := by decide +kernel
theorem dX12_loners_30 : decode cX12_loners 30 = .ok (.getfield 40, 3) := by decide +kernel
theorem dX12_loners_33 : decode cX12_loners 33 = .ok (.iload_n 2, 1) := by decide +kernel
theorem dX12_loners_34 : decode cX12_loners 34 = .ok (.iaload, 1) := by decide +kernel
theorem dX12_loners_35 : decode cX12_loners 35 = .ok (.iconst (-1), 1) := by decide +kernel
theorem dX12_loners_36 : decode cX12_loners 36 = .ok (.if_icmp .ne 9, 3) := by decide +kernel
theorem dX12_loners_39 : decode cX12_loners 39 = .ok (.iconst 1, 1) := by decide +kernel
theorem dX12_loners_40 : decode cX12_loners 40 = .ok (.iload_n 2, 1) := by decide +kernel
theorem dX12_loners_41 : decode cX12_loners 41 = .ok (.ishl, 1) := by decide +kernel
theorem dX12_loners_42 : decode cX12_loners 42 = .ok (.goto 4, 3) := by decide +kernel
theorem dX12_loners_45 : decode cX12_loners 45 = .ok (.iconst 0, 1) := by decide +kernel
theorem dX12_loners_46 : decode cX12_loners 46 = .ok (.ior, 1) := by decide +kernel
theorem dX12_loners_47 : decode cX12_loners 47 = .ok (.istore_n 1, 1) := by decide +kernel
theorem dX12_loners_48 : decode cX12_loners 48 = .ok (.iinc 2 1, 3) := by decide +kernel
theorem dX12_loners_51 : decode cX12_loners 51 = .ok (.goto (-33), 3) := by decide +kernel
theorem dX12_loners_54 : decode cX12_loners 54 = .ok (.iload_n 1, 1) := by decide +kernel
theorem dX12_loners_55 : decode cX12_loners 55 = .ok (.ireturn, 1) := by decide +kernel
theorem dX12_longest_0 : decode cX12_longest 0 = .ok (.aload_n 0, 1) := by decide +kernel
theorem dX12_longest_1 : decode cX12_longest 1 = .ok (.invokevirtual 74, 3) := by decide +kernel
theorem dX12_longest_4 : decode cX12_longest 4 = .ok (.ifCond .ne 6, 3) := by decide +kernel
theorem dX12_longest_7 : decode cX12_longest 7 = .ok (.bipush (-2), 2) := by decide +kernel
theorem dX12_longest_9 : decode cX12_longest 9 = .ok (.ireturn, 1) := by decide +kernel
theorem dX12_longest_10 : decode cX12_longest 10 = .ok (.aload_n 0, 1) := by decide +kernel
theorem dX12_longest_11 : decode cX12_longest 11 = .ok (.invokevirtual 259, 3) := by decide +kernel
theorem dX12_longest_14 : decode cX12_longest 14 = .ok (.iconst (-1), 1) := by decide +kernel
theorem dX12_longest_15 : decode cX12_longest 15 = .ok (.istore_n 1, 1) := by decide +kernel
theorem dX12_longest_16 : decode cX12_longest 16 = .ok (.iconst (-1), 1) := by decide +kernel
theorem dX12_longest_17 : decode cX12_longest 17 = .ok (.istore_n 2, 1) := by decide +kernel
theorem dX12_longest_18 : decode cX12_longest 18 = .ok (.iconst 0, 1) := by decide +kernel
theorem dX12_longest_19 : decode cX12_longest 19 = .ok (.istore_n 3, 1) := by decide +kernel
theorem dX12_longest_20 : decode cX12_longest 20 = .ok (.iload_n 3, 1) := by decide +kernel
theorem dX12_longest_21 : decode cX12_longest 21 = .ok (.sipush 2000, 3) := by decide +kernel
theorem dX12_longest_24 : decode cX12_longest 24 = .ok (.if_icmp .gt 35, 3) := by decide +kernel
theorem dX12_longest_27 : decode cX12_longest 27 = .ok (.aload_n 0, 1) := by decide +kernel
theorem dX12_longest_28 : decode cX12_longest 28 = .ok (.iload_n 3, 1) := by decide +kernel
theorem dX12_longest_29 : decode cX12_longest 29 = .ok (.invokevirtual 253, 3) := by decide +kernel
theorem dX12_longest_32 : decode cX12_longest 32 = .ok (.ifCond .ne 6, 3) := by decide +kernel
theorem dX12_longest_35 : decode cX12_longest 35 = .ok (.goto 18, 3) := by decide +kernel
theorem dX12_longest_38 : decode cX12_longest 38 = .ok (.iload_n 2, 1) := by decide +kernel
theorem dX12_longest_39 : decode cX12_longest 39 = .ok (.iconst (-1), 1) := by decide +kernel
theorem dX12_longest_40 : decode cX12_longest 40 = .ok (.if_icmp .eq 11, 3) := by decide +kernel
theorem dX12_longest_43 : decode cX12_longest 43 = .ok (.iload_n 1, 1) := by decide +kernel
theorem dX12_longest_44 : decode cX12_longest 44 = .ok (.iload_n 3, 1) := by decide +kernel
theorem dX12_longest_45 : decode cX12_longest 45 = .ok (.iload_n 2, 1) := by decide +kernel
theorem dX12_longest_46 : decode cX12_longest 46 = .ok (.isub, 1) := by decide +kernel
theorem dX12_longest_47 : decode cX12_longest 47 = .ok (.invokestatic 271, 3) := by decide +kernel
theorem dX12_longest_50 : decode cX12_longest 50 = .ok (.istore_n 1, 1) := by decide +kernel
theorem dX12_longest_51 : decode cX12_longest 51 = .ok (.iload_n 3, 1) := by decide +kernel
theorem dX12_longest_52 : decode cX12_longest 52 = .ok (.istore_n 2, 1) := by decide +kernel
theorem dX12_longest_53 : decode cX12_longest 53 = .ok (.iinc 3 1, 3) := by decide +kernel
theorem dX12_longest_56 : decode cX12_longest 56 = .ok (.goto (-36), 3) := by decide +kernel
theorem dX12_longest_59 : decode cX12_longest 59 = .ok (.iload_n 1, 1) := by decide +kernel
theorem dX12_longest_60 : decode cX12_longest 60 = .ok (.ireturn, 1) := by decide +kernel
theorem dX12_luck_0 : decode cX12_luck 0 = .ok (.iload_n 1, 1) := by decide +kernel
theorem dX12_luck_1 : decode cX12_luck 1 = .ok (.invokestatic 446, 3) := by decide +kernel
theorem dX12_luck_4 : decode cX12_luck 4 = .ok (.ifCond .eq 35, 3) := by decide +kernel
theorem dX12_luck_7 : decode cX12_luck 7 = .ok (.iload_n 2, 1) := by decide +kernel
theorem dX12_luck_8 : decode cX12_luck 8 = .ok (.i2l, 1) := by decide +kernel
theorem dX12_luck_9 : decode cX12_luck 9 = .ok (.lconst 1, 1) := by decide +kernel
theorem dX12_luck_10 : decode cX12_luck 10 = .ok (.ldc2_w 453, 3) := by decide +kernel
theorem dX12_luck_13 : decode cX12_luck 13 = .ok (.invokestatic 70, 3) := by decide +kernel
theorem dX12_luck_16 : decode cX12_luck 16 = .ok (.ifCond .eq 23, 3) := by decide +kernel
theorem dX12_luck_19 : decode cX12_luck 19 = .ok (.aload_n 0, 1) := by decide +kernel
theorem dX12_luck_20 : decode cX12_luck 20 = .ok (.iload_n 3, 1) := by decide +kernel
theorem dX12_luck_21 : decode cX12_luck 21 = .ok (.iload 4, 2) := by decide +kernel
theorem dX12_luck_23 : decode cX12_luck 23 = .ok (.invokevirtual 290, 3) := by decide +kernel
theorem dX12_luck_26 : decode cX12_luck 26 = .ok (.ifCond .eq 13, 3) := by decide +kernel
theorem dX12_luck_29 : decode cX12_luck 29 = .ok (.aload_n 0, 1) := by decide +kernel
theorem dX12_luck_30 : decode cX12_luck 30 = .ok (.iload 5, 2) := by decide +kernel
theorem dX12_luck_32 : decode cX12_luck 32 = .ok (.i2l, 1) := by decide +kernel
theorem dX12_luck_33 : decode cX12_luck 33 = .ok (.invokevirtual 205, 3) := by decide +kernel
theorem dX12_luck_36 : decode cX12_luck 36 = .ok (.ifCond .ne 6, 3) := by decide +kernel
theorem dX12_luck_39 : decode cX12_luck 39 = .ok (.bipush (-2), 2) := by decide +kernel
theorem dX12_luck_41 : decode cX12_luck 41 = .ok (.ireturn, 1) := by decide +kernel
theorem dX12_luck_42 : decode cX12_luck 42 = .ok (.aload_n 0, 1) := by decide +kernel
theorem dX12_luck_43 : decode cX12_luck 43 = .ok (.iload_n 3, 1) := by decide +kernel
theorem dX12_luck_44 : decode cX12_luck 44 = .ok (.iload 4, 2) := by decide +kernel
theorem dX12_luck_46 : decode cX12_luck 46 = .ok (.invokevirtual 293, 3) := by decide +kernel
theorem dX12_luck_49 : decode cX12_luck 49 = .ok (.ifCond .ne 5, 3) := by decide +kernel
theorem dX12_luck_52 : decode cX12_luck 52 = .ok (.iconst (-1), 1) := by decide +kernel
theorem dX12_luck_53 : decode cX12_luck 53 = .ok (.ireturn, 1) := by decide +kernel
theorem dX12_luck_54 : decode cX12_luck 54 = .ok (.iconst 0, 1) := by decide +kernel
theorem dX12_luck_55 : decode cX12_luck 55 = .ok (.istore 6, 2) := by decide +kernel
theorem dX12_luck_57 : decode cX12_luck 57 = .ok (.iconst 0, 1) := by decide +kernel
theorem dX12_luck_58 : decode cX12_luck 58 = .ok (.istore 7, 2) := by decide +kernel
theorem dX12_luck_60 : decode cX12_luck 60 = .ok (.iload 7, 2) := by decide +kernel
theorem dX12_luck_62 : decode cX12_luck 62 = .ok (.iload_n 2, 1) := by decide +kernel
theorem dX12_luck_63 : decode cX12_luck 63 = .ok (.if_icmp .ge 42, 3) := by decide +kernel
theorem dX12_luck_66 : decode cX12_luck 66 = .ok (.iload 6, 2) := by decide +kernel
theorem dX12_luck_68 : decode cX12_luck 68 = .ok (.aload_n 0, 1) := by decide +kernel
theorem dX12_luck_69 : decode cX12_luck 69 = .ok (.iload_n 1, 1) := by decide +kernel
theorem dX12_luck_70 : decode cX12_luck 70 = .ok (.i2l, 1) := by decide +kernel
theorem dX12_luck_71 : decode cX12_luck 71 = .ok (.iload 7, 2) := by decide +kernel
theorem dX12_luck_73 : decode cX12_luck 73 = .ok (.i2l, 1) := by decide +kernel
theorem dX12_luck_74 : decode cX12_luck 74 = .ok (.ladd, 1) := by decide +kernel
theorem dX12_luck_75 : decode cX12_luck 75 = .ok (.iload_n 3, 1) := by decide +kernel
theorem dX12_luck_76 : decode cX12_luck 76 = .ok (.iload 4, 2) := by decide +kernel
theorem dX12_luck_78 : decode cX12_luck 78 = .ok (.invokevirtual 449, 3) := by decide +kernel
theorem dX12_luck_81 : decode cX12_luck 81 = .ok (.aload_n 0, 1) := by decide +kernel
theorem dX12_luck_82 : decode cX12_luck 82 = .ok (.iload 5, 2) := by decide +kernel
theorem dX12_luck_84 : decode cX12_luck 84 = .ok (.iconst 0, 1) := by decide +kernel
theorem dX12_luck_85 : decode cX12_luck 85 = .ok (.invokevirtual 208, 3) := by decide +kernel
theorem dX12_luck_88 : decode cX12_luck 88 = .ok (.if_icmp .lt 7, 3) := by decide +kernel
theorem dX12_luck_91 : decode cX12_luck 91 = .ok (.iconst 1, 1) := by decide +kernel
theorem dX12_luck_92 : decode cX12_luck 92 = .ok (.goto 4, 3) := by decide +kernel
theorem dX12_luck_95 : decode cX12_luck 95 = .ok (.iconst 0, 1) := by decide +kernel
theorem dX12_luck_96 : decode cX12_luck 96 = .ok (.iadd, 1) := by decide +kernel
theorem dX12_luck_97 : decode cX12_luck 97 = .ok (.istore 6, 2) := by decide +kernel
theorem dX12_luck_99 : decode cX12_luck 99 = .ok (.iinc 7 1, 3) := by decide +kernel
theorem dX12_luck_102 : decode cX12_luck 102 = .ok (.goto (-42), 3) := by decide +kernel
theorem dX12_luck_105 : decode cX12_luck 105 = .ok (.iload 6, 2) := by decide +kernel
theorem dX12_luck_107 : decode cX12_luck 107 = .ok (.ireturn, 1) := by decide +kernel
theorem dX12_man_0 : decode cX12_man 0 = .ok (.aload_n 0, 1) := by decide +kernel
theorem dX12_man_1 : decode cX12_man 1 = .ok (.iload_n 1, 1) := by decide +kernel
theorem dX12_man_2 : decode cX12_man 2 = .ok (.i2l, 1) := by decide +kernel
theorem dX12_man_3 : decode cX12_man 3 = .ok (.invokevirtual 198, 3) := by decide +kernel
theorem dX12_man_6 : decode cX12_man 6 = .ok (.ifCond .eq 24, 3) := by decide +kernel
theorem dX12_man_9 : decode cX12_man 9 = .ok (.iload_n 2, 1) := by decide +kernel
theorem dX12_man_10 : decode cX12_man 10 = .ok (.i2l, 1) := by decide +kernel
theorem dX12_man_11 : decode cX12_man 11 = .ok (.lconst 0, 1) := by decide +kernel
theorem dX12_man_12 : decode cX12_man 12 = .ok (.ldc2_w 68, 3) := by decide +kernel
theorem dX12_man_15 : decode cX12_man 15 = .ok (.invokestatic 70, 3) := by decide +kernel
theorem dX12_man_18 : decode cX12_man 18 = .ok (.ifCond .eq 12, 3) := by decide +kernel
theorem dX12_man_21 : decode cX12_man 21 = .ok (.aload_n 0, 1) := by decide +kernel
theorem dX12_man_22 : decode cX12_man 22 = .ok (.iload_n 1, 1) := by decide +kernel
theorem dX12_man_23 : decode cX12_man 23 = .ok (.iload_n 2, 1) := by decide +kernel
theorem dX12_man_24 : decode cX12_man 24 = .ok (.invokevirtual 202, 3) := by decide +kernel
theorem dX12_man_27 : decode cX12_man 27 = .ok (.goto 5, 3) := by decide +kernel
theorem dX12_man_30 : decode cX12_man 30 = .ok (.bipush (-2), 2) := by decide +kernel
theorem dX12_man_32 : decode cX12_man 32 = .ok (.ireturn, 1) := by decide +kernel
theorem dX12_manyTo_0 : decode cX12_manyTo 0 = .ok (.iconst 0, 1) := by decide +kernel
theorem dX12_manyTo_1 : decode cX12_manyTo 1 = .ok (.istore_n 2, 1) := by decide +kernel
theorem dX12_manyTo_2 : decode cX12_manyTo 2 = .ok (.iconst 0, 1) := by decide +kernel
theorem dX12_manyTo_3 : decode cX12_manyTo 3 = .ok (.istore_n 3, 1) := by decide +kernel
theorem dX12_manyTo_4 : decode cX12_manyTo 4 = .ok (.iload_n 3, 1) := by decide +kernel
theorem dX12_manyTo_5 : decode cX12_manyTo 5 = .ok (.iload_n 1, 1) := by decide +kernel
theorem dX12_manyTo_6 : decode cX12_manyTo 6 = .ok (.if_icmp .gt 25, 3) := by decide +kernel
theorem dX12_manyTo_9 : decode cX12_manyTo 9 = .ok (.iload_n 2, 1) := by decide +kernel
theorem dX12_manyTo_10 : decode cX12_manyTo 10 = .ok (.aload_n 0, 1) := by decide +kernel
theorem dX12_manyTo_11 : decode cX12_manyTo 11 = .ok (.iload_n 3, 1) := by decide +kernel
theorem dX12_manyTo_12 : decode cX12_manyTo 12 = .ok (.invokevirtual 253, 3) := by decide +kernel
theorem dX12_manyTo_15 : decode cX12_manyTo 15 = .ok (.ifCond .eq 7, 3) := by decide +kernel
theorem dX12_manyTo_18 : decode cX12_manyTo 18 = .ok (.iconst 1, 1) := by decide +kernel
theorem dX12_manyTo_19 : decode cX12_manyTo 19 = .ok (.goto 4, 3) := by decide +kernel
theorem dX12_manyTo_22 : decode cX12_manyTo 22 = .ok (.iconst 0, 1) := by decide +kernel
theorem dX12_manyTo_23 : decode cX12_manyTo 23 = .ok (.iadd, 1) := by decide +kernel
theorem dX12_manyTo_24 : decode cX12_manyTo 24 = .ok (.istore_n 2, 1) := by decide +kernel
theorem dX12_manyTo_25 : decode cX12_manyTo 25 = .ok (.iinc 3 1, 3) := by decide +kernel
theorem dX12_manyTo_28 : decode cX12_manyTo 28 = .ok (.goto (-24), 3) := by decide +kernel
theorem dX12_manyTo_31 : decode cX12_manyTo 31 = .ok (.iload_n 2, 1) := by decide +kernel
theorem dX12_manyTo_32 : decode cX12_manyTo 32 = .ok (.ireturn, 1) := by decide +kernel
theorem dX12_match_0 : decode cX12_match 0 = .ok (.aload_n 0, 1) := by decide +kernel
theorem dX12_match_1 : decode cX12_match 1 = .ok (.invokevirtual 74, 3) := by decide +kernel
theorem dX12_match_4 : decode cX12_match 4 = .ok (.ifCond .ne 6, 3) := by decide +kernel
theorem dX12_match_7 : decode cX12_match 7 = .ok (.bipush (-2), 2) := by decide +kernel

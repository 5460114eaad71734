theorem dX8_sizeOf_63 : decode cX8_sizeOf 63 = .ok (.goto 15, 3) := by decide +kernel
theorem dX8_sizeOf_66 : decode cX8_sizeOf 66 = .ok (.iload 6, 2) := by decide +kernel
theorem dX8_sizeOf_68 : decode cX8_sizeOf 68 = .ok (.bipush 100, 2) := by decide +kernel
theorem dX8_sizeOf_70 : decode cX8_sizeOf 70 = .ok (.if_icmp .gt 7, 3) := by decide +kernel
theorem dX8_sizeOf_73 : decode cX8_sizeOf 73 = .ok (.iconst 1, 1) := by decide +kernel
theorem dX8_sizeOf_74 : decode cX8_sizeOf 74 = .ok (.goto 4, 3) := by decide +kernel
theorem dX8_sizeOf_77 : decode cX8_sizeOf 77 = .ok (.iconst 2, 1) := by decide +kernel
theorem dX8_sizeOf_78 : decode cX8_sizeOf 78 = .ok (.ireturn, 1) := by decide +kernel
theorem dX8_size_0 : decode cX8_size 0 = .ok (.aload_n 0, 1) := by decide +kernel
theorem dX8_size_1 : decode cX8_size 1 = .ok (.iload_n 1, 1) := by decide +kernel
theorem dX8_size_2 : decode cX8_size 2 = .ok (.invokevirtual 126, 3) := by decide +kernel
theorem dX8_size_5 : decode cX8_size 5 = .ok (.ifCond .eq 28, 3) := by decide +kernel
theorem dX8_size_8 : decode cX8_size 8 = .ok (.aload_n 0, 1) := by decide +kernel
theorem dX8_size_9 : decode cX8_size 9 = .ok (.iload_n 2, 1) := by decide +kernel
theorem dX8_size_10 : decode cX8_size 10 = .ok (.invokevirtual 89, 3) := by decide +kernel
theorem dX8_size_13 : decode cX8_size 13 = .ok (.ifCond .eq 20, 3) := by decide +kernel
theorem dX8_size_16 : decode cX8_size 16 = .ok (.iload_n 3, 1) := by decide +kernel
theorem dX8_size_17 : decode cX8_size 17 = .ok (.invokestatic 95, 3) := by decide +kernel
theorem dX8_size_20 : decode cX8_size 20 = .ok (.ifCond .eq 13, 3) := by decide +kernel
theorem dX8_size_23 : decode cX8_size 23 = .ok (.aload_n 0, 1) := by decide +kernel
theorem dX8_size_24 : decode cX8_size 24 = .ok (.iload_n 1, 1) := by decide +kernel
theorem dX8_size_25 : decode cX8_size 25 = .ok (.iload_n 2, 1) := by decide +kernel
theorem dX8_size_26 : decode cX8_size 26 = .ok (.iload_n 3, 1) := by decide +kernel
theorem dX8_size_27 : decode cX8_size 27 = .ok (.invokevirtual 132, 3) := by decide +kernel
theorem dX8_size_30 : decode cX8_size 30 = .ok (.goto 4, 3) := by decide +kernel
theorem dX8_size_33 : decode cX8_size 33 = .ok (.iconst (-1), 1) := by decide +kernel
theorem dX8_size_34 : decode cX8_size 34 = .ok (.ireturn, 1) := by decide +kernel
theorem dX8_views_0 : decode cX8_views 0 = .ok (.aload_n 0, 1) := by decide +kernel
theorem dX8_views_1 : decode cX8_views 1 = .ok (.iload_n 1, 1) := by decide +kernel
theorem dX8_views_2 : decode cX8_views 2 = .ok (.invokevirtual 89, 3) := by decide +kernel
theorem dX8_views_5 : decode cX8_views 5 = .ok (.ifCond .eq 10, 3) := by decide +kernel
theorem dX8_views_8 : decode cX8_views 8 = .ok (.iload_n 2, 1) := by decide +kernel
theorem dX8_views_9 : decode cX8_views 9 = .ok (.invokestatic 95, 3) := by decide +kernel
theorem dX8_views_12 : decode cX8_views 12 = .ok (.ifCond .ne 5, 3) := by decide +kernel
theorem dX8_views_15 : decode cX8_views 15 = .ok (.iconst (-1), 1) := by decide +kernel
theorem dX8_views_16 : decode cX8_views 16 = .ok (.ireturn, 1) := by decide +kernel
theorem dX8_views_17 : decode cX8_views 17 = .ok (.iconst 0, 1) := by decide +kernel
theorem dX8_views_18 : decode cX8_views 18 = .ok (.istore_n 3, 1) := by decide +kernel
theorem dX8_views_19 : decode cX8_views 19 = .ok (.iconst 0, 1) := by decide +kernel
theorem dX8_views_20 : decode cX8_views 20 = .ok (.istore 4, 2) := by decide +kernel
theorem dX8_views_22 : decode cX8_views 22 = .ok (.iload 4, 2) := by decide +kernel
theorem dX8_views_24 : decode cX8_views 24 = .ok (.bipush 32, 2) := by decide +kernel
theorem dX8_views_26 : decode cX8_views 26 = .ok (.if_icmp .ge 50, 3) := by decide +kernel
theorem dX8_views_29 : decode cX8_views 29 = .ok (.iconst 0, 1) := by decide +kernel
theorem dX8_views_30 : decode cX8_views 30 = .ok (.istore 5, 2) := by decide +kernel
theorem dX8_views_32 : decode cX8_views 32 = .ok (.iload 5, 2) := by decide +kernel
theorem dX8_views_34 : decode cX8_views 34 = .ok (.bipush 32, 2) := by decide +kernel
theorem dX8_views_36 : decode cX8_views 36 = .ok (.if_icmp .ge 34, 3) := by decide +kernel
theorem dX8_views_39 : decode cX8_views 39 = .ok (.iload_n 3, 1) := by decide +kernel
theorem dX8_views_40 : decode cX8_views 40 = .ok (.aload_n 0, 1) := by decide +kernel
theorem dX8_views_41 : decode cX8_views 41 = .ok (.iload_n 1, 1) := by decide +kernel
theorem dX8_views_42 : decode cX8_views 42 = .ok (.iload_n 2, 1) := by decide +kernel
theorem dX8_views_43 : decode cX8_views 43 = .ok (.bipush 100, 2) := by decide +kernel
theorem dX8_views_45 : decode cX8_views 45 = .ok (.iload 4, 2) := by decide +kernel
theorem dX8_views_47 : decode cX8_views 47 = .ok (.imul, 1) := by decide +kernel
theorem dX8_views_48 : decode cX8_views 48 = .ok (.iload 5, 2) := by decide +kernel
theorem dX8_views_50 : decode cX8_views 50 = .ok (.iadd, 1) := by decide +kernel
theorem dX8_views_51 : decode cX8_views 51 = .ok (.invokevirtual 123, 3) := by decide +kernel
theorem dX8_views_54 : decode cX8_views 54 = .ok (.ifCond .eq 7, 3) := by decide +kernel
theorem dX8_views_57 : decode cX8_views 57 = .ok (.iconst 0, 1) := by decide +kernel
theorem dX8_views_58 : decode cX8_views 58 = .ok (.goto 4, 3) := by decide +kernel
theorem dX8_views_61 : decode cX8_views 61 = .ok (.iconst 1, 1) := by decide +kernel
theorem dX8_views_62 : decode cX8_views 62 = .ok (.iadd, 1) := by decide +kernel
theorem dX8_views_63 : decode cX8_views 63 = .ok (.istore_n 3, 1) := by decide +kernel
theorem dX8_views_64 : decode cX8_views 64 = .ok (.iinc 5 1, 3) := by decide +kernel
theorem dX8_views_67 : decode cX8_views 67 = .ok (.goto (-35), 3) := by decide +kernel
theorem dX8_views_70 : decode cX8_views 70 = .ok (.iinc 4 1, 3) := by decide +kernel
theorem dX8_views_73 : decode cX8_views 73 = .ok (.goto (-51), 3) := by decide +kernel
theorem dX8_views_76 : decode cX8_views 76 = .ok (.iload_n 3, 1) := by decide +kernel
theorem dX8_views_77 : decode cX8_views 77 = .ok (.ireturn, 1) := by decide +kernel
theorem dX8_fails_0 : decode cX8_fails 0 = .ok (.aload_n 0, 1) := by decide +kernel
theorem dX8_fails_1 : decode cX8_fails 1 = .ok (.getfield 37, 3) := by decide +kernel
theorem dX8_fails_4 : decode cX8_fails 4 = .ok (.iload_n 2, 1) := by decide +kernel
theorem dX8_fails_5 : decode cX8_fails 5 = .ok (.iaload, 1) := by decide +kernel
theorem dX8_fails_6 : decode cX8_fails 6 = .ok (.istore 4, 2) := by decide +kernel
theorem dX8_fails_8 : decode cX8_fails 8 = .ok (.iconst 0, 1) := by decide +kernel
theorem dX8_fails_9 : decode cX8_fails 9 = .ok (.istore 5, 2) := by decide +kernel
theorem dX8_fails_11 : decode cX8_fails 11 = .ok (.iload 5, 2) := by decide +kernel
theorem dX8_fails_13 : decode cX8_fails 13 = .ok (.aload_n 0, 1) := by decide +kernel
theorem dX8_fails_14 : decode cX8_fails 14 = .ok (.getfield 72, 3) := by decide +kernel
theorem dX8_fails_17 : decode cX8_fails 17 = .ok (.if_icmp .ge 46, 3) := by decide +kernel
theorem dX8_fails_20 : decode cX8_fails 20 = .ok (.aload_n 0, 1) := by decide +kernel
theorem dX8_fails_21 : decode cX8_fails 21 = .ok (.getfield 40, 3) := by decide +kernel
theorem dX8_fails_24 : decode cX8_fails 24 = .ok (.iload_n 2, 1) := by decide +kernel
theorem dX8_fails_25 : decode cX8_fails 25 = .ok (.iaload, 1) := by decide +kernel
theorem dX8_fails_26 : decode cX8_fails 26 = .ok (.iload 5, 2) := by decide +kernel
theorem dX8_fails_28 : decode cX8_fails 28 = .ok (.ishr, 1) := by decide +kernel
theorem dX8_fails_29 : decode cX8_fails 29 = .ok (.iconst 1, 1) := by decide +kernel
theorem dX8_fails_30 : decode cX8_fails 30 = .ok (.iand, 1) := by decide +kernel
theorem dX8_fails_31 : decode cX8_fails 31 = .ok (.iconst 1, 1) := by decide +kernel
theorem dX8_fails_32 : decode cX8_fails 32 = .ok (.if_icmp .ne 25, 3) := by decide +kernel
theorem dX8_fails_35 : decode cX8_fails 35 = .ok (.aload_n 0, 1) := by decide +kernel
theorem dX8_fails_36 : decode cX8_fails 36 = .ok (.iload 5, 2) := by decide +kernel
theorem dX8_fails_38 : decode cX8_fails 38 = .ok (.iload_n 3, 1) := by decide +kernel
theorem dX8_fails_39 : decode cX8_fails 39 = .ok (.aload_n 0, 1) := by decide +kernel
theorem dX8_fails_40 : decode cX8_fails 40 = .ok (.getfield 28, 3) := by decide +kernel
theorem dX8_fails_43 : decode cX8_fails 43 = .ok (.iload_n 1, 1) := by decide +kernel
theorem dX8_fails_44 : decode cX8_fails 44 = .ok (.iaload, 1) := by decide +kernel
theorem dX8_fails_45 : decode cX8_fails 45 = .ok (.invokevirtual 123, 3) := by decide +kernel
theorem dX8_fails_48 : decode cX8_fails 48 = .ok (.ifCond .eq 9, 3) := by decide +kernel
theorem dX8_fails_51 : decode cX8_fails 51 = .ok (.bipush 10, 2) := by decide +kernel
theorem dX8_fails_53 : decode cX8_fails 53 = .ok (.iload 5, 2) := by decide +kernel
theorem dX8_fails_55 : decode cX8_fails 55 = .ok (.iadd, 1) := by decide +kernel
theorem dX8_fails_56 : decode cX8_fails 56 = .ok (.ireturn, 1) := by decide +kernel
theorem dX8_fails_57 : decode cX8_fails 57 = .ok (.iinc 5 1, 3) := by decide +kernel
theorem dX8_fails_60 : decode cX8_fails 60 = .ok (.goto (-49), 3) := by decide +kernel
theorem dX8_fails_63 : decode cX8_fails 63 = .ok (.iconst 0, 1) := by decide +kernel
theorem dX8_fails_64 : decode cX8_fails 64 = .ok (.istore 5, 2) := by decide +kernel
theorem dX8_fails_66 : decode cX8_fails 66 = .ok (.iload 5, 2) := by decide +kernel
theorem dX8_fails_68 : decode cX8_fails 68 = .ok (.aload_n 0, 1) := by decide +kernel
theorem dX8_fails_69 : decode cX8_fails 69 = .ok (.getfield 72, 3) := by decide +kernel
theorem dX8_fails_72 : decode cX8_fails 72 = .ok (.if_icmp .ge 43, 3) := by decide +kernel
theorem dX8_fails_75 : decode cX8_fails 75 = .ok (.aload_n 0, 1) := by decide +kernel
theorem dX8_fails_76 : decode cX8_fails 76 = .ok (.getfield 40, 3) := by decide +kernel
theorem dX8_fails_79 : decode cX8_fails 79 = .ok (.iload_n 2, 1) := by decide +kernel
theorem dX8_fails_80 : decode cX8_fails 80 = .ok (.iaload, 1) := by decide +kernel
theorem dX8_fails_81 : decode cX8_fails 81 = .ok (.iload 5, 2) := by decide +kernel
theorem dX8_fails_83 : decode cX8_fails 83 = .ok (.ishr, 1) := by decide +kernel
theorem dX8_fails_84 : decode cX8_fails 84 = .ok (.iconst 1, 1) := by decide +kernel
theorem dX8_fails_85 : decode cX8_fails 85 = .ok (.iand, 1) := by decide +kernel
theorem dX8_fails_86 : decode cX8_fails 86 = .ok (.iconst 1, 1) := by decide +kernel
theorem dX8_fails_87 : decode cX8_fails 87 = .ok (.if_icmp .ne 22, 3) := by decide +kernel
theorem dX8_fails_90 : decode cX8_fails 90 = .ok (.aload_n 0, 1) := by decide +kernel
theorem dX8_fails_91 : decode cX8_fails 91 = .ok (.iload_n 1, 1) := by decide +kernel
theorem dX8_fails_92 : decode cX8_fails 92 = .ok (.iload 4, 2) := by decide +kernel
theorem dX8_fails_94 : decode cX8_fails 94 = .ok (.iload 5, 2) := by decide +kernel
theorem dX8_fails_96 : decode cX8_fails 96 = .ok (.iload_n 3, 1) := by decide +kernel
theorem dX8_fails_97 : decode cX8_fails 97 = .ok (.invokevirtual 129, 3) := by decide +kernel
theorem dX8_fails_100 : decode cX8_fails 100 = .ok (.ifCond .ne 9, 3) := by decide +kernel
theorem dX8_fails_103 : decode cX8_fails 103 = .ok (.bipush 20, 2) := by decide +kernel
theorem dX8_fails_105 : decode cX8_fails 105 = .ok (.iload 5, 2) := by decide +kernel
theorem dX8_fails_107 : decode cX8_fails 107 = .ok (.iadd, 1) := by decide +kernel
theorem dX8_fails_108 : decode cX8_fails 108 = .ok (.ireturn, 1) := by decide +kernel
theorem dX8_fails_109 : decode cX8_fails 109 = .ok (.iinc 5 1, 3) := by decide +kernel
theorem dX8_fails_112 : decode cX8_fails 112 = .ok (.goto (-46), 3) := by decide +kernel
theorem dX8_fails_115 : decode cX8_fails 115 = .ok (.aload_n 0, 1) := by decide +kernel
theorem dX8_fails_116 : decode cX8_fails 116 = .ok (.getfield 43, 3) := by decide +kernel
theorem dX8_fails_119 : decode cX8_fails 119 = .ok (.iload_n 2, 1) := by decide +kernel
theorem dX8_fails_120 : decode cX8_fails 120 = .ok (.iaload, 1) := by decide +kernel
theorem dX8_fails_121 : decode cX8_fails 121 = .ok (.aload_n 0, 1) := by decide +kernel
theorem dX8_fails_122 : decode cX8_fails 122 = .ok (.iload_n 1, 1) := by decide +kernel
theorem dX8_fails_123 : decode cX8_fails 123 = .ok (.iload 4, 2) := by decide +kernel
theorem dX8_fails_125 : decode cX8_fails 125 = .ok (.iload_n 3, 1) := by decide +kernel
theorem dX8_fails_126 : decode cX8_fails 126 = .ok (.invokevirtual 132, 3) := by decide +kernel
theorem dX8_fails_129 : decode cX8_fails 129 = .ok (.ishr, 1) := by decide +kernel
theorem dX8_fails_130 : decode cX8_fails 130 = .ok (.iconst 1, 1) := by decide +kernel
theorem dX8_fails_131 : decode cX8_fails 131 = .ok (.iand, 1) := by decide +kernel
theorem dX8_fails_132 : decode cX8_fails 132 = .ok (.ifCond .ne 6, 3) := by decide +kernel
theorem dX8_fails_135 : decode cX8_fails 135 = .ok (.bipush 30, 2) := by decide +kernel
theorem dX8_fails_137 : decode cX8_fails 137 = .ok (.ireturn, 1) := by decide +kernel
theorem dX8_fails_138 : decode cX8_fails 138 = .ok (.iconst 0, 1) := by decide +kernel
theorem dX8_fails_139 : decode cX8_fails 139 = .ok (.istore 5, 2) := by decide +kernel
theorem dX8_fails_141 : decode cX8_fails 141 = .ok (.iload 5, 2) := by decide +kernel
theorem dX8_fails_143 : decode cX8_fails 143 = .ok (.aload_n 0, 1) := by decide +kernel
theorem dX8_fails_144 : decode cX8_fails 144 = .ok (.getfield 72, 3) := by decide +kernel
theorem dX8_fails_147 : decode cX8_fails 147 = .ok (.if_icmp .ge 113, 3) := by decide +kernel
theorem dX8_fails_150 : decode cX8_fails 150 = .ok (.aload_n 0, 1) := by decide +kernel
theorem dX8_fails_151 : decode cX8_fails 151 = .ok (.getfield 34, 3) := by decide +kernel
theorem dX8_fails_154 : decode cX8_fails 154 = .ok (.iload_n 2, 1) := by decide +kernel
theorem dX8_fails_155 : decode cX8_fails 155 = .ok (.iaload, 1) := by decide +kernel
theorem dX8_fails_156 : decode cX8_fails 156 = .ok (.iconst 2, 1) := by decide +kernel
theorem dX8_fails_157 : decode cX8_fails 157 = .ok (.if_icmp .ne 103, 3) := by decide +kernel
theorem dX8_fails_160 : decode cX8_fails 160 = .ok (.iload_n 3, 1) := by decide +kernel
theorem dX8_fails_161 : decode cX8_fails 161 = .ok (.aload_n 0, 1) := by decide +kernel
theorem dX8_fails_162 : decode cX8_fails 162 = .ok (.getfield 46, 3) := by decide +kernel
theorem dX8_fails_165 : decode cX8_fails 165 = .ok (.iload_n 2, 1) := by decide +kernel
theorem dX8_fails_166 : decode cX8_fails 166 = .ok (.iaload, 1) := by decide +kernel
theorem dX8_fails_167 : decode cX8_fails 167 = .ok (.if_icmp .le 93, 3) := by decide +kernel
theorem dX8_fails_170 : decode cX8_fails 170 = .ok (.aload_n 0, 1) := by decide +kernel
theorem dX8_fails_171 : decode cX8_fails 171 = .ok (.getfield 40, 3) := by decide +kernel
theorem dX8_fails_174 : decode cX8_fails 174 = .ok (.iload_n 2, 1) := by decide +kernel
theorem dX8_fails_175 : decode cX8_fails 175 = .ok (.iaload, 1) := by decide +kernel
theorem dX8_fails_176 : decode cX8_fails 176 = .ok (.iload 5, 2) := by decide +kernel
theorem dX8_fails_178 : decode cX8_fails 178 = .ok (.ishr, 1) := by decide +kernel
theorem dX8_fails_179 : decode cX8_fails 179 = .ok (.iconst 1, 1) := by decide +kernel
theorem dX8_fails_180 : decode cX8_fails 180 = .ok (.iand, 1) := by decide +kernel
theorem dX8_fails_181 : decode cX8_fails 181 = .ok (.iconst 1, 1) := by decide +kernel
theorem dX8_fails_182 : decode cX8_fails 182 = .ok (.if_icmp .ne 7, 3) := by decide +kernel
theorem dX8_fails_185 : decode cX8_fails 185 = .ok (.iconst 1, 1) := by decide +kernel
theorem dX8_fails_186 : decode cX8_fails 186 = .ok (.goto 4, 3) := by decide +kernel
theorem dX8_fails_189 : decode cX8_fails 189 = .ok (.iconst 0, 1) := by decide +kernel
theorem dX8_fails_190 : decode cX8_fails 190 = .ok (.istore 6, 2) := by decide +kernel
theorem dX8_fails_192 : decode cX8_fails 192 = .ok (.iload 6, 2) := by decide +kernel
theorem dX8_fails_194 : decode cX8_fails 194 = .ok (.ifCond .eq 60, 3) := by decide +kernel
theorem dX8_fails_197 : decode cX8_fails 197 = .ok (.aload_n 0, 1) := by decide +kernel
theorem dX8_fails_198 : decode cX8_fails 198 = .ok (.getfield 28, 3) := by decide +kernel
theorem dX8_fails_201 : decode cX8_fails 201 = .ok (.iload_n 1, 1) := by decide +kernel
theorem dX8_fails_202 : decode cX8_fails 202 = .ok (.iaload, 1) := by decide +kernel
theorem dX8_fails_203 : decode cX8_fails 203 = .ok (.aload_n 0, 1) := by decide +kernel
theorem dX8_fails_204 : decode cX8_fails 204 = .ok (.iload 4, 2) := by decide +kernel
theorem dX8_fails_206 : decode cX8_fails 206 = .ok (.iload_n 3, 1) := by decide +kernel
theorem dX8_fails_207 : decode cX8_fails 207 = .ok (.invokevirtual 98, 3) := by decide +kernel
theorem dX8_fails_210 : decode cX8_fails 210 = .ok (.aload_n 0, 1) := by decide +kernel
theorem dX8_fails_211 : decode cX8_fails 211 = .ok (.iload 5, 2) := by decide +kernel
theorem dX8_fails_213 : decode cX8_fails 213 = .ok (.iload_n 3, 1) := by decide +kernel
theorem dX8_fails_214 : decode cX8_fails 214 = .ok (.invokevirtual 98, 3) := by decide +kernel
theorem dX8_fails_217 : decode cX8_fails 217 = .ok (.invokestatic 109, 3) := by decide +kernel
theorem dX8_fails_220 : decode cX8_fails 220 = .ok (.aload_n 0, 1) := by decide +kernel
theorem dX8_fails_221 : decode cX8_fails 221 = .ok (.getfield 28, 3) := by decide +kernel
theorem dX8_fails_224 : decode cX8_fails 224 = .ok (.iload_n 1, 1) := by decide +kernel
theorem dX8_fails_225 : decode cX8_fails 225 = .ok (.iaload, 1) := by decide +kernel
theorem dX8_fails_226 : decode cX8_fails 226 = .ok (.aload_n 0, 1) := by decide +kernel
theorem dX8_fails_227 : decode cX8_fails 227 = .ok (.iload 4, 2) := by decide +kernel
theorem dX8_fails_229 : decode cX8_fails 229 = .ok (.iload_n 3, 1) := by decide +kernel
theorem dX8_fails_230 : decode cX8_fails 230 = .ok (.iconst 1, 1) := by decide +kernel
theorem dX8_fails_231 : decode cX8_fails 231 = .ok (.isub, 1) := by decide +kernel
theorem dX8_fails_232 : decode cX8_fails 232 = .ok (.invokevirtual 98, 3) := by decide +kernel
theorem dX8_fails_235 : decode cX8_fails 235 = .ok (.aload_n 0, 1) := by decide +kernel
theorem dX8_fails_236 : decode cX8_fails 236 = .ok (.iload 5, 2) := by decide +kernel
theorem dX8_fails_238 : decode cX8_fails 238 = .ok (.iload_n 3, 1) := by decide +kernel
theorem dX8_fails_239 : decode cX8_fails 239 = .ok (.iconst 1, 1) := by decide +kernel
theorem dX8_fails_240 : decode cX8_fails 240 = .ok (.isub, 1) := by decide +kernel
theorem dX8_fails_241 : decode cX8_fails 241 = .ok (.invokevirtual 98, 3) := by decide +kernel
theorem dX8_fails_244 : decode cX8_fails 244 = .ok (.invokestatic 109, 3) := by decide +kernel
theorem dX8_fails_247 : decode cX8_fails 247 = .ok (.imul, 1) := by decide +kernel
theorem dX8_fails_248 : decode cX8_fails 248 = .ok (.ifCond .ge 6, 3) := by decide +kernel
theorem dX8_fails_251 : decode cX8_fails 251 = .ok (.bipush 40, 2) := by decide +kernel
theorem dX8_fails_253 : decode cX8_fails 253 = .ok (.ireturn, 1) := by decide +kernel
theorem dX8_fails_254 : decode cX8_fails 254 = .ok (.iinc 5 1, 3) := by decide +kernel
theorem dX8_fails_257 : decode cX8_fails 257 = .ok (.goto (-116), 3) := by decide +kernel
theorem dX8_fails_260 : decode cX8_fails 260 = .ok (.iconst 0, 1) := by decide +kernel
theorem dX8_fails_261 : decode cX8_fails 261 = .ok (.ireturn, 1) := by decide +kernel
theorem dX8_whyNot_0 : decode cX8_whyNot 0 = .ok (.aload_n 0, 1) := by decide +kernel
theorem dX8_whyNot_1 : decode cX8_whyNot 1 = .ok (.getfield 46, 3) := by decide +kernel
theorem dX8_whyNot_4 : decode cX8_whyNot 4 = .ok (.iload_n 2, 1) := by decide +kernel
theorem dX8_whyNot_5 : decode cX8_whyNot 5 = .ok (.iaload, 1) := by decide +kernel
theorem dX8_whyNot_6 : decode cX8_whyNot 6 = .ok (.istore_n 3, 1) := by decide +kernel
theorem dX8_whyNot_7 : decode cX8_whyNot 7 = .ok (.iload_n 3, 1) := by decide +kernel
theorem dX8_whyNot_8 : decode cX8_whyNot 8 = .ok (.aload_n 0, 1) := by decide +kernel
theorem dX8_whyNot_9 : decode cX8_whyNot 9 = .ok (.getfield 49, 3) := by decide +kernel
theorem dX8_whyNot_12 : decode cX8_whyNot 12 = .ok (.iload_n 2, 1) := by decide +kernel
theorem dX8_whyNot_13 : decode cX8_whyNot 13 = .ok (.iaload, 1) := by decide +kernel
theorem dX8_whyNot_14 : decode cX8_whyNot 14 = .ok (.if_icmp .gt 31, 3) := by decide +kernel
theorem dX8_whyNot_17 : decode cX8_whyNot 17 = .ok (.aload_n 0, 1) := by decide +kernel
theorem dX8_whyNot_18 : decode cX8_whyNot 18 = .ok (.iload_n 1, 1) := by decide +kernel
theorem dX8_whyNot_19 : decode cX8_whyNot 19 = .ok (.iload_n 2, 1) := by decide +kernel
theorem dX8_whyNot_20 : decode cX8_whyNot 20 = .ok (.iload_n 3, 1) := by decide +kernel
theorem dX8_whyNot_21 : decode cX8_whyNot 21 = .ok (.invokevirtual 135, 3) := by decide +kernel
theorem dX8_whyNot_24 : decode cX8_whyNot 24 = .ok (.istore 4, 2) := by decide +kernel
theorem dX8_whyNot_26 : decode cX8_whyNot 26 = .ok (.iload 4, 2) := by decide +kernel
theorem dX8_whyNot_28 : decode cX8_whyNot 28 = .ok (.ifCond .eq 11, 3) := by decide +kernel
theorem dX8_whyNot_31 : decode cX8_whyNot 31 = .ok (.bipush 100, 2) := by decide +kernel
theorem dX8_whyNot_33 : decode cX8_whyNot 33 = .ok (.iload_n 3, 1) := by decide +kernel
theorem dX8_whyNot_34 : decode cX8_whyNot 34 = .ok (.imul, 1) := by decide +kernel
theorem dX8_whyNot_35 : decode cX8_whyNot 35 = .ok (.iload 4, 2) := by decide +kernel
theorem dX8_whyNot_37 : decode cX8_whyNot 37 = .ok (.iadd, 1) := by decide +kernel
theorem dX8_whyNot_38 : decode cX8_whyNot 38 = .ok (.ireturn, 1) := by decide +kernel
theorem dX8_whyNot_39 : decode cX8_whyNot 39 = .ok (.iinc 3 1, 3) := by decide +kernel
theorem dX8_whyNot_42 : decode cX8_whyNot 42 = .ok (.goto (-35), 3) := by decide +kernel
theorem dX8_whyNot_45 : decode cX8_whyNot 45 = .ok (.iconst 0, 1) := by decide +kernel
theorem dX8_whyNot_46 : decode cX8_whyNot 46 = .ok (.ireturn, 1) := by decide +kernel
theorem dX8_gives_0 : decode cX8_gives 0 = .ok (.aload_n 0, 1) := by decide +kernel
theorem dX8_gives_1 : decode cX8_gives 1 = .ok (.iload_n 1, 1) := by decide +kernel
theorem dX8_gives_2 : decode cX8_gives 2 = .ok (.invokevirtual 126, 3) := by decide +kernel
theorem dX8_gives_5 : decode cX8_gives 5 = .ok (.ifCond .eq 11, 3) := by decide +kernel
theorem dX8_gives_8 : decode cX8_gives 8 = .ok (.aload_n 0, 1) := by decide +kernel
theorem dX8_gives_9 : decode cX8_gives 9 = .ok (.iload_n 2, 1) := by decide +kernel
theorem dX8_gives_10 : decode cX8_gives 10 = .ok (.invokevirtual 138, 3) := by decide +kernel
theorem dX8_gives_13 : decode cX8_gives 13 = .ok (.ifCond .ne 5, 3) := by decide +kernel
theorem dX8_gives_16 : decode cX8_gives 16 = .ok (.iconst (-1), 1) := by decide +kernel
theorem dX8_gives_17 : decode cX8_gives 17 = .ok (.ireturn, 1) := by decide +kernel
theorem dX8_gives_18 : decode cX8_gives 18 = .ok (.aload_n 0, 1) := by decide +kernel
theorem dX8_gives_19 : decode cX8_gives 19 = .ok (.iload_n 1, 1) := by decide +kernel
theorem dX8_gives_20 : decode cX8_gives 20 = .ok (.iload_n 2, 1) := by decide +kernel
theorem dX8_gives_21 : decode cX8_gives 21 = .ok (.invokevirtual 141, 3) := by decide +kernel
theorem dX8_gives_24 : decode cX8_gives 24 = .ok (.ifCond .ne 7, 3) := by decide +kernel
theorem dX8_gives_27 : decode cX8_gives 27 = .ok (.iconst 1, 1) := by decide +kernel
theorem dX8_gives_28 : decode cX8_gives 28 = .ok (.goto 4, 3) := by decide +kernel
theorem dX8_gives_31 : decode cX8_gives 31 = .ok (.iconst 0, 1) := by decide +kernel
theorem dX8_gives_32 : decode cX8_gives 32 = .ok (.ireturn, 1) := by decide +kernel
theorem dX8_why_0 : decode cX8_why 0 = .ok (.aload_n 0, 1) := by decide +kernel
theorem dX8_why_1 : decode cX8_why 1 = .ok (.iload_n 1, 1) := by decide +kernel
theorem dX8_why_2 : decode cX8_why 2 = .ok (.invokevirtual 126, 3) := by decide +kernel
theorem dX8_why_5 : decode cX8_why 5 = .ok (.ifCond .eq 20, 3) := by decide +kernel
theorem dX8_why_8 : decode cX8_why 8 = .ok (.aload_n 0, 1) := by decide +kernel
theorem dX8_why_9 : decode cX8_why 9 = .ok (.iload_n 2, 1) := by decide +kernel
theorem dX8_why_10 : decode cX8_why 10 = .ok (.invokevirtual 138, 3) := by decide +kernel
theorem dX8_why_13 : decode cX8_why 13 = .ok (.ifCond .eq 12, 3) := by decide +kernel
theorem dX8_why_16 : decode cX8_why 16 = .ok (.aload_n 0, 1) := by decide +kernel
theorem dX8_why_17 : decode cX8_why 17 = .ok (.iload_n 1, 1) := by decide +kernel
theorem dX8_why_18 : decode cX8_why 18 = .ok (.iload_n 2, 1) := by decide +kernel
theorem dX8_why_19 : decode cX8_why 19 = .ok (.invokevirtual 141, 3) := by decide +kernel
theorem dX8_why_22 : decode cX8_why 22 = .ok (.goto 4, 3) := by decide +kernel
theorem dX8_why_25 : decode cX8_why 25 = .ok (.iconst (-1), 1) := by decide +kernel
theorem dX8_why_26 : decode cX8_why 26 = .ok (.ireturn, 1) := by decide +kernel
theorem dX8_other_0 : decode cX8_other 0 = .ok (.iconst 0, 1) := by decide +kernel
theorem dX8_other_1 : decode cX8_other 1 = .ok (.istore_n 2, 1) := by decide +kernel
theorem dX8_other_2 : decode cX8_other 2 = .ok (.iload_n 2, 1) := by decide +kernel
theorem dX8_other_3 : decode cX8_other 3 = .ok (.aload_n 0, 1) := by decide +kernel
theorem dX8_other_4 : decode cX8_other 4 = .ok (.getfield 37, 3) := by decide +kernel
theorem dX8_other_7 : decode cX8_other 7 = .ok (.iload_n 1, 1) := by decide +kernel
theorem dX8_other_8 : decode cX8_other 8 = .ok (.iaload, 1) := by decide +kernel
theorem dX8_other_9 : decode cX8_other 9 = .ok (.if_icmp .eq 16, 3) := by decide +kernel
theorem dX8_other_12 : decode cX8_other 12 = .ok (.aload_n 0, 1) := by decide +kernel
theorem dX8_other_13 : decode cX8_other 13 = .ok (.getfield 40, 3) := by decide +kernel
theorem dX8_other_16 : decode cX8_other 16 = .ok (.iload_n 1, 1) := by decide +kernel
theorem dX8_other_17 : decode cX8_other 17 = .ok (.iaload, 1) := by decide +kernel
theorem dX8_other_18 : decode cX8_other 18 = .ok (.iload_n 2, 1) := by decide +kernel
theorem dX8_other_19 : decode cX8_other 19 = .ok (.ishr, 1) := by decide +kernel
theorem dX8_other_20 : decode cX8_other 20 = .ok (.iconst 1, 1) := by decide +kernel
theorem dX8_other_21 : decode cX8_other 21 = .ok (.iand, 1) := by decide +kernel
theorem dX8_other_22 : decode cX8_other 22 = .ok (.ifCond .ne 9, 3) := by decide +kernel
theorem dX8_other_25 : decode cX8_other 25 = .ok (.iinc 2 1, 3) := by decide +kernel
theorem dX8_other_28 : decode cX8_other 28 = .ok (.goto (-26), 3) := by decide +kernel
theorem dX8_other_31 : decode cX8_other 31 = .ok (.iload_n 2, 1) := by decide +kernel
theorem dX8_other_32 : decode cX8_other 32 = .ok (.ireturn, 1) := by decide +kernel
theorem dX8_sideOf_0 : decode cX8_sideOf 0 = .ok (.aload_n 0, 1) := by decide +kernel
theorem dX8_sideOf_1 : decode cX8_sideOf 1 = .ok (.iload_n 3, 1) := by decide +kernel
theorem dX8_sideOf_2 : decode cX8_sideOf 2 = .ok (.aload_n 0, 1) := by decide +kernel
theorem dX8_sideOf_3 : decode cX8_sideOf 3 = .ok (.getfield 46, 3) := by decide +kernel
theorem dX8_sideOf_6 : decode cX8_sideOf 6 = .ok (.iload_n 2, 1) := by decide +kernel
theorem dX8_sideOf_7 : decode cX8_sideOf 7 = .ok (.iaload, 1) := by decide +kernel
theorem dX8_sideOf_8 : decode cX8_sideOf 8 = .ok (.invokevirtual 98, 3) := by decide +kernel
theorem dX8_sideOf_11 : decode cX8_sideOf 11 = .ok (.aload_n 0, 1) := by decide +kernel
theorem dX8_sideOf_12 : decode cX8_sideOf 12 = .ok (.iload 4, 2) := by decide +kernel
theorem dX8_sideOf_14 : decode cX8_sideOf 14 = .ok (.aload_n 0, 1) := by decide +kernel
theorem dX8_sideOf_15 : decode cX8_sideOf 15 = .ok (.getfield 46, 3) := by decide +kernel
theorem dX8_sideOf_18 : decode cX8_sideOf 18 = .ok (.iload_n 2, 1) := by decide +kernel
theorem dX8_sideOf_19 : decode cX8_sideOf 19 = .ok (.iaload, 1) := by decide +kernel
theorem dX8_sideOf_20 : decode cX8_sideOf 20 = .ok (.invokevirtual 98, 3) := by decide +kernel
theorem dX8_sideOf_23 : decode cX8_sideOf 23 = .ok (.aload_n 0, 1) := by decide +kernel
theorem dX8_sideOf_24 : decode cX8_sideOf 24 = .ok (.getfield 28, 3) := by decide +kernel
theorem dX8_sideOf_27 : decode cX8_sideOf 27 = .ok (.iload_n 1, 1) := by decide +kernel
theorem dX8_sideOf_28 : decode cX8_sideOf 28 = .ok (.iaload, 1) := by decide +kernel
theorem dX8_sideOf_29 : decode cX8_sideOf 29 = .ok (.invokestatic 109, 3) := by decide +kernel
theorem dX8_sideOf_32 : decode cX8_sideOf 32 = .ok (.ireturn, 1) := by decide +kernel
theorem dX8_side_0 : decode cX8_side 0 = .ok (.aload_n 0, 1) := by decide +kernel
theorem dX8_side_1 : decode cX8_side 1 = .ok (.iload_n 1, 1) := by decide +kernel
theorem dX8_side_2 : decode cX8_side 2 = .ok (.invokevirtual 126, 3) := by decide +kernel
theorem dX8_side_5 : decode cX8_side 5 = .ok (.ifCond .eq 21, 3) := by decide +kernel
theorem dX8_side_8 : decode cX8_side 8 = .ok (.aload_n 0, 1) := by decide +kernel
theorem dX8_side_9 : decode cX8_side 9 = .ok (.iload_n 2, 1) := by decide +kernel
theorem dX8_side_10 : decode cX8_side 10 = .ok (.invokevirtual 138, 3) := by decide +kernel
theorem dX8_side_13 : decode cX8_side 13 = .ok (.ifCond .eq 13, 3) := by decide +kernel
theorem dX8_side_16 : decode cX8_side 16 = .ok (.aload_n 0, 1) := by decide +kernel
theorem dX8_side_17 : decode cX8_side 17 = .ok (.getfield 34, 3) := by decide +kernel
theorem dX8_side_20 : decode cX8_side 20 = .ok (.iload_n 2, 1) := by decide +kernel
theorem dX8_side_21 : decode cX8_side 21 = .ok (.iaload, 1) := by decide +kernel
theorem dX8_side_22 : decode cX8_side 22 = .ok (.iconst 1, 1) := by decide +kernel
theorem dX8_side_23 : decode cX8_side 23 = .ok (.if_icmp .eq 6, 3) := by decide +kernel
theorem dX8_side_26 : decode cX8_side 26 = .ok (.bipush (-9), 2) := by decide +kernel
theorem dX8_side_28 : decode cX8_side 28 = .ok (.ireturn, 1) := by decide +kernel
theorem dX8_side_29 : decode cX8_side 29 = .ok (.aload_n 0, 1) := by decide +kernel
theorem dX8_side_30 : decode cX8_side 30 = .ok (.iload_n 1, 1) := by decide +kernel
theorem dX8_side_31 : decode cX8_side 31 = .ok (.iload_n 2, 1) := by decide +kernel
theorem dX8_side_32 : decode cX8_side 32 = .ok (.aload_n 0, 1) := by decide +kernel
theorem dX8_side_33 : decode cX8_side 33 = .ok (.getfield 37, 3) := by decide +kernel
theorem dX8_side_36 : decode cX8_side 36 = .ok (.iload_n 2, 1) := by decide +kernel
theorem dX8_side_37 : decode cX8_side 37 = .ok (.iaload, 1) := by decide +kernel
theorem dX8_side_38 : decode cX8_side 38 = .ok (.aload_n 0, 1) := by decide +kernel
theorem dX8_side_39 : decode cX8_side 39 = .ok (.iload_n 2, 1) := by decide +kernel
theorem dX8_side_40 : decode cX8_side 40 = .ok (.invokevirtual 144, 3) := by decide +kernel
theorem dX8_side_43 : decode cX8_side 43 = .ok (.invokevirtual 147, 3) := by decide +kernel
theorem dX8_side_46 : decode cX8_side 46 = .ok (.ireturn, 1) := by decide +kernel
theorem dX8_lengthOf_0 : decode cX8_lengthOf 0 = .ok (.aload_n 0, 1) := by decide +kernel
theorem dX8_lengthOf_1 : decode cX8_lengthOf 1 = .ok (.getfield 49, 3) := by decide +kernel
theorem dX8_lengthOf_4 : decode cX8_lengthOf 4 = .ok (.iload_n 1, 1) := by decide +kernel
theorem dX8_lengthOf_5 : decode cX8_lengthOf 5 = .ok (.iaload, 1) := by decide +kernel
theorem dX8_lengthOf_6 : decode cX8_lengthOf 6 = .ok (.aload_n 0, 1) := by decide +kernel
theorem dX8_lengthOf_7 : decode cX8_lengthOf 7 = .ok (.getfield 46, 3) := by decide +kernel
theorem dX8_lengthOf_10 : decode cX8_lengthOf 10 = .ok (.iload_n 1, 1) := by decide +kernel
theorem dX8_lengthOf_11 : decode cX8_lengthOf 11 = .ok (.iaload, 1) := by decide +kernel
theorem dX8_lengthOf_12 : decode cX8_lengthOf 12 = .ok (.isub, 1) := by decide +kernel
theorem dX8_lengthOf_13 : decode cX8_lengthOf 13 = .ok (.iconst 1, 1) := by decide +kernel
theorem dX8_lengthOf_14 : decode cX8_lengthOf 14 = .ok (.iadd, 1) := by decide +kernel
theorem dX8_lengthOf_15 : decode cX8_lengthOf 15 = .ok (.istore_n 2, 1) := by decide +kernel
theorem dX8_lengthOf_16 : decode cX8_lengthOf 16 = .ok (.aload_n 0, 1) := by decide +kernel
theorem dX8_lengthOf_17 : decode cX8_lengthOf 17 = .ok (.getfield 52, 3) := by decide +kernel
theorem dX8_lengthOf_20 : decode cX8_lengthOf 20 = .ok (.iload_n 1, 1) := by decide +kernel
theorem dX8_lengthOf_21 : decode cX8_lengthOf 21 = .ok (.iaload, 1) := by decide +kernel
theorem dX8_lengthOf_22 : decode cX8_lengthOf 22 = .ok (.aload_n 0, 1) := by decide +kernel
theorem dX8_lengthOf_23 : decode cX8_lengthOf 23 = .ok (.getfield 55, 3) := by decide +kernel
theorem dX8_lengthOf_26 : decode cX8_lengthOf 26 = .ok (.iadd, 1) := by decide +kernel
theorem dX8_lengthOf_27 : decode cX8_lengthOf 27 = .ok (.iconst 1, 1) := by decide +kernel
theorem dX8_lengthOf_28 : decode cX8_lengthOf 28 = .ok (.isub, 1) := by decide +kernel
theorem dX8_lengthOf_29 : decode cX8_lengthOf 29 = .ok (.aload_n 0, 1) := by decide +kernel
theorem dX8_lengthOf_30 : decode cX8_lengthOf 30 = .ok (.getfield 55, 3) := by decide +kernel
theorem dX8_lengthOf_33 : decode cX8_lengthOf 33 = .ok (.idiv, 1) := by decide +kernel
theorem dX8_lengthOf_34 : decode cX8_lengthOf 34 = .ok (.istore_n 3, 1) := by decide +kernel
theorem dX8_lengthOf_35 : decode cX8_lengthOf 35 = .ok (.iload_n 2, 1) := by decide +kernel
theorem dX8_lengthOf_36 : decode cX8_lengthOf 36 = .ok (.iload_n 3, 1) := by decide +kernel
theorem dX8_lengthOf_37 : decode cX8_lengthOf 37 = .ok (.if_icmp .le 7, 3) := by decide +kernel
theorem dX8_lengthOf_40 : decode cX8_lengthOf 40 = .ok (.iload_n 2, 1) := by decide +kernel
theorem dX8_lengthOf_41 : decode cX8_lengthOf 41 = .ok (.goto 4, 3) := by decide +kernel
theorem dX8_lengthOf_44 : decode cX8_lengthOf 44 = .ok (.iload_n 3, 1) := by decide +kernel
theorem dX8_lengthOf_45 : decode cX8_lengthOf 45 = .ok (.ireturn, 1) := by decide +kernel
theorem dX8_length_0 : decode cX8_length 0 = .ok (.aload_n 0, 1) := by decide +kernel
theorem dX8_length_1 : decode cX8_length 1 = .ok (.iload_n 1, 1) := by decide +kernel
theorem dX8_length_2 : decode cX8_length 2 = .ok (.invokevirtual 138, 3) := by decide +kernel
theorem dX8_length_5 : decode cX8_length 5 = .ok (.ifCond .eq 11, 3) := by decide +kernel
theorem dX8_length_8 : decode cX8_length 8 = .ok (.aload_n 0, 1) := by decide +kernel
theorem dX8_length_9 : decode cX8_length 9 = .ok (.iload_n 1, 1) := by decide +kernel
theorem dX8_length_10 : decode cX8_length 10 = .ok (.invokevirtual 151, 3) := by decide +kernel
theorem dX8_length_13 : decode cX8_length 13 = .ok (.goto 4, 3) := by decide +kernel
theorem dX8_length_16 : decode cX8_length 16 = .ok (.iconst (-1), 1) := by decide +kernel
theorem dX8_length_17 : decode cX8_length 17 = .ok (.ireturn, 1) := by decide +kernel
theorem dX8_twoAhead_0 : decode cX8_twoAhead 0 = .ok (.iload_n 1, 1) := by decide +kernel
theorem dX8_twoAhead_1 : decode cX8_twoAhead 1 = .ok (.iconst 1, 1) := by decide +kernel
theorem dX8_twoAhead_2 : decode cX8_twoAhead 2 = .ok (.isub, 1) := by decide +kernel
theorem dX8_twoAhead_3 : decode cX8_twoAhead 3 = .ok (.istore_n 2, 1) := by decide +kernel
theorem dX8_twoAhead_4 : decode cX8_twoAhead 4 = .ok (.iload_n 2, 1) := by decide +kernel
theorem dX8_twoAhead_5 : decode cX8_twoAhead 5 = .ok (.ifCond .lt 19, 3) := by decide +kernel
theorem dX8_twoAhead_8 : decode cX8_twoAhead 8 = .ok (.aload_n 0, 1) := by decide +kernel
theorem dX8_twoAhead_9 : decode cX8_twoAhead 9 = .ok (.getfield 34, 3) := by decide +kernel
theorem dX8_twoAhead_12 : decode cX8_twoAhead 12 = .ok (.iload_n 2, 1) := by decide +kernel
theorem dX8_twoAhead_13 : decode cX8_twoAhead 13 = .ok (.iaload, 1) := by decide +kernel
theorem dX8_twoAhead_14 : decode cX8_twoAhead 14 = .ok (.iconst 1, 1) := by decide +kernel
theorem dX8_twoAhead_15 : decode cX8_twoAhead 15 = .ok (.if_icmp .eq 9, 3) := by decide +kernel
theorem dX8_twoAhead_18 : decode cX8_twoAhead 18 = .ok (.iinc 2 (-1), 3) := by decide +kernel
theorem dX8_twoAhead_21 : decode cX8_twoAhead 21 = .ok (.goto (-17), 3) := by decide +kernel
theorem dX8_twoAhead_24 : decode cX8_twoAhead 24 = .ok (.iload_n 2, 1) := by decide +kernel
theorem dX8_twoAhead_25 : decode cX8_twoAhead 25 = .ok (.ireturn, 1) := by decide +kernel
theorem dX8_crosses_0 : decode cX8_crosses 0 = .ok (.aload_n 0, 1) := by decide +kernel
theorem dX8_crosses_1 : decode cX8_crosses 1 = .ok (.getfield 37, 3) := by decide +kernel
theorem dX8_crosses_4 : decode cX8_crosses 4 = .ok (.iload_n 1, 1) := by decide +kernel
theorem dX8_crosses_5 : decode cX8_crosses 5 = .ok (.iaload, 1) := by decide +kernel
theorem dX8_crosses_6 : decode cX8_crosses 6 = .ok (.aload_n 0, 1) := by decide +kernel
theorem dX8_crosses_7 : decode cX8_crosses 7 = .ok (.iload_n 1, 1) := by decide +kernel
theorem dX8_crosses_8 : decode cX8_crosses 8 = .ok (.invokevirtual 144, 3) := by decide +kernel
theorem dX8_crosses_11 : decode cX8_crosses 11 = .ok (.if_icmp .ge 12, 3) := by decide +kernel
theorem dX8_crosses_14 : decode cX8_crosses 14 = .ok (.aload_n 0, 1) := by decide +kernel
theorem dX8_crosses_15 : decode cX8_crosses 15 = .ok (.getfield 37, 3) := by decide +kernel
theorem dX8_crosses_18 : decode cX8_crosses 18 = .ok (.iload_n 1, 1) := by decide +kernel
theorem dX8_crosses_19 : decode cX8_crosses 19 = .ok (.iaload, 1) := by decide +kernel
theorem dX8_crosses_20 : decode cX8_crosses 20 = .ok (.goto 8, 3) := by decide +kernel
theorem dX8_crosses_23 : decode cX8_crosses 23 = .ok (.aload_n 0, 1) := by decide +kernel
theorem dX8_crosses_24 : decode cX8_crosses 24 = .ok (.iload_n 1, 1) := by decide +kernel
theorem dX8_crosses_25 : decode cX8_crosses 25 = .ok (.invokevirtual 144, 3) := by decide +kernel
theorem dX8_crosses_28 : decode cX8_crosses 28 = .ok (.istore 5, 2) := by decide +kernel
theorem dX8_crosses_30 : decode cX8_crosses 30 = .ok (.aload_n 0, 1) := by decide +kernel
theorem dX8_crosses_31 : decode cX8_crosses 31 = .ok (.getfield 37, 3) := by decide +kernel
theorem dX8_crosses_34 : decode cX8_crosses 34 = .ok (.iload_n 1, 1) := by decide +kernel
theorem dX8_crosses_35 : decode cX8_crosses 35 = .ok (.iaload, 1) := by decide +kernel
theorem dX8_crosses_36 : decode cX8_crosses 36 = .ok (.aload_n 0, 1) := by decide +kernel
theorem dX8_crosses_37 : decode cX8_crosses 37 = .ok (.iload_n 1, 1) := by decide +kernel
theorem dX8_crosses_38 : decode cX8_crosses 38 = .ok (.invokevirtual 144, 3) := by decide +kernel
theorem dX8_crosses_41 : decode cX8_crosses 41 = .ok (.iadd, 1) := by decide +kernel
theorem dX8_crosses_42 : decode cX8_crosses 42 = .ok (.iload 5, 2) := by decide +kernel
theorem dX8_crosses_44 : decode cX8_crosses 44 = .ok (.isub, 1) := by decide +kernel
theorem dX8_crosses_45 : decode cX8_crosses 45 = .ok (.istore 6, 2) := by decide +kernel
theorem dX8_crosses_47 : decode cX8_crosses 47 = .ok (.aload_n 0, 1) := by decide +kernel
theorem dX8_crosses_48 : decode cX8_crosses 48 = .ok (.getfield 37, 3) := by decide +kernel
theorem dX8_crosses_51 : decode cX8_crosses 51 = .ok (.iload_n 3, 1) := by decide +kernel
theorem dX8_crosses_52 : decode cX8_crosses 52 = .ok (.iaload, 1) := by decide +kernel
theorem dX8_crosses_53 : decode cX8_crosses 53 = .ok (.aload_n 0, 1) := by decide +kernel
theorem dX8_crosses_54 : decode cX8_crosses 54 = .ok (.iload_n 3, 1) := by decide +kernel
theorem dX8_crosses_55 : decode cX8_crosses 55 = .ok (.invokevirtual 144, 3) := by decide +kernel
theorem dX8_crosses_58 : decode cX8_crosses 58 = .ok (.if_icmp .ge 12, 3) := by decide +kernel
theorem dX8_crosses_61 : decode cX8_crosses 61 = .ok (.aload_n 0, 1) := by decide +kernel
theorem dX8_crosses_62 : decode cX8_crosses 62 = .ok (.getfield 37, 3) := by decide +kernel
theorem dX8_crosses_65 : decode cX8_crosses 65 = .ok (.iload_n 3, 1) := by decide +kernel
theorem dX8_crosses_66 : decode cX8_crosses 66 = .ok (.iaload, 1) := by decide +kernel
theorem dX8_crosses_67 : decode cX8_crosses 67 = .ok (.goto 8, 3) := by decide +kernel
theorem dX8_crosses_70 : decode cX8_crosses 70 = .ok (.aload_n 0, 1) := by decide +kernel
theorem dX8_crosses_71 : decode cX8_crosses 71 = .ok (.iload_n 3, 1) := by decide +kernel
theorem dX8_crosses_72 : decode cX8_crosses 72 = .ok (.invokevirtual 144, 3) := by decide +kernel
theorem dX8_crosses_75 : decode cX8_crosses 75 = .ok (.istore 7, 2) := by decide +kernel
theorem dX8_crosses_77 : decode cX8_crosses 77 = .ok (.aload_n 0, 1) := by decide +kernel
theorem dX8_crosses_78 : decode cX8_crosses 78 = .ok (.getfield 37, 3) := by decide +kernel
theorem dX8_crosses_81 : decode cX8_crosses 81 = .ok (.iload_n 3, 1) := by decide +kernel
theorem dX8_crosses_82 : decode cX8_crosses 82 = .ok (.iaload, 1) := by decide +kernel
theorem dX8_crosses_83 : decode cX8_crosses 83 = .ok (.aload_n 0, 1) := by decide +kernel
theorem dX8_crosses_84 : decode cX8_crosses 84 = .ok (.iload_n 3, 1) := by decide +kernel
theorem dX8_crosses_85 : decode cX8_crosses 85 = .ok (.invokevirtual 144, 3) := by decide +kernel
theorem dX8_crosses_88 : decode cX8_crosses 88 = .ok (.iadd, 1) := by decide +kernel
theorem dX8_crosses_89 : decode cX8_crosses 89 = .ok (.iload 7, 2) := by decide +kernel
theorem dX8_crosses_91 : decode cX8_crosses 91 = .ok (.isub, 1) := by decide +kernel
theorem dX8_crosses_92 : decode cX8_crosses 92 = .ok (.istore 8, 2) := by decide +kernel
theorem dX8_crosses_94 : decode cX8_crosses 94 = .ok (.iload 5, 2) := by decide +kernel
theorem dX8_crosses_96 : decode cX8_crosses 96 = .ok (.iload 7, 2) := by decide +kernel
theorem dX8_crosses_98 : decode cX8_crosses 98 = .ok (.if_icmp .ne 39, 3) := by decide +kernel
theorem dX8_crosses_101 : decode cX8_crosses 101 = .ok (.iload 6, 2) := by decide +kernel
theorem dX8_crosses_103 : decode cX8_crosses 103 = .ok (.iload 8, 2) := by decide +kernel
theorem dX8_crosses_105 : decode cX8_crosses 105 = .ok (.if_icmp .ne 32, 3) := by decide +kernel
theorem dX8_crosses_108 : decode cX8_crosses 108 = .ok (.aload_n 0, 1) := by decide +kernel
theorem dX8_crosses_109 : decode cX8_crosses 109 = .ok (.iload_n 2, 1) := by decide +kernel
theorem dX8_crosses_110 : decode cX8_crosses 110 = .ok (.iload_n 1, 1) := by decide +kernel
theorem dX8_crosses_111 : decode cX8_crosses 111 = .ok (.iload 5, 2) := by decide +kernel
theorem dX8_crosses_113 : decode cX8_crosses 113 = .ok (.iload 6, 2) := by decide +kernel
theorem dX8_crosses_115 : decode cX8_crosses 115 = .ok (.invokevirtual 147, 3) := by decide +kernel
theorem dX8_crosses_118 : decode cX8_crosses 118 = .ok (.aload_n 0, 1) := by decide +kernel
theorem dX8_crosses_119 : decode cX8_crosses 119 = .ok (.iload 4, 2) := by decide +kernel
theorem dX8_crosses_121 : decode cX8_crosses 121 = .ok (.iload_n 3, 1) := by decide +kernel
theorem dX8_crosses_122 : decode cX8_crosses 122 = .ok (.iload 5, 2) := by decide +kernel
theorem dX8_crosses_124 : decode cX8_crosses 124 = .ok (.iload 6, 2) := by decide +kernel
theorem dX8_crosses_126 : decode cX8_crosses 126 = .ok (.invokevirtual 147, 3) := by decide +kernel
theorem dX8_crosses_129 : decode cX8_crosses 129 = .ok (.imul, 1) := by decide +kernel
theorem dX8_crosses_130 : decode cX8_crosses 130 = .ok (.ifCond .ge 7, 3) := by decide +kernel
theorem dX8_crosses_133 : decode cX8_crosses 133 = .ok (.iconst 1, 1) := by decide +kernel
theorem dX8_crosses_134 : decode cX8_crosses 134 = .ok (.goto 4, 3) := by decide +kernel
theorem dX8_crosses_137 : decode cX8_crosses 137 = .ok (.iconst 0, 1) := by decide +kernel
theorem dX8_crosses_138 : decode cX8_crosses 138 = .ok (.ireturn, 1) := by decide +kernel
theorem dX8_goes_0 : decode cX8_goes 0 = .ok (.iload 4, 2) := by decide +kernel
theorem dX8_goes_2 : decode cX8_goes 2 = .ok (.iload_n 3, 1) := by decide +kernel
theorem dX8_goes_3 : decode cX8_goes 3 = .ok (.ishr, 1) := by decide +kernel
theorem dX8_goes_4 : decode cX8_goes 4 = .ok (.iconst 1, 1) := by decide +kernel
theorem dX8_goes_5 : decode cX8_goes 5 = .ok (.iand, 1) := by decide +kernel
theorem dX8_goes_6 : decode cX8_goes 6 = .ok (.iconst 1, 1) := by decide +kernel
theorem dX8_goes_7 : decode cX8_goes 7 = .ok (.if_icmp .ne 21, 3) := by decide +kernel
theorem dX8_goes_10 : decode cX8_goes 10 = .ok (.aload_n 0, 1) := by decide +kernel
theorem dX8_goes_11 : decode cX8_goes 11 = .ok (.getfield 62, 3) := by decide +kernel
theorem dX8_goes_14 : decode cX8_goes 14 = .ok (.bipush 8, 2) := by decide +kernel
theorem dX8_goes_16 : decode cX8_goes 16 = .ok (.iload_n 3, 1) := by decide +kernel
theorem dX8_goes_17 : decode cX8_goes 17 = .ok (.imul, 1) := by decide +kernel
theorem dX8_goes_18 : decode cX8_goes 18 = .ok (.iload_n 1, 1) := by decide +kernel
theorem dX8_goes_19 : decode cX8_goes 19 = .ok (.iadd, 1) := by decide +kernel
theorem dX8_goes_20 : decode cX8_goes 20 = .ok (.baload, 1) := by decide +kernel
theorem dX8_goes_21 : decode cX8_goes 21 = .ok (.ifCond .eq 7, 3) := by decide +kernel
theorem dX8_goes_24 : decode cX8_goes 24 = .ok (.iconst 1, 1) := by decide +kernel
theorem dX8_goes_25 : decode cX8_goes 25 = .ok (.goto 4, 3) := by decide +kernel
theorem dX8_goes_28 : decode cX8_goes 28 = .ok (.iconst 0, 1) := by decide +kernel
theorem dX8_goes_29 : decode cX8_goes 29 = .ok (.istore 5, 2) := by decide +kernel
theorem dX8_goes_31 : decode cX8_goes 31 = .ok (.iload 5, 2) := by decide +kernel
theorem dX8_goes_33 : decode cX8_goes 33 = .ok (.ifCond .eq 45, 3) := by decide +kernel
theorem dX8_goes_36 : decode cX8_goes 36 = .ok (.aload_n 0, 1) := by decide +kernel
theorem dX8_goes_37 : decode cX8_goes 37 = .ok (.getfield 34, 3) := by decide +kernel
theorem dX8_goes_40 : decode cX8_goes 40 = .ok (.iload_n 1, 1) := by decide +kernel
theorem dX8_goes_41 : decode cX8_goes 41 = .ok (.iaload, 1) := by decide +kernel
theorem dX8_goes_42 : decode cX8_goes 42 = .ok (.iconst 1, 1) := by decide +kernel
theorem dX8_goes_43 : decode cX8_goes 43 = .ok (.if_icmp .ne 35, 3) := by decide +kernel
theorem dX8_goes_46 : decode cX8_goes 46 = .ok (.iload_n 2, 1) := by decide +kernel
theorem dX8_goes_47 : decode cX8_goes 47 = .ok (.bipush 10, 2) := by decide +kernel
theorem dX8_goes_49 : decode cX8_goes 49 = .ok (.if_icmp .ge 29, 3) := by decide +kernel
theorem dX8_goes_52 : decode cX8_goes 52 = .ok (.aload_n 0, 1) := by decide +kernel
theorem dX8_goes_53 : decode cX8_goes 53 = .ok (.iload_n 1, 1) := by decide +kernel
theorem dX8_goes_54 : decode cX8_goes 54 = .ok (.invokevirtual 154, 3) := by decide +kernel
theorem dX8_goes_57 : decode cX8_goes 57 = .ok (.iconst (-1), 1) := by decide +kernel
theorem dX8_goes_58 : decode cX8_goes 58 = .ok (.if_icmp .eq 20, 3) := by decide +kernel
theorem dX8_goes_61 : decode cX8_goes 61 = .ok (.aload_n 0, 1) := by decide +kernel
theorem dX8_goes_62 : decode cX8_goes 62 = .ok (.aload_n 0, 1) := by decide +kernel
theorem dX8_goes_63 : decode cX8_goes 63 = .ok (.iload_n 1, 1) := by decide +kernel
theorem dX8_goes_64 : decode cX8_goes 64 = .ok (.invokevirtual 154, 3) := by decide +kernel
theorem dX8_goes_67 : decode cX8_goes 67 = .ok (.iload_n 2, 1) := by decide +kernel
theorem dX8_goes_68 : decode cX8_goes 68 = .ok (.iload_n 1, 1) := by decide +kernel
theorem dX8_goes_69 : decode cX8_goes 69 = .ok (.iload_n 3, 1) := by decide +kernel
theorem dX8_goes_70 : decode cX8_goes 70 = .ok (.invokevirtual 157, 3) := by decide +kernel
theorem dX8_goes_73 : decode cX8_goes 73 = .ok (.ifCond .eq 5, 3) := by decide +kernel
theorem dX8_goes_76 : decode cX8_goes 76 = .ok (.iconst 0, 1) := by decide +kernel
theorem dX8_goes_77 : decode cX8_goes 77 = .ok (.ireturn, 1) := by decide +kernel
theorem dX8_goes_78 : decode cX8_goes 78 = .ok (.iload 5, 2) := by decide +kernel
theorem dX8_goes_80 : decode cX8_goes 80 = .ok (.ifCond .eq 37, 3) := by decide +kernel
theorem dX8_goes_83 : decode cX8_goes 83 = .ok (.aload_n 0, 1) := by decide +kernel
theorem dX8_goes_84 : decode cX8_goes 84 = .ok (.getfield 66, 3) := by decide +kernel
theorem dX8_goes_87 : decode cX8_goes 87 = .ok (.bipush 11, 2) := by decide +kernel
theorem dX8_goes_89 : decode cX8_goes 89 = .ok (.iload_n 1, 1) := by decide +kernel
theorem dX8_goes_90 : decode cX8_goes 90 = .ok (.iconst 1, 1) := by decide +kernel
theorem dX8_goes_91 : decode cX8_goes 91 = .ok (.iadd, 1) := by decide +kernel
theorem dX8_goes_92 : decode cX8_goes 92 = .ok (.imul, 1) := by decide +kernel
theorem dX8_goes_93 : decode cX8_goes 93 = .ok (.aload_n 0, 1) := by decide +kernel
theorem dX8_goes_94 : decode cX8_goes 94 = .ok (.getfield 34, 3) := by decide +kernel
theorem dX8_goes_97 : decode cX8_goes 97 = .ok (.iload_n 1, 1) := by decide +kernel
theorem dX8_goes_98 : decode cX8_goes 98 = .ok (.iaload, 1) := by decide +kernel
theorem dX8_goes_99 : decode cX8_goes 99 = .ok (.iconst 1, 1) := by decide +kernel
theorem dX8_goes_100 : decode cX8_goes 100 = .ok (.if_icmp .ne 7, 3) := by decide +kernel
theorem dX8_goes_103 : decode cX8_goes 103 = .ok (.iload_n 3, 1) := by decide +kernel
theorem dX8_goes_104 : decode cX8_goes 104 = .ok (.goto 4, 3) := by decide +kernel
theorem dX8_goes_107 : decode cX8_goes 107 = .ok (.iload_n 2, 1) := by decide +kernel
theorem dX8_goes_108 : decode cX8_goes 108 = .ok (.iadd, 1) := by decide +kernel
theorem dX8_goes_109 : decode cX8_goes 109 = .ok (.baload, 1) := by decide +kernel
theorem dX8_goes_110 : decode cX8_goes 110 = .ok (.ifCond .eq 7, 3) := by decide +kernel
theorem dX8_goes_113 : decode cX8_goes 113 = .ok (.iconst 1, 1) := by decide +kernel
theorem dX8_goes_114 : decode cX8_goes 114 = .ok (.goto 4, 3) := by decide +kernel
theorem dX8_goes_117 : decode cX8_goes 117 = .ok (.iconst 0, 1) := by decide +kernel
theorem dX8_goes_118 : decode cX8_goes 118 = .ok (.ireturn, 1) := by decide +kernel
theorem dX8_plans_0 : decode cX8_plans 0 = .ok (.aload_n 0, 1) := by decide +kernel
theorem dX8_plans_1 : decode cX8_plans 1 = .ok (.getfield 82, 3) := by decide +kernel
theorem dX8_plans_4 : decode cX8_plans 4 = .ok (.istore_n 2, 1) := by decide +kernel
theorem dX8_plans_5 : decode cX8_plans 5 = .ok (.iload_n 2, 1) := by decide +kernel
theorem dX8_plans_6 : decode cX8_plans 6 = .ok (.ifCond .lt 115, 3) := by decide +kernel
theorem dX8_plans_9 : decode cX8_plans 9 = .ok (.iconst 0, 1) := by decide +kernel
theorem dX8_plans_10 : decode cX8_plans 10 = .ok (.istore_n 3, 1) := by decide +kernel
theorem dX8_plans_11 : decode cX8_plans 11 = .ok (.iload_n 3, 1) := by decide +kernel
theorem dX8_plans_12 : decode cX8_plans 12 = .ok (.bipush 10, 2) := by decide +kernel
theorem dX8_plans_14 : decode cX8_plans 14 = .ok (.if_icmp .gt 101, 3) := by decide +kernel
theorem dX8_plans_17 : decode cX8_plans 17 = .ok (.aload_n 0, 1) := by decide +kernel
theorem dX8_plans_18 : decode cX8_plans 18 = .ok (.getfield 66, 3) := by decide +kernel
theorem dX8_plans_21 : decode cX8_plans 21 = .ok (.bipush 11, 2) := by decide +kernel
theorem dX8_plans_23 : decode cX8_plans 23 = .ok (.iload_n 2, 1) := by decide +kernel
theorem dX8_plans_24 : decode cX8_plans 24 = .ok (.imul, 1) := by decide +kernel
theorem dX8_plans_25 : decode cX8_plans 25 = .ok (.iload_n 3, 1) := by decide +kernel
theorem dX8_plans_26 : decode cX8_plans 26 = .ok (.iadd, 1) := by decide +kernel
theorem dX8_plans_27 : decode cX8_plans 27 = .ok (.iload_n 2, 1) := by decide +kernel
theorem dX8_plans_28 : decode cX8_plans 28 = .ok (.aload_n 0, 1) := by decide +kernel
theorem dX8_plans_29 : decode cX8_plans 29 = .ok (.getfield 82, 3) := by decide +kernel
theorem dX8_plans_32 : decode cX8_plans 32 = .ok (.if_icmp .ne 7, 3) := by decide +kernel
theorem dX8_plans_35 : decode cX8_plans 35 = .ok (.iconst 1, 1) := by decide +kernel
theorem dX8_plans_36 : decode cX8_plans 36 = .ok (.goto 4, 3) := by decide +kernel
theorem dX8_plans_39 : decode cX8_plans 39 = .ok (.iconst 0, 1) := by decide +kernel
theorem dX8_plans_40 : decode cX8_plans 40 = .ok (.bastore, 1) := by decide +kernel
theorem dX8_plans_41 : decode cX8_plans 41 = .ok (.iconst 0, 1) := by decide +kernel
theorem dX8_plans_42 : decode cX8_plans 42 = .ok (.istore 4, 2) := by decide +kernel
theorem dX8_plans_44 : decode cX8_plans 44 = .ok (.iload 4, 2) := by decide +kernel
theorem dX8_plans_46 : decode cX8_plans 46 = .ok (.aload_n 0, 1) := by decide +kernel
theorem dX8_plans_47 : decode cX8_plans 47 = .ok (.getfield 79, 3) := by decide +kernel
theorem dX8_plans_50 : decode cX8_plans 50 = .ok (.if_icmp .ge 59, 3) := by decide +kernel
theorem dX8_plans_53 : decode cX8_plans 53 = .ok (.iload_n 2, 1) := by decide +kernel
theorem dX8_plans_54 : decode cX8_plans 54 = .ok (.aload_n 0, 1) := by decide +kernel
theorem dX8_plans_55 : decode cX8_plans 55 = .ok (.getfield 82, 3) := by decide +kernel
theorem dX8_plans_58 : decode cX8_plans 58 = .ok (.if_icmp .ge 51, 3) := by decide +kernel
theorem dX8_plans_61 : decode cX8_plans 61 = .ok (.aload_n 0, 1) := by decide +kernel
theorem dX8_plans_62 : decode cX8_plans 62 = .ok (.getfield 66, 3) := by decide +kernel
theorem dX8_plans_65 : decode cX8_plans 65 = .ok (.bipush 11, 2) := by decide +kernel
theorem dX8_plans_67 : decode cX8_plans 67 = .ok (.iload_n 2, 1) := by decide +kernel
theorem dX8_plans_68 : decode cX8_plans 68 = .ok (.imul, 1) := by decide +kernel
theorem dX8_plans_69 : decode cX8_plans 69 = .ok (.iload_n 3, 1) := by decide +kernel
theorem dX8_plans_70 : decode cX8_plans 70 = .ok (.iadd, 1) := by decide +kernel
theorem dX8_plans_71 : decode cX8_plans 71 = .ok (.aload_n 0, 1) := by decide +kernel
theorem dX8_plans_72 : decode cX8_plans 72 = .ok (.getfield 66, 3) := by decide +kernel
theorem dX8_plans_75 : decode cX8_plans 75 = .ok (.bipush 11, 2) := by decide +kernel
theorem dX8_plans_77 : decode cX8_plans 77 = .ok (.iload_n 2, 1) := by decide +kernel
theorem dX8_plans_78 : decode cX8_plans 78 = .ok (.imul, 1) := by decide +kernel
theorem dX8_plans_79 : decode cX8_plans 79 = .ok (.iload_n 3, 1) := by decide +kernel
theorem dX8_plans_80 : decode cX8_plans 80 = .ok (.iadd, 1) := by decide +kernel
theorem dX8_plans_81 : decode cX8_plans 81 = .ok (.baload, 1) := by decide +kernel
theorem dX8_plans_82 : decode cX8_plans 82 = .ok (.ifCond .ne 15, 3) := by decide +kernel
theorem dX8_plans_85 : decode cX8_plans 85 = .ok (.aload_n 0, 1) := by decide +kernel
theorem dX8_plans_86 : decode cX8_plans 86 = .ok (.iload_n 2, 1) := by decide +kernel
theorem dX8_plans_87 : decode cX8_plans 87 = .ok (.iload_n 3, 1) := by decide +kernel
theorem dX8_plans_88 : decode cX8_plans 88 = .ok (.iload 4, 2) := by decide +kernel
theorem dX8_plans_90 : decode cX8_plans 90 = .ok (.iload_n 1, 1) := by decide +kernel
theorem dX8_plans_91 : decode cX8_plans 91 = .ok (.invokevirtual 160, 3) := by decide +kernel
theorem dX8_plans_94 : decode cX8_plans 94 = .ok (.ifCond .eq 7, 3) := by decide +kernel
theorem dX8_plans_97 : decode cX8_plans 97 = .ok (.iconst 1, 1) := by decide +kernel
theorem dX8_plans_98 : decode cX8_plans 98 = .ok (.goto 4, 3) := by decide +kernel
theorem dX8_plans_101 : decode cX8_plans 101 = .ok (.iconst 0, 1) := by decide +kernel
theorem dX8_plans_102 : decode cX8_plans 102 = .ok (.bastore, 1) := by decide +kernel
theorem dX8_plans_103 : decode cX8_plans 103 = .ok (.iinc 4 1, 3) := by decide +kernel
theorem dX8_plans_106 : decode cX8_plans 106 = .ok (.goto (-62), 3) := by decide +kernel
theorem dX8_plans_109 : decode cX8_plans 109 = .ok (.iinc 3 1, 3) := by decide +kernel
theorem dX8_plans_112 : decode cX8_plans 112 = .ok (.goto (-101), 3) := by decide +kernel
theorem dX8_plans_115 : decode cX8_plans 115 = .ok (.iinc 2 (-1), 3) := by decide +kernel
theorem dX8_plans_118 : decode cX8_plans 118 = .ok (.goto (-113), 3) := by decide +kernel
theorem dX8_plans_121 : decode cX8_plans 121 = .ok (.bipush 10, 2) := by decide +kernel
theorem dX8_plans_123 : decode cX8_plans 123 = .ok (.istore_n 2, 1) := by decide +kernel
theorem dX8_plans_124 : decode cX8_plans 124 = .ok (.iconst 0, 1) := by decide +kernel
theorem dX8_plans_125 : decode cX8_plans 125 = .ok (.istore_n 3, 1) := by decide +kernel
theorem dX8_plans_126 : decode cX8_plans 126 = .ok (.iload_n 3, 1) := by decide +kernel
theorem dX8_plans_127 : decode cX8_plans 127 = .ok (.aload_n 0, 1) := by decide +kernel
theorem dX8_plans_128 : decode cX8_plans 128 = .ok (.getfield 82, 3) := by decide +kernel
theorem dX8_plans_131 : decode cX8_plans 131 = .ok (.if_icmp .ge 65, 3) := by decide +kernel
theorem dX8_plans_134 : decode cX8_plans 134 = .ok (.aload_n 0, 1) := by decide +kernel
theorem dX8_plans_135 : decode cX8_plans 135 = .ok (.getfield 66, 3) := by decide +kernel
theorem dX8_plans_138 : decode cX8_plans 138 = .ok (.bipush 10, 2) := by decide +kernel
theorem dX8_plans_140 : decode cX8_plans 140 = .ok (.baload, 1) := by decide +kernel
theorem dX8_plans_141 : decode cX8_plans 141 = .ok (.ifCond .eq 55, 3) := by decide +kernel
theorem dX8_plans_144 : decode cX8_plans 144 = .ok (.iconst 0, 1) := by decide +kernel
theorem dX8_plans_145 : decode cX8_plans 145 = .ok (.istore 4, 2) := by decide +kernel
theorem dX8_plans_147 : decode cX8_plans 147 = .ok (.aload_n 0, 1) := by decide +kernel
theorem dX8_plans_148 : decode cX8_plans 148 = .ok (.iload_n 3, 1) := by decide +kernel
theorem dX8_plans_149 : decode cX8_plans 149 = .ok (.iload_n 2, 1) := by decide +kernel
theorem dX8_plans_150 : decode cX8_plans 150 = .ok (.iload 4, 2) := by decide +kernel
theorem dX8_plans_152 : decode cX8_plans 152 = .ok (.iload_n 1, 1) := by decide +kernel
theorem dX8_plans_153 : decode cX8_plans 153 = .ok (.invokevirtual 160, 3) := by decide +kernel
theorem dX8_plans_156 : decode cX8_plans 156 = .ok (.ifCond .ne 9, 3) := by decide +kernel
theorem dX8_plans_159 : decode cX8_plans 159 = .ok (.iinc 4 1, 3) := by decide +kernel
theorem dX8_plans_162 : decode cX8_plans 162 = .ok (.goto (-15), 3) := by decide +kernel
theorem dX8_plans_165 : decode cX8_plans 165 = .ok (.aload_n 0, 1) := by decide +kernel
theorem dX8_plans_166 : decode cX8_plans 166 = .ok (.getfield 69, 3) := by decide +kernel
theorem dX8_plans_169 : decode cX8_plans 169 = .ok (.iload_n 3, 1) := by decide +kernel
theorem dX8_plans_170 : decode cX8_plans 170 = .ok (.iload 4, 2) := by decide +kernel
theorem dX8_plans_172 : decode cX8_plans 172 = .ok (.iastore, 1) := by decide +kernel
theorem dX8_plans_173 : decode cX8_plans 173 = .ok (.aload_n 0, 1) := by decide +kernel
theorem dX8_plans_174 : decode cX8_plans 174 = .ok (.getfield 34, 3) := by decide +kernel
theorem dX8_plans_177 : decode cX8_plans 177 = .ok (.iload_n 3, 1) := by decide +kernel
theorem dX8_plans_178 : decode cX8_plans 178 = .ok (.iaload, 1) := by decide +kernel
theorem dX8_plans_179 : decode cX8_plans 179 = .ok (.iconst 1, 1) := by decide +kernel
theorem dX8_plans_180 : decode cX8_plans 180 = .ok (.if_icmp .ne 8, 3) := by decide +kernel
theorem dX8_plans_183 : decode cX8_plans 183 = .ok (.iload 4, 2) := by decide +kernel
theorem dX8_plans_185 : decode cX8_plans 185 = .ok (.goto 4, 3) := by decide +kernel
theorem dX8_plans_188 : decode cX8_plans 188 = .ok (.iload_n 2, 1) := by decide +kernel
theorem dX8_plans_189 : decode cX8_plans 189 = .ok (.istore_n 2, 1) := by decide +kernel
theorem dX8_plans_190 : decode cX8_plans 190 = .ok (.iinc 3 1, 3) := by decide +kernel
theorem dX8_plans_193 : decode cX8_plans 193 = .ok (.goto (-67), 3) := by decide +kernel
theorem dX8_plans_196 : decode cX8_plans 196 = .ok (.aload_n 0, 1) := by decide +kernel
theorem dX8_plans_197 : decode cX8_plans 197 = .ok (.getfield 66, 3) := by decide +kernel
theorem dX8_plans_200 : decode cX8_plans 200 = .ok (.bipush 10, 2) := by decide +kernel
theorem dX8_plans_202 : decode cX8_plans 202 = .ok (.baload, 1) := by decide +kernel
theorem dX8_plans_203 : decode cX8_plans 203 = .ok (.ireturn, 1) := by decide +kernel
theorem dX8_bits_0 : decode cX8_bits 0 = .ok (.iconst 0, 1) := by decide +kernel
theorem dX8_bits_1 : decode cX8_bits 1 = .ok (.istore_n 1, 1) := by decide +kernel
theorem dX8_bits_2 : decode cX8_bits 2 = .ok (.iconst 0, 1) := by decide +kernel
theorem dX8_bits_3 : decode cX8_bits 3 = .ok (.istore_n 2, 1) := by decide +kernel
theorem dX8_bits_4 : decode cX8_bits 4 = .ok (.iload_n 2, 1) := by decide +kernel
theorem dX8_bits_5 : decode cX8_bits 5 = .ok (.bipush 10, 2) := by decide +kernel
theorem dX8_bits_7 : decode cX8_bits 7 = .ok (.if_icmp .ge 17, 3) := by decide +kernel
theorem dX8_bits_10 : decode cX8_bits 10 = .ok (.iload_n 1, 1) := by decide +kernel
theorem dX8_bits_11 : decode cX8_bits 11 = .ok (.iload_n 0, 1) := by decide +kernel
theorem dX8_bits_12 : decode cX8_bits 12 = .ok (.iload_n 2, 1) := by decide +kernel
theorem dX8_bits_13 : decode cX8_bits 13 = .ok (.ishr, 1) := by decide +kernel
theorem dX8_bits_14 : decode cX8_bits 14 = .ok (.iconst 1, 1) := by decide +kernel
theorem dX8_bits_15 : decode cX8_bits 15 = .ok (.iand, 1) := by decide +kernel
theorem dX8_bits_16 : decode cX8_bits 16 = .ok (.iadd, 1) := by decide +kernel
theorem dX8_bits_17 : decode cX8_bits 17 = .ok (.istore_n 1, 1) := by decide +kernel
theorem dX8_bits_18 : decode cX8_bits 18 = .ok (.iinc 2 1, 3) := by decide +kernel
theorem dX8_bits_21 : decode cX8_bits 21 = .ok (.goto (-17), 3) := by decide +kernel
theorem dX8_bits_24 : decode cX8_bits 24 = .ok (.iload_n 1, 1) := by decide +kernel
theorem dX8_bits_25 : decode cX8_bits 25 = .ok (.ireturn, 1) := by decide +kernel
theorem dX8_finds_0 : decode cX8_finds 0 = .ok (.iconst 0, 1) := by decide +kernel
theorem dX8_finds_1 : decode cX8_finds 1 = .ok (.istore_n 1, 1) := by decide +kernel
theorem dX8_finds_2 : decode cX8_finds 2 = .ok (.iload_n 1, 1) := by decide +kernel
theorem dX8_finds_3 : decode cX8_finds 3 = .ok (.aload_n 0, 1) := by decide +kernel
theorem dX8_finds_4 : decode cX8_finds 4 = .ok (.getfield 79, 3) := by decide +kernel
theorem dX8_finds_7 : decode cX8_finds 7 = .ok (.if_icmp .ge 50, 3) := by decide +kernel
theorem dX8_finds_10 : decode cX8_finds 10 = .ok (.iconst 0, 1) := by decide +kernel
theorem dX8_finds_11 : decode cX8_finds 11 = .ok (.istore_n 2, 1) := by decide +kernel
theorem dX8_finds_12 : decode cX8_finds 12 = .ok (.iload_n 2, 1) := by decide +kernel
theorem dX8_finds_13 : decode cX8_finds 13 = .ok (.aload_n 0, 1) := by decide +kernel
theorem dX8_finds_14 : decode cX8_finds 14 = .ok (.getfield 82, 3) := by decide +kernel
theorem dX8_finds_17 : decode cX8_finds 17 = .ok (.if_icmp .ge 34, 3) := by decide +kernel
theorem dX8_finds_20 : decode cX8_finds 20 = .ok (.aload_n 0, 1) := by decide +kernel
theorem dX8_finds_21 : decode cX8_finds 21 = .ok (.getfield 62, 3) := by decide +kernel
theorem dX8_finds_24 : decode cX8_finds 24 = .ok (.bipush 8, 2) := by decide +kernel
theorem dX8_finds_26 : decode cX8_finds 26 = .ok (.iload_n 1, 1) := by decide +kernel
theorem dX8_finds_27 : decode cX8_finds 27 = .ok (.imul, 1) := by decide +kernel
theorem dX8_finds_28 : decode cX8_finds 28 = .ok (.iload_n 2, 1) := by decide +kernel
theorem dX8_finds_29 : decode cX8_finds 29 = .ok (.iadd, 1) := by decide +kernel
theorem dX8_finds_30 : decode cX8_finds 30 = .ok (.aload_n 0, 1) := by decide +kernel
theorem dX8_finds_31 : decode cX8_finds 31 = .ok (.iload_n 1, 1) := by decide +kernel
theorem dX8_finds_32 : decode cX8_finds 32 = .ok (.iload_n 2, 1) := by decide +kernel
theorem dX8_finds_33 : decode cX8_finds 33 = .ok (.invokevirtual 141, 3) := by decide +kernel
theorem dX8_finds_36 : decode cX8_finds 36 = .ok (.ifCond .ne 7, 3) := by decide +kernel
theorem dX8_finds_39 : decode cX8_finds 39 = .ok (.iconst 1, 1) := by decide +kernel
theorem dX8_finds_40 : decode cX8_finds 40 = .ok (.goto 4, 3) := by decide +kernel
theorem dX8_finds_43 : decode cX8_finds 43 = .ok (.iconst 0, 1) := by decide +kernel
theorem dX8_finds_44 : decode cX8_finds 44 = .ok (.bastore, 1) := by decide +kernel
theorem dX8_finds_45 : decode cX8_finds 45 = .ok (.iinc 2 1, 3) := by decide +kernel
theorem dX8_finds_48 : decode cX8_finds 48 = .ok (.goto (-36), 3) := by decide +kernel
theorem dX8_finds_51 : decode cX8_finds 51 = .ok (.iinc 1 1, 3) := by decide +kernel
theorem dX8_finds_54 : decode cX8_finds 54 = .ok (.goto (-52), 3) := by decide +kernel
theorem dX8_finds_57 : decode cX8_finds 57 = .ok (.iconst 0, 1) := by decide +kernel
theorem dX8_finds_58 : decode cX8_finds 58 = .ok (.istore_n 1, 1) := by decide +kernel
theorem dX8_finds_59 : decode cX8_finds 59 = .ok (.iload_n 1, 1) := by decide +kernel
theorem dX8_finds_60 : decode cX8_finds 60 = .ok (.aload_n 0, 1) := by decide +kernel
theorem dX8_finds_61 : decode cX8_finds 61 = .ok (.getfield 79, 3) := by decide +kernel
theorem dX8_finds_64 : decode cX8_finds 64 = .ok (.if_icmp .gt 50, 3) := by decide +kernel
theorem dX8_finds_67 : decode cX8_finds 67 = .ok (.iconst 0, 1) := by decide +kernel
theorem dX8_finds_68 : decode cX8_finds 68 = .ok (.istore_n 2, 1) := by decide +kernel
theorem dX8_finds_69 : decode cX8_finds 69 = .ok (.iload_n 2, 1) := by decide +kernel
theorem dX8_finds_70 : decode cX8_finds 70 = .ok (.iconst 1, 1) := by decide +kernel
theorem dX8_finds_71 : decode cX8_finds 71 = .ok (.aload_n 0, 1) := by decide +kernel
theorem dX8_finds_72 : decode cX8_finds 72 = .ok (.getfield 79, 3) := by decide +kernel
theorem dX8_finds_75 : decode cX8_finds 75 = .ok (.ishl, 1) := by decide +kernel
theorem dX8_finds_76 : decode cX8_finds 76 = .ok (.if_icmp .ge 32, 3) := by decide +kernel
theorem dX8_finds_79 : decode cX8_finds 79 = .ok (.iload_n 2, 1) := by decide +kernel
theorem dX8_finds_80 : decode cX8_finds 80 = .ok (.invokestatic 163, 3) := by decide +kernel
theorem dX8_finds_83 : decode cX8_finds 83 = .ok (.iload_n 1, 1) := by decide +kernel
theorem dX8_finds_84 : decode cX8_finds 84 = .ok (.if_icmp .ne 18, 3) := by decide +kernel
theorem dX8_finds_87 : decode cX8_finds 87 = .ok (.aload_n 0, 1) := by decide +kernel
theorem dX8_finds_88 : decode cX8_finds 88 = .ok (.iload_n 2, 1) := by decide +kernel
theorem dX8_finds_89 : decode cX8_finds 89 = .ok (.invokevirtual 166, 3) := by decide +kernel
theorem dX8_finds_92 : decode cX8_finds 92 = .ok (.ifCond .eq 10, 3) := by decide +kernel
theorem dX8_finds_95 : decode cX8_finds 95 = .ok (.aload_n 0, 1) := by decide +kernel
theorem dX8_finds_96 : decode cX8_finds 96 = .ok (.iload_n 2, 1) := by decide +kernel
theorem dX8_finds_97 : decode cX8_finds 97 = .ok (.putfield 169, 3) := by decide +kernel
theorem dX8_finds_100 : decode cX8_finds 100 = .ok (.iload_n 1, 1) := by decide +kernel
theorem dX8_finds_101 : decode cX8_finds 101 = .ok (.ireturn, 1) := by decide +kernel
theorem dX8_finds_102 : decode cX8_finds 102 = .ok (.iinc 2 1, 3) := by decide +kernel
theorem dX8_finds_105 : decode cX8_finds 105 = .ok (.goto (-36), 3) := by decide +kernel
theorem dX8_finds_108 : decode cX8_finds 108 = .ok (.iinc 1 1, 3) := by decide +kernel
theorem dX8_finds_111 : decode cX8_finds 111 = .ok (.goto (-52), 3) := by decide +kernel
theorem dX8_finds_114 : decode cX8_finds 114 = .ok (.bipush (-5), 2) := by decide +kernel
theorem dX8_finds_116 : decode cX8_finds 116 = .ok (.ireturn, 1) := by decide +kernel
theorem dX8_fewest_0 : decode cX8_fewest 0 = .ok (.aload_n 0, 1) := by decide +kernel
theorem dX8_fewest_1 : decode cX8_fewest 1 = .ok (.invokevirtual 172, 3) := by decide +kernel
theorem dX8_fewest_4 : decode cX8_fewest 4 = .ok (.ireturn, 1) := by decide +kernel
theorem dX8_plan_0 : decode cX8_plan 0 = .ok (.aload_n 0, 1) := by decide +kernel
theorem dX8_plan_1 : decode cX8_plan 1 = .ok (.iload_n 1, 1) := by decide +kernel
theorem dX8_plan_2 : decode cX8_plan 2 = .ok (.invokevirtual 138, 3) := by decide +kernel
theorem dX8_plan_5 : decode cX8_plan 5 = .ok (.ifCond .ne 5, 3) := by decide +kernel
theorem dX8_plan_8 : decode cX8_plan 8 = .ok (.iconst (-1), 1) := by decide +kernel
theorem dX8_plan_9 : decode cX8_plan 9 = .ok (.ireturn, 1) := by decide +kernel
theorem dX8_plan_10 : decode cX8_plan 10 = .ok (.aload_n 0, 1) := by decide +kernel
theorem dX8_plan_11 : decode cX8_plan 11 = .ok (.invokevirtual 172, 3) := by decide +kernel
theorem dX8_plan_14 : decode cX8_plan 14 = .ok (.bipush (-5), 2) := by decide +kernel
theorem dX8_plan_16 : decode cX8_plan 16 = .ok (.if_icmp .ne 8, 3) := by decide +kernel
theorem dX8_plan_19 : decode cX8_plan 19 = .ok (.bipush (-5), 2) := by decide +kernel
theorem dX8_plan_21 : decode cX8_plan 21 = .ok (.goto 9, 3) := by decide +kernel
theorem dX8_plan_24 : decode cX8_plan 24 = .ok (.aload_n 0, 1) := by decide +kernel
theorem dX8_plan_25 : decode cX8_plan 25 = .ok (.getfield 69, 3) := by decide +kernel
theorem dX8_plan_28 : decode cX8_plan 28 = .ok (.iload_n 1, 1) := by decide +kernel
theorem dX8_plan_29 : decode cX8_plan 29 = .ok (.iaload, 1) := by decide +kernel
theorem dX8_plan_30 : decode cX8_plan 30 = .ok (.ireturn, 1) := by decide +kernel
theorem dX8_swings_0 : decode cX8_swings 0 = .ok (.aload_n 0, 1) := by decide +kernel
theorem dX8_swings_1 : decode cX8_swings 1 = .ok (.invokevirtual 172, 3) := by decide +kernel
theorem dX8_swings_4 : decode cX8_swings 4 = .ok (.bipush (-5), 2) := by decide +kernel
theorem dX8_swings_6 : decode cX8_swings 6 = .ok (.if_icmp .ne 6, 3) := by decide +kernel
theorem dX8_swings_9 : decode cX8_swings 9 = .ok (.bipush (-5), 2) := by decide +kernel
theorem dX8_swings_11 : decode cX8_swings 11 = .ok (.ireturn, 1) := by decide +kernel
theorem dX8_swings_12 : decode cX8_swings 12 = .ok (.iconst 0, 1) := by decide +kernel
theorem dX8_swings_13 : decode cX8_swings 13 = .ok (.istore_n 1, 1) := by decide +kernel
theorem dX8_swings_14 : decode cX8_swings 14 = .ok (.iconst 1, 1) := by decide +kernel
theorem dX8_swings_15 : decode cX8_swings 15 = .ok (.istore_n 2, 1) := by decide +kernel
theorem dX8_swings_16 : decode cX8_swings 16 = .ok (.iload_n 2, 1) := by decide +kernel
theorem dX8_swings_17 : decode cX8_swings 17 = .ok (.aload_n 0, 1) := by decide +kernel
theorem dX8_swings_18 : decode cX8_swings 18 = .ok (.getfield 82, 3) := by decide +kernel
theorem dX8_swings_21 : decode cX8_swings 21 = .ok (.if_icmp .ge 44, 3) := by decide +kernel
theorem dX8_swings_24 : decode cX8_swings 24 = .ok (.iload_n 1, 1) := by decide +kernel
theorem dX8_swings_25 : decode cX8_swings 25 = .ok (.aload_n 0, 1) := by decide +kernel
theorem dX8_swings_26 : decode cX8_swings 26 = .ok (.getfield 31, 3) := by decide +kernel
theorem dX8_swings_29 : decode cX8_swings 29 = .ok (.aload_n 0, 1) := by decide +kernel
theorem dX8_swings_30 : decode cX8_swings 30 = .ok (.getfield 69, 3) := by decide +kernel
theorem dX8_swings_33 : decode cX8_swings 33 = .ok (.iload_n 2, 1) := by decide +kernel
theorem dX8_swings_34 : decode cX8_swings 34 = .ok (.iaload, 1) := by decide +kernel
theorem dX8_swings_35 : decode cX8_swings 35 = .ok (.iaload, 1) := by decide +kernel
theorem dX8_swings_36 : decode cX8_swings 36 = .ok (.aload_n 0, 1) := by decide +kernel
theorem dX8_swings_37 : decode cX8_swings 37 = .ok (.getfield 31, 3) := by decide +kernel
theorem dX8_swings_40 : decode cX8_swings 40 = .ok (.aload_n 0, 1) := by decide +kernel
theorem dX8_swings_41 : decode cX8_swings 41 = .ok (.getfield 69, 3) := by decide +kernel
theorem dX8_swings_44 : decode cX8_swings 44 = .ok (.iload_n 2, 1) := by decide +kernel
theorem dX8_swings_45 : decode cX8_swings 45 = .ok (.iconst 1, 1) := by decide +kernel
theorem dX8_swings_46 : decode cX8_swings 46 = .ok (.isub, 1) := by decide +kernel
theorem dX8_swings_47 : decode cX8_swings 47 = .ok (.iaload, 1) := by decide +kernel
theorem dX8_swings_48 : decode cX8_swings 48 = .ok (.iaload, 1) := by decide +kernel
theorem dX8_swings_49 : decode cX8_swings 49 = .ok (.if_icmp .eq 7, 3) := by decide +kernel
theorem dX8_swings_52 : decode cX8_swings 52 = .ok (.iconst 1, 1) := by decide +kernel
theorem dX8_swings_53 : decode cX8_swings 53 = .ok (.goto 4, 3) := by decide +kernel
theorem dX8_swings_56 : decode cX8_swings 56 = .ok (.iconst 0, 1) := by decide +kernel
theorem dX8_swings_57 : decode cX8_swings 57 = .ok (.iadd, 1) := by decide +kernel
theorem dX8_swings_58 : decode cX8_swings 58 = .ok (.istore_n 1, 1) := by decide +kernel
theorem dX8_swings_59 : decode cX8_swings 59 = .ok (.iinc 2 1, 3) := by decide +kernel
theorem dX8_swings_62 : decode cX8_swings 62 = .ok (.goto (-46), 3) := by decide +kernel
theorem dX8_swings_65 : decode cX8_swings 65 = .ok (.iload_n 1, 1) := by decide +kernel
theorem dX8_swings_66 : decode cX8_swings 66 = .ok (.ireturn, 1) := by decide +kernel
theorem dX8_changes_0 : decode cX8_changes 0 = .ok (.iconst 0, 1) := by decide +kernel
theorem dX8_changes_1 : decode cX8_changes 1 = .ok (.istore_n 3, 1) := by decide +kernel
theorem dX8_changes_2 : decode cX8_changes 2 = .ok (.iload_n 2, 1) := by decide +kernel
theorem dX8_changes_3 : decode cX8_changes 3 = .ok (.iconst (-1), 1) := by decide +kernel
theorem dX8_changes_4 : decode cX8_changes 4 = .ok (.if_icmp .ne 7, 3) := by decide +kernel
theorem dX8_changes_7 : decode cX8_changes 7 = .ok (.iconst 1, 1) := by decide +kernel
theorem dX8_changes_8 : decode cX8_changes 8 = .ok (.goto 4, 3) := by decide +kernel
theorem dX8_changes_11 : decode cX8_changes 11 = .ok (.iconst 0, 1) := by decide +kernel
theorem dX8_changes_12 : decode cX8_changes 12 = .ok (.istore 4, 2) := by decide +kernel
theorem dX8_changes_14 : decode cX8_changes 14 = .ok (.iconst 0, 1) := by decide +kernel
theorem dX8_changes_15 : decode cX8_changes 15 = .ok (.istore 5, 2) := by decide +kernel
theorem dX8_changes_17 : decode cX8_changes 17 = .ok (.iload 5, 2) := by decide +kernel
theorem dX8_changes_19 : decode cX8_changes 19 = .ok (.iconst 4, 1) := by decide +kernel
theorem dX8_changes_20 : decode cX8_changes 20 = .ok (.if_icmp .ge 100, 3) := by decide +kernel
theorem dX8_changes_23 : decode cX8_changes 23 = .ok (.iconst 0, 1) := by decide +kernel
theorem dX8_changes_24 : decode cX8_changes 24 = .ok (.istore 6, 2) := by decide +kernel
theorem dX8_changes_26 : decode cX8_changes 26 = .ok (.iconst 0, 1) := by decide +kernel
theorem dX8_changes_27 : decode cX8_changes 27 = .ok (.istore 7, 2) := by decide +kernel
theorem dX8_changes_29 : decode cX8_changes 29 = .ok (.iload 7, 2) := by decide +kernel
theorem dX8_changes_31 : decode cX8_changes 31 = .ok (.aload_n 0, 1) := by decide +kernel
theorem dX8_changes_32 : decode cX8_changes 32 = .ok (.getfield 79, 3) := by decide +kernel
theorem dX8_changes_35 : decode cX8_changes 35 = .ok (.if_icmp .ge 43, 3) := by decide +kernel
theorem dX8_changes_38 : decode cX8_changes 38 = .ok (.iload 6, 2) := by decide +kernel
theorem dX8_changes_40 : decode cX8_changes 40 = .ok (.ifCond .ne 25, 3) := by decide +kernel
theorem dX8_changes_43 : decode cX8_changes 43 = .ok (.iload_n 1, 1) := by decide +kernel
theorem dX8_changes_44 : decode cX8_changes 44 = .ok (.iload 7, 2) := by decide +kernel
theorem dX8_changes_46 : decode cX8_changes 46 = .ok (.ishr, 1) := by decide +kernel
theorem dX8_changes_47 : decode cX8_changes 47 = .ok (.iconst 1, 1) := by decide +kernel
theorem dX8_changes_48 : decode cX8_changes 48 = .ok (.iand, 1) := by decide +kernel
theorem dX8_changes_49 : decode cX8_changes 49 = .ok (.iconst 1, 1) := by decide +kernel
theorem dX8_changes_50 : decode cX8_changes 50 = .ok (.if_icmp .ne 19, 3) := by decide +kernel
theorem dX8_changes_53 : decode cX8_changes 53 = .ok (.aload_n 0, 1) := by decide +kernel
theorem dX8_changes_54 : decode cX8_changes 54 = .ok (.getfield 31, 3) := by decide +kernel
theorem dX8_changes_57 : decode cX8_changes 57 = .ok (.iload 7, 2) := by decide +kernel
theorem dX8_changes_59 : decode cX8_changes 59 = .ok (.iaload, 1) := by decide +kernel
theorem dX8_changes_60 : decode cX8_changes 60 = .ok (.iload 5, 2) := by decide +kernel
theorem dX8_changes_62 : decode cX8_changes 62 = .ok (.if_icmp .ne 7, 3) := by decide +kernel
theorem dX8_changes_65 : decode cX8_changes 65 = .ok (.iconst 1, 1) := by decide +kernel
theorem dX8_changes_66 : decode cX8_changes 66 = .ok (.goto 4, 3) := by decide +kernel
theorem dX8_changes_69 : decode cX8_changes 69 = .ok (.iconst 0, 1) := by decide +kernel
theorem dX8_changes_70 : decode cX8_changes 70 = .ok (.istore 6, 2) := by decide +kernel
theorem dX8_changes_72 : decode cX8_changes 72 = .ok (.iinc 7 1, 3) := by decide +kernel
theorem dX8_changes_75 : decode cX8_changes 75 = .ok (.goto (-46), 3) := by decide +kernel
theorem dX8_changes_78 : decode cX8_changes 78 = .ok (.iload_n 3, 1) := by decide +kernel
theorem dX8_changes_79 : decode cX8_changes 79 = .ok (.iload 6, 2) := by decide +kernel
theorem dX8_changes_81 : decode cX8_changes 81 = .ok (.ifCond .eq 7, 3) := by decide +kernel
theorem dX8_changes_84 : decode cX8_changes 84 = .ok (.iconst 1, 1) := by decide +kernel
theorem dX8_changes_85 : decode cX8_changes 85 = .ok (.goto 4, 3) := by decide +kernel
theorem dX8_changes_88 : decode cX8_changes 88 = .ok (.iconst 0, 1) := by decide +kernel
theorem dX8_changes_89 : decode cX8_changes 89 = .ok (.iadd, 1) := by decide +kernel
theorem dX8_changes_90 : decode cX8_changes 90 = .ok (.istore_n 3, 1) := by decide +kernel
theorem dX8_changes_91 : decode cX8_changes 91 = .ok (.iload 4, 2) := by decide +kernel
theorem dX8_changes_93 : decode cX8_changes 93 = .ok (.ifCond .ne 14, 3) := by decide +kernel
theorem dX8_changes_96 : decode cX8_changes 96 = .ok (.iload 6, 2) := by decide +kernel
theorem dX8_changes_98 : decode cX8_changes 98 = .ok (.ifCond .eq 13, 3) := by decide +kernel
theorem dX8_changes_101 : decode cX8_changes 101 = .ok (.iload 5, 2) := by decide +kernel
theorem dX8_changes_103 : decode cX8_changes 103 = .ok (.iload_n 2, 1) := by decide +kernel
theorem dX8_changes_104 : decode cX8_changes 104 = .ok (.if_icmp .ne 7, 3) := by decide +kernel
theorem dX8_changes_107 : decode cX8_changes 107 = .ok (.iconst 1, 1) := by decide +kernel
theorem dX8_changes_108 : decode cX8_changes 108 = .ok (.goto 4, 3) := by decide +kernel
theorem dX8_changes_111 : decode cX8_changes 111 = .ok (.iconst 0, 1) := by decide +kernel
theorem dX8_changes_112 : decode cX8_changes 112 = .ok (.istore 4, 2) := by decide +kernel
theorem dX8_changes_114 : decode cX8_changes 114 = .ok (.iinc 5 1, 3) := by decide +kernel
theorem dX8_changes_117 : decode cX8_changes 117 = .ok (.goto (-100), 3) := by decide +kernel
theorem dX8_changes_120 : decode cX8_changes 120 = .ok (.iload_n 3, 1) := by decide +kernel
theorem dX8_changes_121 : decode cX8_changes 121 = .ok (.ifCond .ne 7, 3) := by decide +kernel
theorem dX8_changes_124 : decode cX8_changes 124 = .ok (.iconst 0, 1) := by decide +kernel
theorem dX8_changes_125 : decode cX8_changes 125 = .ok (.goto 15, 3) := by decide +kernel
theorem dX8_changes_128 : decode cX8_changes 128 = .ok (.iload 4, 2) := by decide +kernel
theorem dX8_changes_130 : decode cX8_changes 130 = .ok (.ifCond .eq 9, 3) := by decide +kernel
theorem dX8_changes_133 : decode cX8_changes 133 = .ok (.iload_n 3, 1) := by decide +kernel
theorem dX8_changes_134 : decode cX8_changes 134 = .ok (.iconst 1, 1) := by decide +kernel
theorem dX8_changes_135 : decode cX8_changes 135 = .ok (.isub, 1) := by decide +kernel
theorem dX8_changes_136 : decode cX8_changes 136 = .ok (.goto 4, 3) := by decide +kernel
theorem dX8_changes_139 : decode cX8_changes 139 = .ok (.iload_n 3, 1) := by decide +kernel
theorem dX8_changes_140 : decode cX8_changes 140 = .ok (.ireturn, 1) := by decide +kernel
theorem dX8_order_0 : decode cX8_order 0 = .ok (.aload_n 0, 1) := by decide +kernel
theorem dX8_order_1 : decode cX8_order 1 = .ok (.invokevirtual 172, 3) := by decide +kernel
theorem dX8_order_4 : decode cX8_order 4 = .ok (.istore_n 2, 1) := by decide +kernel
theorem dX8_order_5 : decode cX8_order 5 = .ok (.iload_n 1, 1) := by decide +kernel
theorem dX8_order_6 : decode cX8_order 6 = .ok (.iconst 0, 1) := by decide +kernel
theorem dX8_order_7 : decode cX8_order 7 = .ok (.iload_n 2, 1) := by decide +kernel
theorem dX8_order_8 : decode cX8_order 8 = .ok (.iconst 1, 1) := by decide +kernel
theorem dX8_order_9 : decode cX8_order 9 = .ok (.isub, 1) := by decide +kernel
theorem dX8_order_10 : decode cX8_order 10 = .ok (.invokestatic 75, 3) := by decide +kernel
theorem dX8_order_13 : decode cX8_order 13 = .ok (.ifCond .ne 5, 3) := by decide +kernel
theorem dX8_order_16 : decode cX8_order 16 = .ok (.iconst (-1), 1) := by decide +kernel
theorem dX8_order_17 : decode cX8_order 17 = .ok (.ireturn, 1) := by decide +kernel
theorem dX8_order_18 : decode cX8_order 18 = .ok (.aload_n 0, 1) := by decide +kernel
theorem dX8_order_19 : decode cX8_order 19 = .ok (.getfield 169, 3) := by decide +kernel
theorem dX8_order_22 : decode cX8_order 22 = .ok (.istore_n 3, 1) := by decide +kernel
theorem dX8_order_23 : decode cX8_order 23 = .ok (.iconst (-1), 1) := by decide +kernel
theorem dX8_order_24 : decode cX8_order 24 = .ok (.istore 4, 2) := by decide +kernel
theorem dX8_order_26 : decode cX8_order 26 = .ok (.iconst (-1), 1) := by decide +kernel
theorem dX8_order_27 : decode cX8_order 27 = .ok (.istore 5, 2) := by decide +kernel
theorem dX8_order_29 : decode cX8_order 29 = .ok (.iconst 0, 1) := by decide +kernel
theorem dX8_order_30 : decode cX8_order 30 = .ok (.istore 6, 2) := by decide +kernel
theorem dX8_order_32 : decode cX8_order 32 = .ok (.iload 6, 2) := by decide +kernel
theorem dX8_order_34 : decode cX8_order 34 = .ok (.iload_n 1, 1) := by decide +kernel
theorem dX8_order_35 : decode cX8_order 35 = .ok (.if_icmp .gt 102, 3) := by decide +kernel
theorem dX8_order_38 : decode cX8_order 38 = .ok (.aload_n 0, 1) := by decide +kernel
theorem dX8_order_39 : decode cX8_order 39 = .ok (.iload_n 3, 1) := by decide +kernel
theorem dX8_order_40 : decode cX8_order 40 = .ok (.iload 4, 2) := by decide +kernel
theorem dX8_order_42 : decode cX8_order 42 = .ok (.invokevirtual 176, 3) := by decide +kernel
theorem dX8_order_45 : decode cX8_order 45 = .ok (.istore 7, 2) := by decide +kernel
theorem dX8_order_47 : decode cX8_order 47 = .ok (.iconst 0, 1) := by decide +kernel
theorem dX8_order_48 : decode cX8_order 48 = .ok (.istore 5, 2) := by decide +kernel
theorem dX8_order_50 : decode cX8_order 50 = .ok (.iload_n 3, 1) := by decide +kernel
theorem dX8_order_51 : decode cX8_order 51 = .ok (.iload 5, 2) := by decide +kernel
theorem dX8_order_53 : decode cX8_order 53 = .ok (.ishr, 1) := by decide +kernel
theorem dX8_order_54 : decode cX8_order 54 = .ok (.iconst 1, 1) := by decide +kernel
theorem dX8_order_55 : decode cX8_order 55 = .ok (.iand, 1) := by decide +kernel
theorem dX8_order_56 : decode cX8_order 56 = .ok (.ifCond .eq 51, 3) := by decide +kernel
theorem dX8_order_59 : decode cX8_order 59 = .ok (.aload_n 0, 1) := by decide +kernel
theorem dX8_order_60 : decode cX8_order 60 = .ok (.iload_n 3, 1) := by decide +kernel
theorem dX8_order_61 : decode cX8_order 61 = .ok (.iconst 1, 1) := by decide +kernel
theorem dX8_order_62 : decode cX8_order 62 = .ok (.iload 5, 2) := by decide +kernel
theorem dX8_order_64 : decode cX8_order 64 = .ok (.ishl, 1) := by decide +kernel
theorem dX8_order_65 : decode cX8_order 65 = .ok (.iconst (-1), 1) := by decide +kernel
theorem dX8_order_66 : decode cX8_order 66 = .ok (.ixor, 1) := by decide +kernel
theorem dX8_order_67 : decode cX8_order 67 = .ok (.iand, 1) := by decide +kernel
theorem dX8_order_68 : decode cX8_order 68 = .ok (.aload_n 0, 1) := by decide +kernel
theorem dX8_order_69 : decode cX8_order 69 = .ok (.getfield 31, 3) := by decide +kernel
theorem dX8_order_72 : decode cX8_order 72 = .ok (.iload 5, 2) := by decide +kernel
theorem dX8_order_74 : decode cX8_order 74 = .ok (.iaload, 1) := by decide +kernel
theorem dX8_order_75 : decode cX8_order 75 = .ok (.invokevirtual 176, 3) := by decide +kernel
theorem dX8_order_78 : decode cX8_order 78 = .ok (.iload 4, 2) := by decide +kernel
theorem dX8_order_80 : decode cX8_order 80 = .ok (.iconst (-1), 1) := by decide +kernel
theorem dX8_order_81 : decode cX8_order 81 = .ok (.if_icmp .eq 19, 3) := by decide +kernel
theorem dX8_order_84 : decode cX8_order 84 = .ok (.aload_n 0, 1) := by decide +kernel
theorem dX8_order_85 : decode cX8_order 85 = .ok (.getfield 31, 3) := by decide +kernel
theorem dX8_order_88 : decode cX8_order 88 = .ok (.iload 5, 2) := by decide +kernel
theorem dX8_order_90 : decode cX8_order 90 = .ok (.iaload, 1) := by decide +kernel
theorem dX8_order_91 : decode cX8_order 91 = .ok (.iload 4, 2) := by decide +kernel
theorem dX8_order_93 : decode cX8_order 93 = .ok (.if_icmp .eq 7, 3) := by decide +kernel
theorem dX8_order_96 : decode cX8_order 96 = .ok (.iconst 1, 1) := by decide +kernel
theorem dX8_order_97 : decode cX8_order 97 = .ok (.goto 4, 3) := by decide +kernel
theorem dX8_order_100 : decode cX8_order 100 = .ok (.iconst 0, 1) := by decide +kernel
theorem dX8_order_101 : decode cX8_order 101 = .ok (.iadd, 1) := by decide +kernel
theorem dX8_order_102 : decode cX8_order 102 = .ok (.iload 7, 2) := by decide +kernel
theorem dX8_order_104 : decode cX8_order 104 = .ok (.if_icmp .eq 9, 3) := by decide +kernel
theorem dX8_order_107 : decode cX8_order 107 = .ok (.iinc 5 1, 3) := by decide +kernel
theorem dX8_order_110 : decode cX8_order 110 = .ok (.goto (-60), 3) := by decide +kernel
theorem dX8_order_113 : decode cX8_order 113 = .ok (.iload_n 3, 1) := by decide +kernel
theorem dX8_order_114 : decode cX8_order 114 = .ok (.iconst 1, 1) := by decide +kernel
theorem dX8_order_115 : decode cX8_order 115 = .ok (.iload 5, 2) := by decide +kernel
theorem dX8_order_117 : decode cX8_order 117 = .ok (.ishl, 1) := by decide +kernel
theorem dX8_order_118 : decode cX8_order 118 = .ok (.iconst (-1), 1) := by decide +kernel
theorem dX8_order_119 : decode cX8_order 119 = .ok (.ixor, 1) := by decide +kernel
theorem dX8_order_120 : decode cX8_order 120 = .ok (.iand, 1) := by decide +kernel
theorem dX8_order_121 : decode cX8_order 121 = .ok (.istore_n 3, 1) := by decide +kernel
theorem dX8_order_122 : decode cX8_order 122 = .ok (.aload_n 0, 1) := by decide +kernel
theorem dX8_order_123 : decode cX8_order 123 = .ok (.getfield 31, 3) := by decide +kernel
theorem dX8_order_126 : decode cX8_order 126 = .ok (.iload 5, 2) := by decide +kernel
theorem dX8_order_128 : decode cX8_order 128 = .ok (.iaload, 1) := by decide +kernel
theorem dX8_order_129 : decode cX8_order 129 = .ok (.istore 4, 2) := by decide +kernel
theorem dX8_order_131 : decode cX8_order 131 = .ok (.iinc 6 1, 3) := by decide +kernel
theorem dX8_order_134 : decode cX8_order 134 = .ok (.goto (-102), 3) := by decide +kernel
theorem dX8_order_137 : decode cX8_order 137 = .ok (.iload 5, 2) := by decide +kernel
theorem dX8_order_139 : decode cX8_order 139 = .ok (.ireturn, 1) := by decide +kernel
theorem dX8_crossings_0 : decode cX8_crossings 0 = .ok (.aload_n 0, 1) := by decide +kernel
theorem dX8_crossings_1 : decode cX8_crossings 1 = .ok (.getfield 179, 3) := by decide +kernel
theorem dX8_crossings_4 : decode cX8_crossings 4 = .ok (.aload_n 0, 1) := by decide +kernel
theorem dX8_crossings_5 : decode cX8_crossings 5 = .ok (.getfield 82, 3) := by decide +kernel
theorem dX8_crossings_8 : decode cX8_crossings 8 = .ok (.if_icmp .ne 7, 3) := by decide +kernel
theorem dX8_crossings_11 : decode cX8_crossings 11 = .ok (.iconst 1, 1) := by decide +kernel
theorem dX8_crossings_12 : decode cX8_crossings 12 = .ok (.goto 4, 3) := by decide +kernel
theorem dX8_crossings_15 : decode cX8_crossings 15 = .ok (.iconst 0, 1) := by decide +kernel
theorem dX8_crossings_16 : decode cX8_crossings 16 = .ok (.istore_n 1, 1) := by decide +kernel
theorem dX8_crossings_17 : decode cX8_crossings 17 = .ok (.iconst 0, 1) := by decide +kernel
theorem dX8_crossings_18 : decode cX8_crossings 18 = .ok (.istore_n 2, 1) := by decide +kernel
theorem dX8_crossings_19 : decode cX8_crossings 19 = .ok (.iload_n 2, 1) := by decide +kernel
theorem dX8_crossings_20 : decode cX8_crossings 20 = .ok (.aload_n 0, 1) := by decide +kernel
theorem dX8_crossings_21 : decode cX8_crossings 21 = .ok (.getfield 179, 3) := by decide +kernel
theorem dX8_crossings_24 : decode cX8_crossings 24 = .ok (.if_icmp .ge 33, 3) := by decide +kernel
theorem dX8_crossings_27 : decode cX8_crossings 27 = .ok (.iload_n 1, 1) := by decide +kernel
theorem dX8_crossings_28 : decode cX8_crossings 28 = .ok (.ifCond .eq 29, 3) := by decide +kernel
theorem dX8_crossings_31 : decode cX8_crossings 31 = .ok (.aload_n 0, 1) := by decide +kernel
theorem dX8_crossings_32 : decode cX8_crossings 32 = .ok (.aload_n 0, 1) := by decide +kernel
theorem dX8_crossings_33 : decode cX8_crossings 33 = .ok (.getfield 59, 3) := by decide +kernel
theorem dX8_crossings_36 : decode cX8_crossings 36 = .ok (.iload_n 2, 1) := by decide +kernel
theorem dX8_crossings_37 : decode cX8_crossings 37 = .ok (.iaload, 1) := by decide +kernel
theorem dX8_crossings_38 : decode cX8_crossings 38 = .ok (.iload_n 2, 1) := by decide +kernel
theorem dX8_crossings_39 : decode cX8_crossings 39 = .ok (.invokevirtual 141, 3) := by decide +kernel
theorem dX8_crossings_42 : decode cX8_crossings 42 = .ok (.ifCond .ne 7, 3) := by decide +kernel
theorem dX8_crossings_45 : decode cX8_crossings 45 = .ok (.iconst 1, 1) := by decide +kernel
theorem dX8_crossings_46 : decode cX8_crossings 46 = .ok (.goto 4, 3) := by decide +kernel
theorem dX8_crossings_49 : decode cX8_crossings 49 = .ok (.iconst 0, 1) := by decide +kernel
theorem dX8_crossings_50 : decode cX8_crossings 50 = .ok (.istore_n 1, 1) := by decide +kernel
theorem dX8_crossings_51 : decode cX8_crossings 51 = .ok (.iinc 2 1, 3) := by decide +kernel
theorem dX8_crossings_54 : decode cX8_crossings 54 = .ok (.goto (-35), 3) := by decide +kernel
theorem dX8_crossings_57 : decode cX8_crossings 57 = .ok (.aload_n 0, 1) := by decide +kernel
theorem dX8_crossings_58 : decode cX8_crossings 58 = .ok (.iconst 0, 1) := by decide +kernel
theorem dX8_crossings_59 : decode cX8_crossings 59 = .ok (.putfield 179, 3) := by decide +kernel
theorem dX8_crossings_62 : decode cX8_crossings 62 = .ok (.iload_n 1, 1) := by decide +kernel
theorem dX8_crossings_63 : decode cX8_crossings 63 = .ok (.ifCond .ne 6, 3) := by decide +kernel
theorem dX8_crossings_66 : decode cX8_crossings 66 = .ok (.bipush (-3), 2) := by decide +kernel
theorem dX8_crossings_68 : decode cX8_crossings 68 = .ok (.ireturn, 1) := by decide +kernel
theorem dX8_crossings_69 : decode cX8_crossings 69 = .ok (.iconst 0, 1) := by decide +kernel
theorem dX8_crossings_70 : decode cX8_crossings 70 = .ok (.istore_n 2, 1) := by decide +kernel
theorem dX8_crossings_71 : decode cX8_crossings 71 = .ok (.iconst 0, 1) := by decide +kernel
theorem dX8_crossings_72 : decode cX8_crossings 72 = .ok (.istore_n 3, 1) := by decide +kernel
theorem dX8_crossings_73 : decode cX8_crossings 73 = .ok (.iload_n 3, 1) := by decide +kernel
theorem dX8_crossings_74 : decode cX8_crossings 74 = .ok (.aload_n 0, 1) := by decide +kernel
theorem dX8_crossings_75 : decode cX8_crossings 75 = .ok (.getfield 82, 3) := by decide +kernel
theorem dX8_crossings_78 : decode cX8_crossings 78 = .ok (.if_icmp .ge 67, 3) := by decide +kernel
theorem dX8_crossings_81 : decode cX8_crossings 81 = .ok (.aload_n 0, 1) := by decide +kernel
theorem dX8_crossings_82 : decode cX8_crossings 82 = .ok (.getfield 34, 3) := by decide +kernel
theorem dX8_crossings_85 : decode cX8_crossings 85 = .ok (.iload_n 3, 1) := by decide +kernel
theorem dX8_crossings_86 : decode cX8_crossings 86 = .ok (.iaload, 1) := by decide +kernel
theorem dX8_crossings_87 : decode cX8_crossings 87 = .ok (.iconst 1, 1) := by decide +kernel
theorem dX8_crossings_88 : decode cX8_crossings 88 = .ok (.if_icmp .ne 11, 3) := by decide +kernel
theorem dX8_crossings_91 : decode cX8_crossings 91 = .ok (.aload_n 0, 1) := by decide +kernel
theorem dX8_crossings_92 : decode cX8_crossings 92 = .ok (.iload_n 3, 1) := by decide +kernel
theorem dX8_crossings_93 : decode cX8_crossings 93 = .ok (.invokevirtual 154, 3) := by decide +kernel
theorem dX8_crossings_96 : decode cX8_crossings 96 = .ok (.goto 4, 3) := by decide +kernel
theorem dX8_crossings_99 : decode cX8_crossings 99 = .ok (.iconst (-1), 1) := by decide +kernel
theorem dX8_crossings_100 : decode cX8_crossings 100 = .ok (.istore 4, 2) := by decide +kernel
theorem dX8_crossings_102 : decode cX8_crossings 102 = .ok (.iload_n 2, 1) := by decide +kernel
theorem dX8_crossings_103 : decode cX8_crossings 103 = .ok (.iload 4, 2) := by decide +kernel
theorem dX8_crossings_105 : decode cX8_crossings 105 = .ok (.iconst (-1), 1) := by decide +kernel
theorem dX8_crossings_106 : decode cX8_crossings 106 = .ok (.if_icmp .eq 30, 3) := by decide +kernel
theorem dX8_crossings_109 : decode cX8_crossings 109 = .ok (.aload_n 0, 1) := by decide +kernel
theorem dX8_crossings_110 : decode cX8_crossings 110 = .ok (.iload 4, 2) := by decide +kernel
theorem dX8_crossings_112 : decode cX8_crossings 112 = .ok (.aload_n 0, 1) := by decide +kernel
theorem dX8_crossings_113 : decode cX8_crossings 113 = .ok (.getfield 59, 3) := by decide +kernel
theorem dX8_crossings_116 : decode cX8_crossings 116 = .ok (.iload 4, 2) := by decide +kernel

theorem dX9_worth_0 : decode cX9_worth 0 = .ok (.aload_n 0, 1) := by decide +kernel
theorem dX9_worth_1 : decode cX9_worth 1 = .ok (.iload_n 1, 1) := by decide +kernel
theorem dX9_worth_2 : decode cX9_worth 2 = .ok (.iload_n 2, 1) := by decide +kernel
theorem dX9_worth_3 : decode cX9_worth 3 = .ok (.iload_n 3, 1) := by decide +kernel
theorem dX9_worth_4 : decode cX9_worth 4 = .ok (.iload 4, 2) := by decide +kernel
theorem dX9_worth_6 : decode cX9_worth 6 = .ok (.iload 5, 2) := by decide +kernel
theorem dX9_worth_8 : decode cX9_worth 8 = .ok (.invokevirtual 232, 3) := by decide +kernel
theorem dX9_worth_11 : decode cX9_worth 11 = .ok (.ifCond .ne 7, 3) := by decide +kernel
theorem dX9_worth_14 : decode cX9_worth 14 = .ok (.ldc_w 265, 3) := by decide +kernel
theorem dX9_worth_17 : decode cX9_worth 17 = .ok (.ireturn, 1) := by decide +kernel
theorem dX9_worth_18 : decode cX9_worth 18 = .ok (.aload_n 0, 1) := by decide +kernel
theorem dX9_worth_19 : decode cX9_worth 19 = .ok (.iload_n 1, 1) := by decide +kernel
theorem dX9_worth_20 : decode cX9_worth 20 = .ok (.iload_n 2, 1) := by decide +kernel
theorem dX9_worth_21 : decode cX9_worth 21 = .ok (.iload_n 3, 1) := by decide +kernel
theorem dX9_worth_22 : decode cX9_worth 22 = .ok (.iload 4, 2) := by decide +kernel
theorem dX9_worth_24 : decode cX9_worth 24 = .ok (.iload 5, 2) := by decide +kernel
theorem dX9_worth_26 : decode cX9_worth 26 = .ok (.invokevirtual 236, 3) := by decide +kernel
theorem dX9_worth_29 : decode cX9_worth 29 = .ok (.iconst 0, 1) := by decide +kernel
theorem dX9_worth_30 : decode cX9_worth 30 = .ok (.istore 6, 2) := by decide +kernel
theorem dX9_worth_32 : decode cX9_worth 32 = .ok (.iconst 0, 1) := by decide +kernel
theorem dX9_worth_33 : decode cX9_worth 33 = .ok (.istore 7, 2) := by decide +kernel
theorem dX9_worth_35 : decode cX9_worth 35 = .ok (.iload 4, 2) := by decide +kernel
theorem dX9_worth_37 : decode cX9_worth 37 = .ok (.istore 8, 2) := by decide +kernel
theorem dX9_worth_39 : decode cX9_worth 39 = .ok (.iload 8, 2) := by decide +kernel
theorem dX9_worth_41 : decode cX9_worth 41 = .ok (.iload 5, 2) := by decide +kernel
theorem dX9_worth_43 : decode cX9_worth 43 = .ok (.if_icmp .gt 65, 3) := by decide +kernel
theorem dX9_worth_46 : decode cX9_worth 46 = .ok (.iload 6, 2) := by decide +kernel
theorem dX9_worth_48 : decode cX9_worth 48 = .ok (.aload_n 0, 1) := by decide +kernel
theorem dX9_worth_49 : decode cX9_worth 49 = .ok (.getfield 53, 3) := by decide +kernel
theorem dX9_worth_52 : decode cX9_worth 52 = .ok (.iload 8, 2) := by decide +kernel
theorem dX9_worth_54 : decode cX9_worth 54 = .ok (.baload, 1) := by decide +kernel
theorem dX9_worth_55 : decode cX9_worth 55 = .ok (.ifCond .eq 17, 3) := by decide +kernel
theorem dX9_worth_58 : decode cX9_worth 58 = .ok (.aload_n 0, 1) := by decide +kernel
theorem dX9_worth_59 : decode cX9_worth 59 = .ok (.getfield 17, 3) := by decide +kernel
theorem dX9_worth_62 : decode cX9_worth 62 = .ok (.iload 8, 2) := by decide +kernel
theorem dX9_worth_64 : decode cX9_worth 64 = .ok (.baload, 1) := by decide +kernel
theorem dX9_worth_65 : decode cX9_worth 65 = .ok (.ifCond .eq 7, 3) := by decide +kernel
theorem dX9_worth_68 : decode cX9_worth 68 = .ok (.iconst 1, 1) := by decide +kernel
theorem dX9_worth_69 : decode cX9_worth 69 = .ok (.goto 4, 3) := by decide +kernel
theorem dX9_worth_72 : decode cX9_worth 72 = .ok (.iconst 0, 1) := by decide +kernel
theorem dX9_worth_73 : decode cX9_worth 73 = .ok (.iadd, 1) := by decide +kernel
theorem dX9_worth_74 : decode cX9_worth 74 = .ok (.istore 6, 2) := by decide +kernel
theorem dX9_worth_76 : decode cX9_worth 76 = .ok (.iload 7, 2) := by decide +kernel
theorem dX9_worth_78 : decode cX9_worth 78 = .ok (.aload_n 0, 1) := by decide +kernel
theorem dX9_worth_79 : decode cX9_worth 79 = .ok (.getfield 17, 3) := by decide +kernel
theorem dX9_worth_82 : decode cX9_worth 82 = .ok (.iload 8, 2) := by decide +kernel
theorem dX9_worth_84 : decode cX9_worth 84 = .ok (.baload, 1) := by decide +kernel
theorem dX9_worth_85 : decode cX9_worth 85 = .ok (.ifCond .eq 13, 3) := by decide +kernel
theorem dX9_worth_88 : decode cX9_worth 88 = .ok (.aload_n 0, 1) := by decide +kernel
theorem dX9_worth_89 : decode cX9_worth 89 = .ok (.getfield 50, 3) := by decide +kernel
theorem dX9_worth_92 : decode cX9_worth 92 = .ok (.iload 8, 2) := by decide +kernel
theorem dX9_worth_94 : decode cX9_worth 94 = .ok (.iaload, 1) := by decide +kernel
theorem dX9_worth_95 : decode cX9_worth 95 = .ok (.goto 4, 3) := by decide +kernel
theorem dX9_worth_98 : decode cX9_worth 98 = .ok (.iconst 0, 1) := by decide +kernel
theorem dX9_worth_99 : decode cX9_worth 99 = .ok (.iadd, 1) := by decide +kernel
theorem dX9_worth_100 : decode cX9_worth 100 = .ok (.istore 7, 2) := by decide +kernel
theorem dX9_worth_102 : decode cX9_worth 102 = .ok (.iinc 8 1, 3) := by decide +kernel
theorem dX9_worth_105 : decode cX9_worth 105 = .ok (.goto (-66), 3) := by decide +kernel
theorem dX9_worth_108 : decode cX9_worth 108 = .ok (.iload 6, 2) := by decide +kernel
theorem dX9_worth_110 : decode cX9_worth 110 = .ok (.ifCond .ne 9, 3) := by decide +kernel
theorem dX9_worth_113 : decode cX9_worth 113 = .ok (.ldc_w 268, 3) := by decide +kernel
theorem dX9_worth_116 : decode cX9_worth 116 = .ok (.goto 5, 3) := by decide +kernel
theorem dX9_worth_119 : decode cX9_worth 119 = .ok (.iload 7, 2) := by decide +kernel
theorem dX9_worth_121 : decode cX9_worth 121 = .ok (.ireturn, 1) := by decide +kernel
theorem dX9_dealt_0 : decode cX9_dealt 0 = .ok (.aload_n 0, 1) := by decide +kernel
theorem dX9_dealt_1 : decode cX9_dealt 1 = .ok (.iload_n 1, 1) := by decide +kernel
theorem dX9_dealt_2 : decode cX9_dealt 2 = .ok (.iload_n 2, 1) := by decide +kernel
theorem dX9_dealt_3 : decode cX9_dealt 3 = .ok (.iload_n 3, 1) := by decide +kernel
theorem dX9_dealt_4 : decode cX9_dealt 4 = .ok (.iload 4, 2) := by decide +kernel
theorem dX9_dealt_6 : decode cX9_dealt 6 = .ok (.iload 5, 2) := by decide +kernel
theorem dX9_dealt_8 : decode cX9_dealt 8 = .ok (.invokevirtual 232, 3) := by decide +kernel
theorem dX9_dealt_11 : decode cX9_dealt 11 = .ok (.ifCond .eq 16, 3) := by decide +kernel
theorem dX9_dealt_14 : decode cX9_dealt 14 = .ok (.iload 6, 2) := by decide +kernel
theorem dX9_dealt_16 : decode cX9_dealt 16 = .ok (.i2l, 1) := by decide +kernel
theorem dX9_dealt_17 : decode cX9_dealt 17 = .ok (.lconst 0, 1) := by decide +kernel
theorem dX9_dealt_18 : decode cX9_dealt 18 = .ok (.ldc2_w 89, 3) := by decide +kernel
theorem dX9_dealt_21 : decode cX9_dealt 21 = .ok (.invokestatic 91, 3) := by decide +kernel
theorem dX9_dealt_24 : decode cX9_dealt 24 = .ok (.ifCond .ne 5, 3) := by decide +kernel
theorem dX9_dealt_27 : decode cX9_dealt 27 = .ok (.iconst (-1), 1) := by decide +kernel
theorem dX9_dealt_28 : decode cX9_dealt 28 = .ok (.ireturn, 1) := by decide +kernel
theorem dX9_dealt_29 : decode cX9_dealt 29 = .ok (.aload_n 0, 1) := by decide +kernel
theorem dX9_dealt_30 : decode cX9_dealt 30 = .ok (.iload_n 1, 1) := by decide +kernel
theorem dX9_dealt_31 : decode cX9_dealt 31 = .ok (.iload_n 2, 1) := by decide +kernel
theorem dX9_dealt_32 : decode cX9_dealt 32 = .ok (.iload_n 3, 1) := by decide +kernel
theorem dX9_dealt_33 : decode cX9_dealt 33 = .ok (.iload 4, 2) := by decide +kernel
theorem dX9_dealt_35 : decode cX9_dealt 35 = .ok (.iload 5, 2) := by decide +kernel
theorem dX9_dealt_37 : decode cX9_dealt 37 = .ok (.invokevirtual 236, 3) := by decide +kernel
theorem dX9_dealt_40 : decode cX9_dealt 40 = .ok (.iconst 0, 1) := by decide +kernel
theorem dX9_dealt_41 : decode cX9_dealt 41 = .ok (.istore 7, 2) := by decide +kernel
theorem dX9_dealt_43 : decode cX9_dealt 43 = .ok (.iconst 0, 1) := by decide +kernel
theorem dX9_dealt_44 : decode cX9_dealt 44 = .ok (.istore 8, 2) := by decide +kernel
theorem dX9_dealt_46 : decode cX9_dealt 46 = .ok (.iconst 0, 1) := by decide +kernel
theorem dX9_dealt_47 : decode cX9_dealt 47 = .ok (.istore 9, 2) := by decide +kernel
theorem dX9_dealt_49 : decode cX9_dealt 49 = .ok (.iload 4, 2) := by decide +kernel
theorem dX9_dealt_51 : decode cX9_dealt 51 = .ok (.istore 10, 2) := by decide +kernel
theorem dX9_dealt_53 : decode cX9_dealt 53 = .ok (.iload 10, 2) := by decide +kernel
theorem dX9_dealt_55 : decode cX9_dealt 55 = .ok (.iload 5, 2) := by decide +kernel
theorem dX9_dealt_57 : decode cX9_dealt 57 = .ok (.if_icmp .gt 82, 3) := by decide +kernel
theorem dX9_dealt_60 : decode cX9_dealt 60 = .ok (.aload_n 0, 1) := by decide +kernel
theorem dX9_dealt_61 : decode cX9_dealt 61 = .ok (.getfield 53, 3) := by decide +kernel
theorem dX9_dealt_64 : decode cX9_dealt 64 = .ok (.iload 10, 2) := by decide +kernel
theorem dX9_dealt_66 : decode cX9_dealt 66 = .ok (.baload, 1) := by decide +kernel
theorem dX9_dealt_67 : decode cX9_dealt 67 = .ok (.ifCond .eq 66, 3) := by decide +kernel
theorem dX9_dealt_70 : decode cX9_dealt 70 = .ok (.aload_n 0, 1) := by decide +kernel
theorem dX9_dealt_71 : decode cX9_dealt 71 = .ok (.getfield 56, 3) := by decide +kernel
theorem dX9_dealt_74 : decode cX9_dealt 74 = .ok (.iload 7, 2) := by decide +kernel
theorem dX9_dealt_76 : decode cX9_dealt 76 = .ok (.aload_n 0, 1) := by decide +kernel
theorem dX9_dealt_77 : decode cX9_dealt 77 = .ok (.getfield 50, 3) := by decide +kernel
theorem dX9_dealt_80 : decode cX9_dealt 80 = .ok (.iload 10, 2) := by decide +kernel
theorem dX9_dealt_82 : decode cX9_dealt 82 = .ok (.iaload, 1) := by decide +kernel
theorem dX9_dealt_83 : decode cX9_dealt 83 = .ok (.iastore, 1) := by decide +kernel
theorem dX9_dealt_84 : decode cX9_dealt 84 = .ok (.iinc 7 1, 3) := by decide +kernel
theorem dX9_dealt_87 : decode cX9_dealt 87 = .ok (.iload 8, 2) := by decide +kernel
theorem dX9_dealt_89 : decode cX9_dealt 89 = .ok (.aload_n 0, 1) := by decide +kernel
theorem dX9_dealt_90 : decode cX9_dealt 90 = .ok (.getfield 17, 3) := by decide +kernel
theorem dX9_dealt_93 : decode cX9_dealt 93 = .ok (.iload 10, 2) := by decide +kernel
theorem dX9_dealt_95 : decode cX9_dealt 95 = .ok (.baload, 1) := by decide +kernel
theorem dX9_dealt_96 : decode cX9_dealt 96 = .ok (.ifCond .eq 7, 3) := by decide +kernel
theorem dX9_dealt_99 : decode cX9_dealt 99 = .ok (.iconst 1, 1) := by decide +kernel
theorem dX9_dealt_100 : decode cX9_dealt 100 = .ok (.goto 4, 3) := by decide +kernel
theorem dX9_dealt_103 : decode cX9_dealt 103 = .ok (.iconst 0, 1) := by decide +kernel
theorem dX9_dealt_104 : decode cX9_dealt 104 = .ok (.iadd, 1) := by decide +kernel
theorem dX9_dealt_105 : decode cX9_dealt 105 = .ok (.istore 8, 2) := by decide +kernel
theorem dX9_dealt_107 : decode cX9_dealt 107 = .ok (.iload 9, 2) := by decide +kernel
theorem dX9_dealt_109 : decode cX9_dealt 109 = .ok (.aload_n 0, 1) := by decide +kernel
theorem dX9_dealt_110 : decode cX9_dealt 110 = .ok (.getfield 17, 3) := by decide +kernel
theorem dX9_dealt_113 : decode cX9_dealt 113 = .ok (.iload 10, 2) := by decide +kernel
theorem dX9_dealt_115 : decode cX9_dealt 115 = .ok (.baload, 1) := by decide +kernel
theorem dX9_dealt_116 : decode cX9_dealt 116 = .ok (.ifCond .eq 13, 3) := by decide +kernel
theorem dX9_dealt_119 : decode cX9_dealt 119 = .ok (.aload_n 0, 1) := by decide +kernel
theorem dX9_dealt_120 : decode cX9_dealt 120 = .ok (.getfield 50, 3) := by decide +kernel
theorem dX9_dealt_123 : decode cX9_dealt 123 = .ok (.iload 10, 2) := by decide +kernel
theorem dX9_dealt_125 : decode cX9_dealt 125 = .ok (.iaload, 1) := by decide +kernel
theorem dX9_dealt_126 : decode cX9_dealt 126 = .ok (.goto 4, 3) := by decide +kernel
theorem dX9_dealt_129 : decode cX9_dealt 129 = .ok (.iconst 0, 1) := by decide +kernel
theorem dX9_dealt_130 : decode cX9_dealt 130 = .ok (.iadd, 1) := by decide +kernel
theorem dX9_dealt_131 : decode cX9_dealt 131 = .ok (.istore 9, 2) := by decide +kernel
theorem dX9_dealt_133 : decode cX9_dealt 133 = .ok (.iinc 10 1, 3) := by decide +kernel
theorem dX9_dealt_136 : decode cX9_dealt 136 = .ok (.goto (-83), 3) := by decide +kernel
theorem dX9_dealt_139 : decode cX9_dealt 139 = .ok (.iload 7, 2) := by decide +kernel
theorem dX9_dealt_141 : decode cX9_dealt 141 = .ok (.bipush 16, 2) := by decide +kernel
theorem dX9_dealt_143 : decode cX9_dealt 143 = .ok (.if_icmp .le 6, 3) := by decide +kernel
theorem dX9_dealt_146 : decode cX9_dealt 146 = .ok (.bipush (-2), 2) := by decide +kernel
theorem dX9_dealt_148 : decode cX9_dealt 148 = .ok (.ireturn, 1) := by decide +kernel
theorem dX9_dealt_149 : decode cX9_dealt 149 = .ok (.iload 6, 2) := by decide +kernel
theorem dX9_dealt_151 : decode cX9_dealt 151 = .ok (.iconst 1, 1) := by decide +kernel
theorem dX9_dealt_152 : decode cX9_dealt 152 = .ok (.if_icmp .le 17, 3) := by decide +kernel
theorem dX9_dealt_155 : decode cX9_dealt 155 = .ok (.iload 6, 2) := by decide +kernel
theorem dX9_dealt_157 : decode cX9_dealt 157 = .ok (.iconst 2, 1) := by decide +kernel
theorem dX9_dealt_158 : decode cX9_dealt 158 = .ok (.if_icmp .ne 8, 3) := by decide +kernel
theorem dX9_dealt_161 : decode cX9_dealt 161 = .ok (.iload 7, 2) := by decide +kernel
theorem dX9_dealt_163 : decode cX9_dealt 163 = .ok (.goto 5, 3) := by decide +kernel
theorem dX9_dealt_166 : decode cX9_dealt 166 = .ok (.iload 8, 2) := by decide +kernel
theorem dX9_dealt_168 : decode cX9_dealt 168 = .ok (.ireturn, 1) := by decide +kernel
theorem dX9_dealt_169 : decode cX9_dealt 169 = .ok (.iload 6, 2) := by decide +kernel
theorem dX9_dealt_171 : decode cX9_dealt 171 = .ok (.ifCond .ne 11, 3) := by decide +kernel
theorem dX9_dealt_174 : decode cX9_dealt 174 = .ok (.iload 8, 2) := by decide +kernel
theorem dX9_dealt_176 : decode cX9_dealt 176 = .ok (.ifCond .ne 6, 3) := by decide +kernel
theorem dX9_dealt_179 : decode cX9_dealt 179 = .ok (.bipush (-4), 2) := by decide +kernel
theorem dX9_dealt_181 : decode cX9_dealt 181 = .ok (.ireturn, 1) := by decide +kernel
theorem dX9_dealt_182 : decode cX9_dealt 182 = .ok (.iconst 0, 1) := by decide +kernel
theorem dX9_dealt_183 : decode cX9_dealt 183 = .ok (.istore 10, 2) := by decide +kernel
theorem dX9_dealt_185 : decode cX9_dealt 185 = .ok (.iconst 0, 1) := by decide +kernel
theorem dX9_dealt_186 : decode cX9_dealt 186 = .ok (.istore 11, 2) := by decide +kernel
theorem dX9_dealt_188 : decode cX9_dealt 188 = .ok (.iconst 0, 1) := by decide +kernel
theorem dX9_dealt_189 : decode cX9_dealt 189 = .ok (.istore 12, 2) := by decide +kernel
theorem dX9_dealt_191 : decode cX9_dealt 191 = .ok (.iload 12, 2) := by decide +kernel
theorem dX9_dealt_193 : decode cX9_dealt 193 = .ok (.iconst 1, 1) := by decide +kernel
theorem dX9_dealt_194 : decode cX9_dealt 194 = .ok (.iload 7, 2) := by decide +kernel
theorem dX9_dealt_196 : decode cX9_dealt 196 = .ok (.ishl, 1) := by decide +kernel
theorem dX9_dealt_197 : decode cX9_dealt 197 = .ok (.if_icmp .ge 104, 3) := by decide +kernel
theorem dX9_dealt_200 : decode cX9_dealt 200 = .ok (.iconst 0, 1) := by decide +kernel
theorem dX9_dealt_201 : decode cX9_dealt 201 = .ok (.istore 13, 2) := by decide +kernel
theorem dX9_dealt_203 : decode cX9_dealt 203 = .ok (.iconst 0, 1) := by decide +kernel
theorem dX9_dealt_204 : decode cX9_dealt 204 = .ok (.istore 14, 2) := by decide +kernel
theorem dX9_dealt_206 : decode cX9_dealt 206 = .ok (.iconst 0, 1) := by decide +kernel
theorem dX9_dealt_207 : decode cX9_dealt 207 = .ok (.istore 15, 2) := by decide +kernel
theorem dX9_dealt_209 : decode cX9_dealt 209 = .ok (.iload 15, 2) := by decide +kernel
theorem dX9_dealt_211 : decode cX9_dealt 211 = .ok (.iload 7, 2) := by decide +kernel
theorem dX9_dealt_213 : decode cX9_dealt 213 = .ok (.if_icmp .ge 41, 3) := by decide +kernel
theorem dX9_dealt_216 : decode cX9_dealt 216 = .ok (.iload 13, 2) := by decide +kernel
theorem dX9_dealt_218 : decode cX9_dealt 218 = .ok (.iload 12, 2) := by decide +kernel
theorem dX9_dealt_220 : decode cX9_dealt 220 = .ok (.iload 15, 2) := by decide +kernel
theorem dX9_dealt_222 : decode cX9_dealt 222 = .ok (.ishr, 1) := by decide +kernel
theorem dX9_dealt_223 : decode cX9_dealt 223 = .ok (.iconst 1, 1) := by decide +kernel
theorem dX9_dealt_224 : decode cX9_dealt 224 = .ok (.iand, 1) := by decide +kernel
theorem dX9_dealt_225 : decode cX9_dealt 225 = .ok (.iadd, 1) := by decide +kernel
theorem dX9_dealt_226 : decode cX9_dealt 226 = .ok (.istore 13, 2) := by decide +kernel
theorem dX9_dealt_228 : decode cX9_dealt 228 = .ok (.iload 14, 2) := by decide +kernel
theorem dX9_dealt_230 : decode cX9_dealt 230 = .ok (.iload 12, 2) := by decide +kernel
theorem dX9_dealt_232 : decode cX9_dealt 232 = .ok (.iload 15, 2) := by decide +kernel
theorem dX9_dealt_234 : decode cX9_dealt 234 = .ok (.ishr, 1) := by decide +kernel
theorem dX9_dealt_235 : decode cX9_dealt 235 = .ok (.iconst 1, 1) := by decide +kernel
theorem dX9_dealt_236 : decode cX9_dealt 236 = .ok (.iand, 1) := by decide +kernel
theorem dX9_dealt_237 : decode cX9_dealt 237 = .ok (.aload_n 0, 1) := by decide +kernel
theorem dX9_dealt_238 : decode cX9_dealt 238 = .ok (.getfield 56, 3) := by decide +kernel
theorem dX9_dealt_241 : decode cX9_dealt 241 = .ok (.iload 15, 2) := by decide +kernel
theorem dX9_dealt_243 : decode cX9_dealt 243 = .ok (.iaload, 1) := by decide +kernel
theorem dX9_dealt_244 : decode cX9_dealt 244 = .ok (.imul, 1) := by decide +kernel
theorem dX9_dealt_245 : decode cX9_dealt 245 = .ok (.iadd, 1) := by decide +kernel
theorem dX9_dealt_246 : decode cX9_dealt 246 = .ok (.istore 14, 2) := by decide +kernel
theorem dX9_dealt_248 : decode cX9_dealt 248 = .ok (.iinc 15 1, 3) := by decide +kernel
theorem dX9_dealt_251 : decode cX9_dealt 251 = .ok (.goto (-42), 3) := by decide +kernel
theorem dX9_dealt_254 : decode cX9_dealt 254 = .ok (.iload 11, 2) := by decide +kernel
theorem dX9_dealt_256 : decode cX9_dealt 256 = .ok (.iload 13, 2) := by decide +kernel
theorem dX9_dealt_258 : decode cX9_dealt 258 = .ok (.iload 8, 2) := by decide +kernel
theorem dX9_dealt_260 : decode cX9_dealt 260 = .ok (.if_icmp .ne 7, 3) := by decide +kernel
theorem dX9_dealt_263 : decode cX9_dealt 263 = .ok (.iconst 1, 1) := by decide +kernel
theorem dX9_dealt_264 : decode cX9_dealt 264 = .ok (.goto 4, 3) := by decide +kernel
theorem dX9_dealt_267 : decode cX9_dealt 267 = .ok (.iconst 0, 1) := by decide +kernel
theorem dX9_dealt_268 : decode cX9_dealt 268 = .ok (.iadd, 1) := by decide +kernel
theorem dX9_dealt_269 : decode cX9_dealt 269 = .ok (.istore 11, 2) := by decide +kernel
theorem dX9_dealt_271 : decode cX9_dealt 271 = .ok (.iload 10, 2) := by decide +kernel
theorem dX9_dealt_273 : decode cX9_dealt 273 = .ok (.iload 13, 2) := by decide +kernel
theorem dX9_dealt_275 : decode cX9_dealt 275 = .ok (.iload 8, 2) := by decide +kernel
theorem dX9_dealt_277 : decode cX9_dealt 277 = .ok (.if_icmp .ne 14, 3) := by decide +kernel
theorem dX9_dealt_280 : decode cX9_dealt 280 = .ok (.iload 14, 2) := by decide +kernel
theorem dX9_dealt_282 : decode cX9_dealt 282 = .ok (.iload 9, 2) := by decide +kernel
theorem dX9_dealt_284 : decode cX9_dealt 284 = .ok (.if_icmp .lt 7, 3) := by decide +kernel
theorem dX9_dealt_287 : decode cX9_dealt 287 = .ok (.iconst 1, 1) := by decide +kernel
theorem dX9_dealt_288 : decode cX9_dealt 288 = .ok (.goto 4, 3) := by decide +kernel
theorem dX9_dealt_291 : decode cX9_dealt 291 = .ok (.iconst 0, 1) := by decide +kernel
theorem dX9_dealt_292 : decode cX9_dealt 292 = .ok (.iadd, 1) := by decide +kernel
theorem dX9_dealt_293 : decode cX9_dealt 293 = .ok (.istore 10, 2) := by decide +kernel
theorem dX9_dealt_295 : decode cX9_dealt 295 = .ok (.iinc 12 1, 3) := by decide +kernel
theorem dX9_dealt_298 : decode cX9_dealt 298 = .ok (.goto (-107), 3) := by decide +kernel
theorem dX9_dealt_301 : decode cX9_dealt 301 = .ok (.iload 6, 2) := by decide +kernel
theorem dX9_dealt_303 : decode cX9_dealt 303 = .ok (.ifCond .ne 8, 3) := by decide +kernel
theorem dX9_dealt_306 : decode cX9_dealt 306 = .ok (.iload 10, 2) := by decide +kernel
theorem dX9_dealt_308 : decode cX9_dealt 308 = .ok (.goto 5, 3) := by decide +kernel
theorem dX9_dealt_311 : decode cX9_dealt 311 = .ok (.iload 11, 2) := by decide +kernel
theorem dX9_dealt_313 : decode cX9_dealt 313 = .ok (.ireturn, 1) := by decide +kernel
theorem dX9_change_0 : decode cX9_change 0 = .ok (.iload_n 1, 1) := by decide +kernel
theorem dX9_change_1 : decode cX9_change 1 = .ok (.invokestatic 108, 3) := by decide +kernel
theorem dX9_change_4 : decode cX9_change 4 = .ok (.ifCond .eq 11, 3) := by decide +kernel
theorem dX9_change_7 : decode cX9_change 7 = .ok (.iload_n 2, 1) := by decide +kernel
theorem dX9_change_8 : decode cX9_change 8 = .ok (.iload_n 3, 1) := by decide +kernel
theorem dX9_change_9 : decode cX9_change 9 = .ok (.invokestatic 228, 3) := by decide +kernel
theorem dX9_change_12 : decode cX9_change 12 = .ok (.ifCond .ne 5, 3) := by decide +kernel
theorem dX9_change_15 : decode cX9_change 15 = .ok (.iconst (-1), 1) := by decide +kernel
theorem dX9_change_16 : decode cX9_change 16 = .ok (.ireturn, 1) := by decide +kernel
theorem dX9_change_17 : decode cX9_change 17 = .ok (.bipush (-4), 2) := by decide +kernel
theorem dX9_change_19 : decode cX9_change 19 = .ok (.istore 4, 2) := by decide +kernel
theorem dX9_change_21 : decode cX9_change 21 = .ok (.lconst 0, 1) := by decide +kernel
theorem dX9_change_22 : decode cX9_change 22 = .ok (.lstore 5, 2) := by decide +kernel
theorem dX9_change_24 : decode cX9_change 24 = .ok (.lconst 1, 1) := by decide +kernel
theorem dX9_change_25 : decode cX9_change 25 = .ok (.lstore 7, 2) := by decide +kernel
theorem dX9_change_27 : decode cX9_change 27 = .ok (.iload_n 2, 1) := by decide +kernel
theorem dX9_change_28 : decode cX9_change 28 = .ok (.iconst 1, 1) := by decide +kernel
theorem dX9_change_29 : decode cX9_change 29 = .ok (.iadd, 1) := by decide +kernel
theorem dX9_change_30 : decode cX9_change 30 = .ok (.istore 9, 2) := by decide +kernel
theorem dX9_change_32 : decode cX9_change 32 = .ok (.iload 9, 2) := by decide +kernel
theorem dX9_change_34 : decode cX9_change 34 = .ok (.iload_n 3, 1) := by decide +kernel
theorem dX9_change_35 : decode cX9_change 35 = .ok (.if_icmp .gt 224, 3) := by decide +kernel
theorem dX9_change_38 : decode cX9_change 38 = .ok (.lconst 0, 1) := by decide +kernel
theorem dX9_change_39 : decode cX9_change 39 = .ok (.lstore 10, 2) := by decide +kernel
theorem dX9_change_41 : decode cX9_change 41 = .ok (.lconst 0, 1) := by decide +kernel
theorem dX9_change_42 : decode cX9_change 42 = .ok (.lstore 12, 2) := by decide +kernel
theorem dX9_change_44 : decode cX9_change 44 = .ok (.lconst 0, 1) := by decide +kernel
theorem dX9_change_45 : decode cX9_change 45 = .ok (.lstore 14, 2) := by decide +kernel
theorem dX9_change_47 : decode cX9_change 47 = .ok (.lconst 0, 1) := by decide +kernel
theorem dX9_change_48 : decode cX9_change 48 = .ok (.lstore 16, 2) := by decide +kernel
theorem dX9_change_50 : decode cX9_change 50 = .ok (.iload_n 2, 1) := by decide +kernel
theorem dX9_change_51 : decode cX9_change 51 = .ok (.istore 18, 2) := by decide +kernel
theorem dX9_change_53 : decode cX9_change 53 = .ok (.iload 18, 2) := by decide +kernel
theorem dX9_change_55 : decode cX9_change 55 = .ok (.iload_n 3, 1) := by decide +kernel
theorem dX9_change_56 : decode cX9_change 56 = .ok (.if_icmp .gt 114, 3) := by decide +kernel
theorem dX9_change_59 : decode cX9_change 59 = .ok (.aload_n 0, 1) := by decide +kernel
theorem dX9_change_60 : decode cX9_change 60 = .ok (.iload_n 1, 1) := by decide +kernel
theorem dX9_change_61 : decode cX9_change 61 = .ok (.iload 18, 2) := by decide +kernel
theorem dX9_change_63 : decode cX9_change 63 = .ok (.aload_n 0, 1) := by decide +kernel
theorem dX9_change_64 : decode cX9_change 64 = .ok (.getfield 101, 3) := by decide +kernel
theorem dX9_change_67 : decode cX9_change 67 = .ok (.invokevirtual 113, 3) := by decide +kernel
theorem dX9_change_70 : decode cX9_change 70 = .ok (.istore 19, 2) := by decide +kernel
theorem dX9_change_72 : decode cX9_change 72 = .ok (.lload 10, 2) := by decide +kernel
theorem dX9_change_74 : decode cX9_change 74 = .ok (.iload 19, 2) := by decide +kernel
theorem dX9_change_76 : decode cX9_change 76 = .ok (.ifCond .lt 14, 3) := by decide +kernel
theorem dX9_change_79 : decode cX9_change 79 = .ok (.iload 18, 2) := by decide +kernel
theorem dX9_change_81 : decode cX9_change 81 = .ok (.iload 9, 2) := by decide +kernel
theorem dX9_change_83 : decode cX9_change 83 = .ok (.if_icmp .ge 7, 3) := by decide +kernel
theorem dX9_change_86 : decode cX9_change 86 = .ok (.lconst 1, 1) := by decide +kernel
theorem dX9_change_87 : decode cX9_change 87 = .ok (.goto 4, 3) := by decide +kernel
theorem dX9_change_90 : decode cX9_change 90 = .ok (.lconst 0, 1) := by decide +kernel
theorem dX9_change_91 : decode cX9_change 91 = .ok (.ladd, 1) := by decide +kernel
theorem dX9_change_92 : decode cX9_change 92 = .ok (.lstore 10, 2) := by decide +kernel
theorem dX9_change_94 : decode cX9_change 94 = .ok (.lload 12, 2) := by decide +kernel
theorem dX9_change_96 : decode cX9_change 96 = .ok (.iload 19, 2) := by decide +kernel
theorem dX9_change_98 : decode cX9_change 98 = .ok (.ifCond .lt 14, 3) := by decide +kernel
theorem dX9_change_101 : decode cX9_change 101 = .ok (.iload 18, 2) := by decide +kernel
theorem dX9_change_103 : decode cX9_change 103 = .ok (.iload 9, 2) := by decide +kernel
theorem dX9_change_105 : decode cX9_change 105 = .ok (.if_icmp .lt 7, 3) := by decide +kernel
theorem dX9_change_108 : decode cX9_change 108 = .ok (.lconst 1, 1) := by decide +kernel
theorem dX9_change_109 : decode cX9_change 109 = .ok (.goto 4, 3) := by decide +kernel
theorem dX9_change_112 : decode cX9_change 112 = .ok (.lconst 0, 1) := by decide +kernel
theorem dX9_change_113 : decode cX9_change 113 = .ok (.ladd, 1) := by decide +kernel
theorem dX9_change_114 : decode cX9_change 114 = .ok (.lstore 12, 2) := by decide +kernel
theorem dX9_change_116 : decode cX9_change 116 = .ok (.lload 14, 2) := by decide +kernel
theorem dX9_change_118 : decode cX9_change 118 = .ok (.iload 19, 2) := by decide +kernel
theorem dX9_change_120 : decode cX9_change 120 = .ok (.ifCond .lt 16, 3) := by decide +kernel
theorem dX9_change_123 : decode cX9_change 123 = .ok (.iload 18, 2) := by decide +kernel
theorem dX9_change_125 : decode cX9_change 125 = .ok (.iload 9, 2) := by decide +kernel
theorem dX9_change_127 : decode cX9_change 127 = .ok (.if_icmp .ge 9, 3) := by decide +kernel
theorem dX9_change_130 : decode cX9_change 130 = .ok (.iload 19, 2) := by decide +kernel
theorem dX9_change_132 : decode cX9_change 132 = .ok (.i2l, 1) := by decide +kernel
theorem dX9_change_133 : decode cX9_change 133 = .ok (.goto 4, 3) := by decide +kernel
theorem dX9_change_136 : decode cX9_change 136 = .ok (.lconst 0, 1) := by decide +kernel
theorem dX9_change_137 : decode cX9_change 137 = .ok (.ladd, 1) := by decide +kernel
theorem dX9_change_138 : decode cX9_change 138 = .ok (.lstore 14, 2) := by decide +kernel
theorem dX9_change_140 : decode cX9_change 140 = .ok (.lload 16, 2) := by decide +kernel
theorem dX9_change_142 : decode cX9_change 142 = .ok (.iload 19, 2) := by decide +kernel
theorem dX9_change_144 : decode cX9_change 144 = .ok (.ifCond .lt 16, 3) := by decide +kernel
theorem dX9_change_147 : decode cX9_change 147 = .ok (.iload 18, 2) := by decide +kernel
theorem dX9_change_149 : decode cX9_change 149 = .ok (.iload 9, 2) := by decide +kernel
theorem dX9_change_151 : decode cX9_change 151 = .ok (.if_icmp .lt 9, 3) := by decide +kernel
theorem dX9_change_154 : decode cX9_change 154 = .ok (.iload 19, 2) := by decide +kernel
theorem dX9_change_156 : decode cX9_change 156 = .ok (.i2l, 1) := by decide +kernel
theorem dX9_change_157 : decode cX9_change 157 = .ok (.goto 4, 3) := by decide +kernel
theorem dX9_change_160 : decode cX9_change 160 = .ok (.lconst 0, 1) := by decide +kernel
theorem dX9_change_161 : decode cX9_change 161 = .ok (.ladd, 1) := by decide +kernel
theorem dX9_change_162 : decode cX9_change 162 = .ok (.lstore 16, 2) := by decide +kernel
theorem dX9_change_164 : decode cX9_change 164 = .ok (.iinc 18 1, 3) := by decide +kernel
theorem dX9_change_167 : decode cX9_change 167 = .ok (.goto (-114), 3) := by decide +kernel
theorem dX9_change_170 : decode cX9_change 170 = .ok (.lload 10, 2) := by decide +kernel
theorem dX9_change_172 : decode cX9_change 172 = .ok (.lconst 0, 1) := by decide +kernel
theorem dX9_change_173 : decode cX9_change 173 = .ok (.lcmp, 1) := by decide +kernel
theorem dX9_change_174 : decode cX9_change 174 = .ok (.ifCond .le 79, 3) := by decide +kernel
theorem dX9_change_177 : decode cX9_change 177 = .ok (.lload 12, 2) := by decide +kernel
theorem dX9_change_179 : decode cX9_change 179 = .ok (.lconst 0, 1) := by decide +kernel
theorem dX9_change_180 : decode cX9_change 180 = .ok (.lcmp, 1) := by decide +kernel
theorem dX9_change_181 : decode cX9_change 181 = .ok (.ifCond .le 72, 3) := by decide +kernel
theorem dX9_change_184 : decode cX9_change 184 = .ok (.iload 4, 2) := by decide +kernel
theorem dX9_change_186 : decode cX9_change 186 = .ok (.bipush (-4), 2) := by decide +kernel
theorem dX9_change_188 : decode cX9_change 188 = .ok (.if_icmp .eq 35, 3) := by decide +kernel
theorem dX9_change_191 : decode cX9_change 191 = .ok (.lload 14, 2) := by decide +kernel
theorem dX9_change_193 : decode cX9_change 193 = .ok (.lload 14, 2) := by decide +kernel
theorem dX9_change_195 : decode cX9_change 195 = .ok (.lmul, 1) := by decide +kernel
theorem dX9_change_196 : decode cX9_change 196 = .ok (.lload 12, 2) := by decide +kernel
theorem dX9_change_198 : decode cX9_change 198 = .ok (.lmul, 1) := by decide +kernel
theorem dX9_change_199 : decode cX9_change 199 = .ok (.lload 16, 2) := by decide +kernel
theorem dX9_change_201 : decode cX9_change 201 = .ok (.lload 16, 2) := by decide +kernel
theorem dX9_change_203 : decode cX9_change 203 = .ok (.lmul, 1) := by decide +kernel
theorem dX9_change_204 : decode cX9_change 204 = .ok (.lload 10, 2) := by decide +kernel
theorem dX9_change_206 : decode cX9_change 206 = .ok (.lmul, 1) := by decide +kernel
theorem dX9_change_207 : decode cX9_change 207 = .ok (.ladd, 1) := by decide +kernel
theorem dX9_change_208 : decode cX9_change 208 = .ok (.lload 7, 2) := by decide +kernel
theorem dX9_change_210 : decode cX9_change 210 = .ok (.lmul, 1) := by decide +kernel
theorem dX9_change_211 : decode cX9_change 211 = .ok (.lload 5, 2) := by decide +kernel
theorem dX9_change_213 : decode cX9_change 213 = .ok (.lload 10, 2) := by decide +kernel
theorem dX9_change_215 : decode cX9_change 215 = .ok (.lload 12, 2) := by decide +kernel
theorem dX9_change_217 : decode cX9_change 217 = .ok (.lmul, 1) := by decide +kernel
theorem dX9_change_218 : decode cX9_change 218 = .ok (.lmul, 1) := by decide +kernel
theorem dX9_change_219 : decode cX9_change 219 = .ok (.lcmp, 1) := by decide +kernel
theorem dX9_change_220 : decode cX9_change 220 = .ok (.ifCond .le 33, 3) := by decide +kernel
theorem dX9_change_223 : decode cX9_change 223 = .ok (.iload 9, 2) := by decide +kernel
theorem dX9_change_225 : decode cX9_change 225 = .ok (.istore 4, 2) := by decide +kernel
theorem dX9_change_227 : decode cX9_change 227 = .ok (.lload 14, 2) := by decide +kernel
theorem dX9_change_229 : decode cX9_change 229 = .ok (.lload 14, 2) := by decide +kernel
theorem dX9_change_231 : decode cX9_change 231 = .ok (.lmul, 1) := by decide +kernel
theorem dX9_change_232 : decode cX9_change 232 = .ok (.lload 12, 2) := by decide +kernel
theorem dX9_change_234 : decode cX9_change 234 = .ok (.lmul, 1) := by decide +kernel
theorem dX9_change_235 : decode cX9_change 235 = .ok (.lload 16, 2) := by decide +kernel
theorem dX9_change_237 : decode cX9_change 237 = .ok (.lload 16, 2) := by decide +kernel
theorem dX9_change_239 : decode cX9_change 239 = .ok (.lmul, 1) := by decide +kernel
theorem dX9_change_240 : decode cX9_change 240 = .ok (.lload 10, 2) := by decide +kernel
theorem dX9_change_242 : decode cX9_change 242 = .ok (.lmul, 1) := by decide +kernel
theorem dX9_change_243 : decode cX9_change 243 = .ok (.ladd, 1) := by decide +kernel
theorem dX9_change_244 : decode cX9_change 244 = .ok (.lstore 5, 2) := by decide +kernel
theorem dX9_change_246 : decode cX9_change 246 = .ok (.lload 10, 2) := by decide +kernel
theorem dX9_change_248 : decode cX9_change 248 = .ok (.lload 12, 2) := by decide +kernel
theorem dX9_change_250 : decode cX9_change 250 = .ok (.lmul, 1) := by decide +kernel
theorem dX9_change_251 : decode cX9_change 251 = .ok (.lstore 7, 2) := by decide +kernel
theorem dX9_change_253 : decode cX9_change 253 = .ok (.iinc 9 1, 3) := by decide +kernel
theorem dX9_change_256 : decode cX9_change 256 = .ok (.goto (-224), 3) := by decide +kernel
theorem dX9_change_259 : decode cX9_change 259 = .ok (.iload 4, 2) := by decide +kernel
theorem dX9_change_261 : decode cX9_change 261 = .ok (.ireturn, 1) := by decide +kernel
theorem dX9_note_0 : decode cX9_note 0 = .ok (.iload_n 1, 1) := by decide +kernel
theorem dX9_note_1 : decode cX9_note 1 = .ok (.invokestatic 108, 3) := by decide +kernel
theorem dX9_note_4 : decode cX9_note 4 = .ok (.ifCond .eq 31, 3) := by decide +kernel
theorem dX9_note_7 : decode cX9_note 7 = .ok (.aload_n 0, 1) := by decide +kernel
theorem dX9_note_8 : decode cX9_note 8 = .ok (.iload_n 2, 1) := by decide +kernel
theorem dX9_note_9 : decode cX9_note 9 = .ok (.invokevirtual 184, 3) := by decide +kernel
theorem dX9_note_12 : decode cX9_note 12 = .ok (.ifCond .eq 23, 3) := by decide +kernel
theorem dX9_note_15 : decode cX9_note 15 = .ok (.iload_n 3, 1) := by decide +kernel
theorem dX9_note_16 : decode cX9_note 16 = .ok (.invokestatic 219, 3) := by decide +kernel
theorem dX9_note_19 : decode cX9_note 19 = .ok (.ifCond .eq 16, 3) := by decide +kernel
theorem dX9_note_22 : decode cX9_note 22 = .ok (.iload 4, 2) := by decide +kernel
theorem dX9_note_24 : decode cX9_note 24 = .ok (.i2l, 1) := by decide +kernel
theorem dX9_note_25 : decode cX9_note 25 = .ok (.lconst 0, 1) := by decide +kernel
theorem dX9_note_26 : decode cX9_note 26 = .ok (.ldc2_w 111, 3) := by decide +kernel
theorem dX9_note_29 : decode cX9_note 29 = .ok (.invokestatic 91, 3) := by decide +kernel
theorem dX9_note_32 : decode cX9_note 32 = .ok (.ifCond .ne 5, 3) := by decide +kernel
theorem dX9_note_35 : decode cX9_note 35 = .ok (.iconst (-1), 1) := by decide +kernel
theorem dX9_note_36 : decode cX9_note 36 = .ok (.ireturn, 1) := by decide +kernel
theorem dX9_note_37 : decode cX9_note 37 = .ok (.aload_n 0, 1) := by decide +kernel
theorem dX9_note_38 : decode cX9_note 38 = .ok (.getfield 271, 3) := by decide +kernel
theorem dX9_note_41 : decode cX9_note 41 = .ok (.bipush 24, 2) := by decide +kernel
theorem dX9_note_43 : decode cX9_note 43 = .ok (.if_icmp .ne 6, 3) := by decide +kernel
theorem dX9_note_46 : decode cX9_note 46 = .ok (.bipush (-3), 2) := by decide +kernel
theorem dX9_note_48 : decode cX9_note 48 = .ok (.ireturn, 1) := by decide +kernel
theorem dX9_note_49 : decode cX9_note 49 = .ok (.aload_n 0, 1) := by decide +kernel
theorem dX9_note_50 : decode cX9_note 50 = .ok (.iload_n 2, 1) := by decide +kernel
theorem dX9_note_51 : decode cX9_note 51 = .ok (.iload_n 1, 1) := by decide +kernel
theorem dX9_note_52 : decode cX9_note 52 = .ok (.aload_n 0, 1) := by decide +kernel
theorem dX9_note_53 : decode cX9_note 53 = .ok (.getfield 101, 3) := by decide +kernel
theorem dX9_note_56 : decode cX9_note 56 = .ok (.iload_n 3, 1) := by decide +kernel
theorem dX9_note_57 : decode cX9_note 57 = .ok (.invokevirtual 222, 3) := by decide +kernel
theorem dX9_note_60 : decode cX9_note 60 = .ok (.istore 5, 2) := by decide +kernel
theorem dX9_note_62 : decode cX9_note 62 = .ok (.iload 5, 2) := by decide +kernel
theorem dX9_note_64 : decode cX9_note 64 = .ok (.ifCond .ge 6, 3) := by decide +kernel
theorem dX9_note_67 : decode cX9_note 67 = .ok (.bipush (-4), 2) := by decide +kernel
theorem dX9_note_69 : decode cX9_note 69 = .ok (.ireturn, 1) := by decide +kernel
theorem dX9_note_70 : decode cX9_note 70 = .ok (.aload_n 0, 1) := by decide +kernel
theorem dX9_note_71 : decode cX9_note 71 = .ok (.getfield 59, 3) := by decide +kernel
theorem dX9_note_74 : decode cX9_note 74 = .ok (.aload_n 0, 1) := by decide +kernel
theorem dX9_note_75 : decode cX9_note 75 = .ok (.getfield 271, 3) := by decide +kernel
theorem dX9_note_78 : decode cX9_note 78 = .ok (.iload_n 1, 1) := by decide +kernel
theorem dX9_note_79 : decode cX9_note 79 = .ok (.iastore, 1) := by decide +kernel
theorem dX9_note_80 : decode cX9_note 80 = .ok (.aload_n 0, 1) := by decide +kernel
theorem dX9_note_81 : decode cX9_note 81 = .ok (.getfield 62, 3) := by decide +kernel
theorem dX9_note_84 : decode cX9_note 84 = .ok (.aload_n 0, 1) := by decide +kernel
theorem dX9_note_85 : decode cX9_note 85 = .ok (.getfield 271, 3) := by decide +kernel
theorem dX9_note_88 : decode cX9_note 88 = .ok (.iload_n 2, 1) := by decide +kernel
theorem dX9_note_89 : decode cX9_note 89 = .ok (.iastore, 1) := by decide +kernel
theorem dX9_note_90 : decode cX9_note 90 = .ok (.aload_n 0, 1) := by decide +kernel
theorem dX9_note_91 : decode cX9_note 91 = .ok (.getfield 65, 3) := by decide +kernel
theorem dX9_note_94 : decode cX9_note 94 = .ok (.aload_n 0, 1) := by decide +kernel
theorem dX9_note_95 : decode cX9_note 95 = .ok (.getfield 271, 3) := by decide +kernel
theorem dX9_note_98 : decode cX9_note 98 = .ok (.aload_n 0, 1) := by decide +kernel
theorem dX9_note_99 : decode cX9_note 99 = .ok (.getfield 101, 3) := by decide +kernel
theorem dX9_note_102 : decode cX9_note 102 = .ok (.iastore, 1) := by decide +kernel
theorem dX9_note_103 : decode cX9_note 103 = .ok (.aload_n 0, 1) := by decide +kernel
theorem dX9_note_104 : decode cX9_note 104 = .ok (.getfield 68, 3) := by decide +kernel
theorem dX9_note_107 : decode cX9_note 107 = .ok (.aload_n 0, 1) := by decide +kernel
theorem dX9_note_108 : decode cX9_note 108 = .ok (.getfield 271, 3) := by decide +kernel
theorem dX9_note_111 : decode cX9_note 111 = .ok (.aload_n 0, 1) := by decide +kernel
theorem dX9_note_112 : decode cX9_note 112 = .ok (.getfield 101, 3) := by decide +kernel
theorem dX9_note_115 : decode cX9_note 115 = .ok (.iload_n 3, 1) := by decide +kernel
theorem dX9_note_116 : decode cX9_note 116 = .ok (.iadd, 1) := by decide +kernel
theorem dX9_note_117 : decode cX9_note 117 = .ok (.iastore, 1) := by decide +kernel
theorem dX9_note_118 : decode cX9_note 118 = .ok (.aload_n 0, 1) := by decide +kernel
theorem dX9_note_119 : decode cX9_note 119 = .ok (.getfield 71, 3) := by decide +kernel
theorem dX9_note_122 : decode cX9_note 122 = .ok (.aload_n 0, 1) := by decide +kernel
theorem dX9_note_123 : decode cX9_note 123 = .ok (.getfield 271, 3) := by decide +kernel
theorem dX9_note_126 : decode cX9_note 126 = .ok (.iload 5, 2) := by decide +kernel
theorem dX9_note_128 : decode cX9_note 128 = .ok (.iastore, 1) := by decide +kernel
theorem dX9_note_129 : decode cX9_note 129 = .ok (.aload_n 0, 1) := by decide +kernel
theorem dX9_note_130 : decode cX9_note 130 = .ok (.getfield 74, 3) := by decide +kernel
theorem dX9_note_133 : decode cX9_note 133 = .ok (.aload_n 0, 1) := by decide +kernel
theorem dX9_note_134 : decode cX9_note 134 = .ok (.getfield 271, 3) := by decide +kernel
theorem dX9_note_137 : decode cX9_note 137 = .ok (.iload 4, 2) := by decide +kernel
theorem dX9_note_139 : decode cX9_note 139 = .ok (.iastore, 1) := by decide +kernel
theorem dX9_note_140 : decode cX9_note 140 = .ok (.aload_n 0, 1) := by decide +kernel
theorem dX9_note_141 : decode cX9_note 141 = .ok (.getfield 77, 3) := by decide +kernel
theorem dX9_note_144 : decode cX9_note 144 = .ok (.aload_n 0, 1) := by decide +kernel
theorem dX9_note_145 : decode cX9_note 145 = .ok (.getfield 271, 3) := by decide +kernel
theorem dX9_note_148 : decode cX9_note 148 = .ok (.iconst 0, 1) := by decide +kernel
theorem dX9_note_149 : decode cX9_note 149 = .ok (.iastore, 1) := by decide +kernel
theorem dX9_note_150 : decode cX9_note 150 = .ok (.aload_n 0, 1) := by decide +kernel
theorem dX9_note_151 : decode cX9_note 151 = .ok (.dup, 1) := by decide +kernel
theorem dX9_note_152 : decode cX9_note 152 = .ok (.getfield 271, 3) := by decide +kernel
theorem dX9_note_155 : decode cX9_note 155 = .ok (.iconst 1, 1) := by decide +kernel
theorem dX9_note_156 : decode cX9_note 156 = .ok (.iadd, 1) := by decide +kernel
theorem dX9_note_157 : decode cX9_note 157 = .ok (.putfield 271, 3) := by decide +kernel
theorem dX9_note_160 : decode cX9_note 160 = .ok (.aload_n 0, 1) := by decide +kernel
theorem dX9_note_161 : decode cX9_note 161 = .ok (.getfield 271, 3) := by decide +kernel
theorem dX9_note_164 : decode cX9_note 164 = .ok (.iconst 1, 1) := by decide +kernel
theorem dX9_note_165 : decode cX9_note 165 = .ok (.isub, 1) := by decide +kernel
theorem dX9_note_166 : decode cX9_note 166 = .ok (.ireturn, 1) := by decide +kernel
theorem dX9_cameTo_0 : decode cX9_cameTo 0 = .ok (.aload_n 0, 1) := by decide +kernel
theorem dX9_cameTo_1 : decode cX9_cameTo 1 = .ok (.aload_n 0, 1) := by decide +kernel
theorem dX9_cameTo_2 : decode cX9_cameTo 2 = .ok (.getfield 59, 3) := by decide +kernel
theorem dX9_cameTo_5 : decode cX9_cameTo 5 = .ok (.iload_n 1, 1) := by decide +kernel
theorem dX9_cameTo_6 : decode cX9_cameTo 6 = .ok (.iaload, 1) := by decide +kernel
theorem dX9_cameTo_7 : decode cX9_cameTo 7 = .ok (.aload_n 0, 1) := by decide +kernel
theorem dX9_cameTo_8 : decode cX9_cameTo 8 = .ok (.getfield 68, 3) := by decide +kernel
theorem dX9_cameTo_11 : decode cX9_cameTo 11 = .ok (.iload_n 1, 1) := by decide +kernel
theorem dX9_cameTo_12 : decode cX9_cameTo 12 = .ok (.iaload, 1) := by decide +kernel
theorem dX9_cameTo_13 : decode cX9_cameTo 13 = .ok (.aload_n 0, 1) := by decide +kernel
theorem dX9_cameTo_14 : decode cX9_cameTo 14 = .ok (.getfield 101, 3) := by decide +kernel
theorem dX9_cameTo_17 : decode cX9_cameTo 17 = .ok (.invokevirtual 113, 3) := by decide +kernel
theorem dX9_cameTo_20 : decode cX9_cameTo 20 = .ok (.invokestatic 117, 3) := by decide +kernel
theorem dX9_cameTo_23 : decode cX9_cameTo 23 = .ok (.ireturn, 1) := by decide +kernel
theorem dX9_heldOf_0 : decode cX9_heldOf 0 = .ok (.aload_n 0, 1) := by decide +kernel
theorem dX9_heldOf_1 : decode cX9_heldOf 1 = .ok (.iload_n 1, 1) := by decide +kernel
theorem dX9_heldOf_2 : decode cX9_heldOf 2 = .ok (.invokevirtual 274, 3) := by decide +kernel
theorem dX9_heldOf_5 : decode cX9_heldOf 5 = .ok (.istore_n 2, 1) := by decide +kernel
theorem dX9_heldOf_6 : decode cX9_heldOf 6 = .ok (.iload_n 2, 1) := by decide +kernel
theorem dX9_heldOf_7 : decode cX9_heldOf 7 = .ok (.bipush (-4), 2) := by decide +kernel
theorem dX9_heldOf_9 : decode cX9_heldOf 9 = .ok (.if_icmp .ne 8, 3) := by decide +kernel
theorem dX9_heldOf_12 : decode cX9_heldOf 12 = .ok (.bipush (-4), 2) := by decide +kernel
theorem dX9_heldOf_14 : decode cX9_heldOf 14 = .ok (.goto 28, 3) := by decide +kernel
theorem dX9_heldOf_17 : decode cX9_heldOf 17 = .ok (.iload_n 2, 1) := by decide +kernel
theorem dX9_heldOf_18 : decode cX9_heldOf 18 = .ok (.aload_n 0, 1) := by decide +kernel
theorem dX9_heldOf_19 : decode cX9_heldOf 19 = .ok (.getfield 71, 3) := by decide +kernel
theorem dX9_heldOf_22 : decode cX9_heldOf 22 = .ok (.iload_n 1, 1) := by decide +kernel
theorem dX9_heldOf_23 : decode cX9_heldOf 23 = .ok (.iaload, 1) := by decide +kernel
theorem dX9_heldOf_24 : decode cX9_heldOf 24 = .ok (.isub, 1) := by decide +kernel
theorem dX9_heldOf_25 : decode cX9_heldOf 25 = .ok (.invokestatic 240, 3) := by decide +kernel
theorem dX9_heldOf_28 : decode cX9_heldOf 28 = .ok (.aload_n 0, 1) := by decide +kernel
theorem dX9_heldOf_29 : decode cX9_heldOf 29 = .ok (.getfield 74, 3) := by decide +kernel
theorem dX9_heldOf_32 : decode cX9_heldOf 32 = .ok (.iload_n 1, 1) := by decide +kernel
theorem dX9_heldOf_33 : decode cX9_heldOf 33 = .ok (.iaload, 1) := by decide +kernel
theorem dX9_heldOf_34 : decode cX9_heldOf 34 = .ok (.if_icmp .gt 7, 3) := by decide +kernel
theorem dX9_heldOf_37 : decode cX9_heldOf 37 = .ok (.iconst 1, 1) := by decide +kernel
theorem dX9_heldOf_38 : decode cX9_heldOf 38 = .ok (.goto 4, 3) := by decide +kernel
theorem dX9_heldOf_41 : decode cX9_heldOf 41 = .ok (.iconst 0, 1) := by decide +kernel
theorem dX9_heldOf_42 : decode cX9_heldOf 42 = .ok (.ireturn, 1) := by decide +kernel
theorem dX9_noteOf_0 : decode cX9_noteOf 0 = .ok (.iload_n 1, 1) := by decide +kernel
theorem dX9_noteOf_1 : decode cX9_noteOf 1 = .ok (.i2l, 1) := by decide +kernel
theorem dX9_noteOf_2 : decode cX9_noteOf 2 = .ok (.lconst 0, 1) := by decide +kernel
theorem dX9_noteOf_3 : decode cX9_noteOf 3 = .ok (.aload_n 0, 1) := by decide +kernel
theorem dX9_noteOf_4 : decode cX9_noteOf 4 = .ok (.getfield 271, 3) := by decide +kernel
theorem dX9_noteOf_7 : decode cX9_noteOf 7 = .ok (.iconst 1, 1) := by decide +kernel
theorem dX9_noteOf_8 : decode cX9_noteOf 8 = .ok (.isub, 1) := by decide +kernel
theorem dX9_noteOf_9 : decode cX9_noteOf 9 = .ok (.i2l, 1) := by decide +kernel
theorem dX9_noteOf_10 : decode cX9_noteOf 10 = .ok (.invokestatic 91, 3) := by decide +kernel
theorem dX9_noteOf_13 : decode cX9_noteOf 13 = .ok (.ifCond .ne 5, 3) := by decide +kernel
theorem dX9_noteOf_16 : decode cX9_noteOf 16 = .ok (.iconst (-1), 1) := by decide +kernel
theorem dX9_noteOf_17 : decode cX9_noteOf 17 = .ok (.ireturn, 1) := by decide +kernel
theorem dX9_noteOf_18 : decode cX9_noteOf 18 = .ok (.iload_n 2, 1) := by decide +kernel
theorem dX9_noteOf_19 : decode cX9_noteOf 19 = .ok (.tableswitch 110 0 8 #[49, 56, 63, 70, 77, 84, 91, 97, 103], 49) := by decide +kernel
theorem dX9_noteOf_68 : decode cX9_noteOf 68 = .ok (.aload_n 0, 1) := by decide +kernel
theorem dX9_noteOf_69 : decode cX9_noteOf 69 = .ok (.getfield 59, 3) := by decide +kernel
theorem dX9_noteOf_72 : decode cX9_noteOf 72 = .ok (.iload_n 1, 1) := by decide +kernel
theorem dX9_noteOf_73 : decode cX9_noteOf 73 = .ok (.iaload, 1) := by decide +kernel
theorem dX9_noteOf_74 : decode cX9_noteOf 74 = .ok (.ireturn, 1) := by decide +kernel
theorem dX9_noteOf_75 : decode cX9_noteOf 75 = .ok (.aload_n 0, 1) := by decide +kernel
theorem dX9_noteOf_76 : decode cX9_noteOf 76 = .ok (.getfield 62, 3) := by decide +kernel
theorem dX9_noteOf_79 : decode cX9_noteOf 79 = .ok (.iload_n 1, 1) := by decide +kernel
theorem dX9_noteOf_80 : decode cX9_noteOf 80 = .ok (.iaload, 1) := by decide +kernel
theorem dX9_noteOf_81 : decode cX9_noteOf 81 = .ok (.ireturn, 1) := by decide +kernel
theorem dX9_noteOf_82 : decode cX9_noteOf 82 = .ok (.aload_n 0, 1) := by decide +kernel
theorem dX9_noteOf_83 : decode cX9_noteOf 83 = .ok (.getfield 65, 3) := by decide +kernel
theorem dX9_noteOf_86 : decode cX9_noteOf 86 = .ok (.iload_n 1, 1) := by decide +kernel
theorem dX9_noteOf_87 : decode cX9_noteOf 87 = .ok (.iaload, 1) := by decide +kernel
theorem dX9_noteOf_88 : decode cX9_noteOf 88 = .ok (.ireturn, 1) := by decide +kernel
theorem dX9_noteOf_89 : decode cX9_noteOf 89 = .ok (.aload_n 0, 1) := by decide +kernel
theorem dX9_noteOf_90 : decode cX9_noteOf 90 = .ok (.getfield 68, 3) := by decide +kernel
theorem dX9_noteOf_93 : decode cX9_noteOf 93 = .ok (.iload_n 1, 1) := by decide +kernel
theorem dX9_noteOf_94 : decode cX9_noteOf 94 = .ok (.iaload, 1) := by decide +kernel
theorem dX9_noteOf_95 : decode cX9_noteOf 95 = .ok (.ireturn, 1) := by decide +kernel
theorem dX9_noteOf_96 : decode cX9_noteOf 96 = .ok (.aload_n 0, 1) := by decide +kernel
theorem dX9_noteOf_97 : decode cX9_noteOf 97 = .ok (.getfield 71, 3) := by decide +kernel
theorem dX9_noteOf_100 : decode cX9_noteOf 100 = .ok (.iload_n 1, 1) := by decide +kernel
theorem dX9_noteOf_101 : decode cX9_noteOf 101 = .ok (.iaload, 1) := by decide +kernel
theorem dX9_noteOf_102 : decode cX9_noteOf 102 = .ok (.ireturn, 1) := by decide +kernel
theorem dX9_noteOf_103 : decode cX9_noteOf 103 = .ok (.aload_n 0, 1) := by decide +kernel
theorem dX9_noteOf_104 : decode cX9_noteOf 104 = .ok (.getfield 74, 3) := by decide +kernel
theorem dX9_noteOf_107 : decode cX9_noteOf 107 = .ok (.iload_n 1, 1) := by decide +kernel
theorem dX9_noteOf_108 : decode cX9_noteOf 108 = .ok (.iaload, 1) := by decide +kernel
theorem dX9_noteOf_109 : decode cX9_noteOf 109 = .ok (.ireturn, 1) := by decide +kernel
theorem dX9_noteOf_110 : decode cX9_noteOf 110 = .ok (.aload_n 0, 1) := by decide +kernel
theorem dX9_noteOf_111 : decode cX9_noteOf 111 = .ok (.iload_n 1, 1) := by decide +kernel
theorem dX9_noteOf_112 : decode cX9_noteOf 112 = .ok (.invokevirtual 274, 3) := by decide +kernel
theorem dX9_noteOf_115 : decode cX9_noteOf 115 = .ok (.ireturn, 1) := by decide +kernel
theorem dX9_noteOf_116 : decode cX9_noteOf 116 = .ok (.aload_n 0, 1) := by decide +kernel
theorem dX9_noteOf_117 : decode cX9_noteOf 117 = .ok (.iload_n 1, 1) := by decide +kernel
theorem dX9_noteOf_118 : decode cX9_noteOf 118 = .ok (.invokevirtual 277, 3) := by decide +kernel
theorem dX9_noteOf_121 : decode cX9_noteOf 121 = .ok (.ireturn, 1) := by decide +kernel
theorem dX9_noteOf_122 : decode cX9_noteOf 122 = .ok (.aload_n 0, 1) := by decide +kernel
theorem dX9_noteOf_123 : decode cX9_noteOf 123 = .ok (.getfield 77, 3) := by decide +kernel
theorem dX9_noteOf_126 : decode cX9_noteOf 126 = .ok (.iload_n 1, 1) := by decide +kernel
theorem dX9_noteOf_127 : decode cX9_noteOf 127 = .ok (.iaload, 1) := by decide +kernel
theorem dX9_noteOf_128 : decode cX9_noteOf 128 = .ok (.ireturn, 1) := by decide +kernel
theorem dX9_noteOf_129 : decode cX9_noteOf 129 = .ok (.iconst (-1), 1) := by decide +kernel
theorem dX9_noteOf_130 : decode cX9_noteOf 130 = .ok (.ireturn, 1) := by decide +kernel
theorem dX9_acted_0 : decode cX9_acted 0 = .ok (.iload_n 1, 1) := by decide +kernel
theorem dX9_acted_1 : decode cX9_acted 1 = .ok (.i2l, 1) := by decide +kernel
theorem dX9_acted_2 : decode cX9_acted 2 = .ok (.lconst 0, 1) := by decide +kernel
theorem dX9_acted_3 : decode cX9_acted 3 = .ok (.aload_n 0, 1) := by decide +kernel
theorem dX9_acted_4 : decode cX9_acted 4 = .ok (.getfield 271, 3) := by decide +kernel
theorem dX9_acted_7 : decode cX9_acted 7 = .ok (.iconst 1, 1) := by decide +kernel
theorem dX9_acted_8 : decode cX9_acted 8 = .ok (.isub, 1) := by decide +kernel
theorem dX9_acted_9 : decode cX9_acted 9 = .ok (.i2l, 1) := by decide +kernel
theorem dX9_acted_10 : decode cX9_acted 10 = .ok (.invokestatic 91, 3) := by decide +kernel
theorem dX9_acted_13 : decode cX9_acted 13 = .ok (.ifCond .ne 5, 3) := by decide +kernel
theorem dX9_acted_16 : decode cX9_acted 16 = .ok (.iconst (-1), 1) := by decide +kernel
theorem dX9_acted_17 : decode cX9_acted 17 = .ok (.ireturn, 1) := by decide +kernel
theorem dX9_acted_18 : decode cX9_acted 18 = .ok (.aload_n 0, 1) := by decide +kernel
theorem dX9_acted_19 : decode cX9_acted 19 = .ok (.getfield 77, 3) := by decide +kernel
theorem dX9_acted_22 : decode cX9_acted 22 = .ok (.iload_n 1, 1) := by decide +kernel
theorem dX9_acted_23 : decode cX9_acted 23 = .ok (.iaload, 1) := by decide +kernel
theorem dX9_acted_24 : decode cX9_acted 24 = .ok (.iconst 1, 1) := by decide +kernel
theorem dX9_acted_25 : decode cX9_acted 25 = .ok (.if_icmp .eq 13, 3) := by decide +kernel
theorem dX9_acted_28 : decode cX9_acted 28 = .ok (.aload_n 0, 1) := by decide +kernel
theorem dX9_acted_29 : decode cX9_acted 29 = .ok (.iload_n 1, 1) := by decide +kernel
theorem dX9_acted_30 : decode cX9_acted 30 = .ok (.invokevirtual 274, 3) := by decide +kernel
theorem dX9_acted_33 : decode cX9_acted 33 = .ok (.bipush (-4), 2) := by decide +kernel
theorem dX9_acted_35 : decode cX9_acted 35 = .ok (.if_icmp .eq 6, 3) := by decide +kernel
theorem dX9_acted_38 : decode cX9_acted 38 = .ok (.bipush (-2), 2) := by decide +kernel
theorem dX9_acted_40 : decode cX9_acted 40 = .ok (.ireturn, 1) := by decide +kernel
theorem dX9_acted_41 : decode cX9_acted 41 = .ok (.aload_n 0, 1) := by decide +kernel
theorem dX9_acted_42 : decode cX9_acted 42 = .ok (.getfield 77, 3) := by decide +kernel
theorem dX9_acted_45 : decode cX9_acted 45 = .ok (.iload_n 1, 1) := by decide +kernel
theorem dX9_acted_46 : decode cX9_acted 46 = .ok (.iconst 1, 1) := by decide +kernel
theorem dX9_acted_47 : decode cX9_acted 47 = .ok (.iastore, 1) := by decide +kernel
theorem dX9_acted_48 : decode cX9_acted 48 = .ok (.iconst 1, 1) := by decide +kernel
theorem dX9_acted_49 : decode cX9_acted 49 = .ok (.ireturn, 1) := by decide +kernel
theorem dX9_notes_0 : decode cX9_notes 0 = .ok (.iload_n 1, 1) := by decide +kernel
theorem dX9_notes_1 : decode cX9_notes 1 = .ok (.i2l, 1) := by decide +kernel
theorem dX9_notes_2 : decode cX9_notes 2 = .ok (.lconst 0, 1) := by decide +kernel
theorem dX9_notes_3 : decode cX9_notes 3 = .ok (.ldc2_w 89, 3) := by decide +kernel
theorem dX9_notes_6 : decode cX9_notes 6 = .ok (.invokestatic 91, 3) := by decide +kernel
theorem dX9_notes_9 : decode cX9_notes 9 = .ok (.ifCond .ne 5, 3) := by decide +kernel
theorem dX9_notes_12 : decode cX9_notes 12 = .ok (.iconst (-1), 1) := by decide +kernel
theorem dX9_notes_13 : decode cX9_notes 13 = .ok (.ireturn, 1) := by decide +kernel
theorem dX9_notes_14 : decode cX9_notes 14 = .ok (.iconst 0, 1) := by decide +kernel
theorem dX9_notes_15 : decode cX9_notes 15 = .ok (.istore_n 2, 1) := by decide +kernel
theorem dX9_notes_16 : decode cX9_notes 16 = .ok (.iconst 0, 1) := by decide +kernel
theorem dX9_notes_17 : decode cX9_notes 17 = .ok (.istore_n 3, 1) := by decide +kernel
theorem dX9_notes_18 : decode cX9_notes 18 = .ok (.iload_n 3, 1) := by decide +kernel
theorem dX9_notes_19 : decode cX9_notes 19 = .ok (.aload_n 0, 1) := by decide +kernel
theorem dX9_notes_20 : decode cX9_notes 20 = .ok (.getfield 271, 3) := by decide +kernel
theorem dX9_notes_23 : decode cX9_notes 23 = .ok (.if_icmp .ge 69, 3) := by decide +kernel
theorem dX9_notes_26 : decode cX9_notes 26 = .ok (.aload_n 0, 1) := by decide +kernel
theorem dX9_notes_27 : decode cX9_notes 27 = .ok (.iload_n 3, 1) := by decide +kernel
theorem dX9_notes_28 : decode cX9_notes 28 = .ok (.invokevirtual 277, 3) := by decide +kernel
theorem dX9_notes_31 : decode cX9_notes 31 = .ok (.istore 4, 2) := by decide +kernel
theorem dX9_notes_33 : decode cX9_notes 33 = .ok (.iload 4, 2) := by decide +kernel
theorem dX9_notes_35 : decode cX9_notes 35 = .ok (.bipush (-4), 2) := by decide +kernel
theorem dX9_notes_37 : decode cX9_notes 37 = .ok (.if_icmp .eq 21, 3) := by decide +kernel
theorem dX9_notes_40 : decode cX9_notes 40 = .ok (.iload_n 1, 1) := by decide +kernel
theorem dX9_notes_41 : decode cX9_notes 41 = .ok (.iconst 2, 1) := by decide +kernel
theorem dX9_notes_42 : decode cX9_notes 42 = .ok (.if_icmp .lt 12, 3) := by decide +kernel
theorem dX9_notes_45 : decode cX9_notes 45 = .ok (.aload_n 0, 1) := by decide +kernel
theorem dX9_notes_46 : decode cX9_notes 46 = .ok (.getfield 77, 3) := by decide +kernel
theorem dX9_notes_49 : decode cX9_notes 49 = .ok (.iload_n 3, 1) := by decide +kernel
theorem dX9_notes_50 : decode cX9_notes 50 = .ok (.iaload, 1) := by decide +kernel
theorem dX9_notes_51 : decode cX9_notes 51 = .ok (.ifCond .ne 7, 3) := by decide +kernel
theorem dX9_notes_54 : decode cX9_notes 54 = .ok (.iconst 1, 1) := by decide +kernel
theorem dX9_notes_55 : decode cX9_notes 55 = .ok (.goto 4, 3) := by decide +kernel
theorem dX9_notes_58 : decode cX9_notes 58 = .ok (.iconst 0, 1) := by decide +kernel
theorem dX9_notes_59 : decode cX9_notes 59 = .ok (.istore 5, 2) := by decide +kernel
theorem dX9_notes_61 : decode cX9_notes 61 = .ok (.iload_n 2, 1) := by decide +kernel
theorem dX9_notes_62 : decode cX9_notes 62 = .ok (.iload 5, 2) := by decide +kernel
theorem dX9_notes_64 : decode cX9_notes 64 = .ok (.ifCond .eq 19, 3) := by decide +kernel
theorem dX9_notes_67 : decode cX9_notes 67 = .ok (.iload_n 1, 1) := by decide +kernel
theorem dX9_notes_68 : decode cX9_notes 68 = .ok (.iconst 2, 1) := by decide +kernel
theorem dX9_notes_69 : decode cX9_notes 69 = .ok (.irem, 1) := by decide +kernel
theorem dX9_notes_70 : decode cX9_notes 70 = .ok (.ifCond .eq 9, 3) := by decide +kernel
theorem dX9_notes_73 : decode cX9_notes 73 = .ok (.iload 4, 2) := by decide +kernel
theorem dX9_notes_75 : decode cX9_notes 75 = .ok (.iconst 1, 1) := by decide +kernel
theorem dX9_notes_76 : decode cX9_notes 76 = .ok (.if_icmp .ne 7, 3) := by decide +kernel
theorem dX9_notes_79 : decode cX9_notes 79 = .ok (.iconst 1, 1) := by decide +kernel
theorem dX9_notes_80 : decode cX9_notes 80 = .ok (.goto 4, 3) := by decide +kernel
theorem dX9_notes_83 : decode cX9_notes 83 = .ok (.iconst 0, 1) := by decide +kernel
theorem dX9_notes_84 : decode cX9_notes 84 = .ok (.iadd, 1) := by decide +kernel
theorem dX9_notes_85 : decode cX9_notes 85 = .ok (.istore_n 2, 1) := by decide +kernel
theorem dX9_notes_86 : decode cX9_notes 86 = .ok (.iinc 3 1, 3) := by decide +kernel
theorem dX9_notes_89 : decode cX9_notes 89 = .ok (.goto (-71), 3) := by decide +kernel
theorem dX9_notes_92 : decode cX9_notes 92 = .ok (.iload_n 2, 1) := by decide +kernel
theorem dX9_notes_93 : decode cX9_notes 93 = .ok (.ireturn, 1) := by decide +kernel
theorem dX9_sheet_0 : decode cX9_sheet 0 = .ok (.iload_n 1, 1) := by decide +kernel
theorem dX9_sheet_1 : decode cX9_sheet 1 = .ok (.i2l, 1) := by decide +kernel
theorem dX9_sheet_2 : decode cX9_sheet 2 = .ok (.lconst 0, 1) := by decide +kernel
theorem dX9_sheet_3 : decode cX9_sheet 3 = .ok (.ldc2_w 89, 3) := by decide +kernel
theorem dX9_sheet_6 : decode cX9_sheet 6 = .ok (.invokestatic 91, 3) := by decide +kernel
theorem dX9_sheet_9 : decode cX9_sheet 9 = .ok (.ifCond .eq 21, 3) := by decide +kernel
theorem dX9_sheet_12 : decode cX9_sheet 12 = .ok (.iload_n 2, 1) := by decide +kernel
theorem dX9_sheet_13 : decode cX9_sheet 13 = .ok (.i2l, 1) := by decide +kernel
theorem dX9_sheet_14 : decode cX9_sheet 14 = .ok (.lconst 0, 1) := by decide +kernel
theorem dX9_sheet_15 : decode cX9_sheet 15 = .ok (.ldc2_w 249, 3) := by decide +kernel
theorem dX9_sheet_18 : decode cX9_sheet 18 = .ok (.invokestatic 91, 3) := by decide +kernel
theorem dX9_sheet_21 : decode cX9_sheet 21 = .ok (.ifCond .eq 9, 3) := by decide +kernel
theorem dX9_sheet_24 : decode cX9_sheet 24 = .ok (.iload_n 3, 1) := by decide +kernel
theorem dX9_sheet_25 : decode cX9_sheet 25 = .ok (.bipush 64, 2) := by decide +kernel
theorem dX9_sheet_27 : decode cX9_sheet 27 = .ok (.if_icmp .le 5, 3) := by decide +kernel
theorem dX9_sheet_30 : decode cX9_sheet 30 = .ok (.iconst (-1), 1) := by decide +kernel
theorem dX9_sheet_31 : decode cX9_sheet 31 = .ok (.ireturn, 1) := by decide +kernel
theorem dX9_sheet_32 : decode cX9_sheet 32 = .ok (.iload_n 3, 1) := by decide +kernel
theorem dX9_sheet_33 : decode cX9_sheet 33 = .ok (.ifCond .ge 6, 3) := by decide +kernel
theorem dX9_sheet_36 : decode cX9_sheet 36 = .ok (.bipush (-14), 2) := by decide +kernel
theorem dX9_sheet_38 : decode cX9_sheet 38 = .ok (.ireturn, 1) := by decide +kernel
theorem dX9_sheet_39 : decode cX9_sheet 39 = .ok (.aload_n 0, 1) := by decide +kernel
theorem dX9_sheet_40 : decode cX9_sheet 40 = .ok (.getfield 80, 3) := by decide +kernel
theorem dX9_sheet_43 : decode cX9_sheet 43 = .ok (.iload_n 1, 1) := by decide +kernel
theorem dX9_sheet_44 : decode cX9_sheet 44 = .ok (.iload_n 2, 1) := by decide +kernel
theorem dX9_sheet_45 : decode cX9_sheet 45 = .ok (.iastore, 1) := by decide +kernel
theorem dX9_sheet_46 : decode cX9_sheet 46 = .ok (.aload_n 0, 1) := by decide +kernel
theorem dX9_sheet_47 : decode cX9_sheet 47 = .ok (.getfield 83, 3) := by decide +kernel
theorem dX9_sheet_50 : decode cX9_sheet 50 = .ok (.iload_n 1, 1) := by decide +kernel
theorem dX9_sheet_51 : decode cX9_sheet 51 = .ok (.iload_n 3, 1) := by decide +kernel
theorem dX9_sheet_52 : decode cX9_sheet 52 = .ok (.iastore, 1) := by decide +kernel
theorem dX9_sheet_53 : decode cX9_sheet 53 = .ok (.iconst 0, 1) := by decide +kernel
theorem dX9_sheet_54 : decode cX9_sheet 54 = .ok (.istore 4, 2) := by decide +kernel
theorem dX9_sheet_56 : decode cX9_sheet 56 = .ok (.iload 4, 2) := by decide +kernel
theorem dX9_sheet_58 : decode cX9_sheet 58 = .ok (.bipush 64, 2) := by decide +kernel
theorem dX9_sheet_60 : decode cX9_sheet 60 = .ok (.if_icmp .ge 22, 3) := by decide +kernel
theorem dX9_sheet_63 : decode cX9_sheet 63 = .ok (.aload_n 0, 1) := by decide +kernel
theorem dX9_sheet_64 : decode cX9_sheet 64 = .ok (.getfield 86, 3) := by decide +kernel
theorem dX9_sheet_67 : decode cX9_sheet 67 = .ok (.bipush 64, 2) := by decide +kernel
theorem dX9_sheet_69 : decode cX9_sheet 69 = .ok (.iload_n 1, 1) := by decide +kernel
theorem dX9_sheet_70 : decode cX9_sheet 70 = .ok (.imul, 1) := by decide +kernel
theorem dX9_sheet_71 : decode cX9_sheet 71 = .ok (.iload 4, 2) := by decide +kernel
theorem dX9_sheet_73 : decode cX9_sheet 73 = .ok (.iadd, 1) := by decide +kernel
theorem dX9_sheet_74 : decode cX9_sheet 74 = .ok (.iconst 0, 1) := by decide +kernel
theorem dX9_sheet_75 : decode cX9_sheet 75 = .ok (.iastore, 1) := by decide +kernel
theorem dX9_sheet_76 : decode cX9_sheet 76 = .ok (.iinc 4 1, 3) := by decide +kernel
theorem dX9_sheet_79 : decode cX9_sheet 79 = .ok (.goto (-23), 3) := by decide +kernel
theorem dX9_sheet_82 : decode cX9_sheet 82 = .ok (.iconst 1, 1) := by decide +kernel
theorem dX9_sheet_83 : decode cX9_sheet 83 = .ok (.ireturn, 1) := by decide +kernel
theorem dX9_lay_0 : decode cX9_lay 0 = .ok (.iload_n 1, 1) := by decide +kernel
theorem dX9_lay_1 : decode cX9_lay 1 = .ok (.i2l, 1) := by decide +kernel
theorem dX9_lay_2 : decode cX9_lay 2 = .ok (.lconst 0, 1) := by decide +kernel
theorem dX9_lay_3 : decode cX9_lay 3 = .ok (.ldc2_w 89, 3) := by decide +kernel
theorem dX9_lay_6 : decode cX9_lay 6 = .ok (.invokestatic 91, 3) := by decide +kernel
theorem dX9_lay_9 : decode cX9_lay 9 = .ok (.ifCond .ne 5, 3) := by decide +kernel
theorem dX9_lay_12 : decode cX9_lay 12 = .ok (.iconst (-1), 1) := by decide +kernel
theorem dX9_lay_13 : decode cX9_lay 13 = .ok (.ireturn, 1) := by decide +kernel
theorem dX9_lay_14 : decode cX9_lay 14 = .ok (.aload_n 0, 1) := by decide +kernel
theorem dX9_lay_15 : decode cX9_lay 15 = .ok (.getfield 80, 3) := by decide +kernel
theorem dX9_lay_18 : decode cX9_lay 18 = .ok (.iload_n 1, 1) := by decide +kernel
theorem dX9_lay_19 : decode cX9_lay 19 = .ok (.iaload, 1) := by decide +kernel
theorem dX9_lay_20 : decode cX9_lay 20 = .ok (.bipush (-4), 2) := by decide +kernel
theorem dX9_lay_22 : decode cX9_lay 22 = .ok (.if_icmp .ne 6, 3) := by decide +kernel
theorem dX9_lay_25 : decode cX9_lay 25 = .ok (.bipush (-11), 2) := by decide +kernel
theorem dX9_lay_27 : decode cX9_lay 27 = .ok (.ireturn, 1) := by decide +kernel
theorem dX9_lay_28 : decode cX9_lay 28 = .ok (.iload_n 2, 1) := by decide +kernel
theorem dX9_lay_29 : decode cX9_lay 29 = .ok (.i2l, 1) := by decide +kernel
theorem dX9_lay_30 : decode cX9_lay 30 = .ok (.lconst 0, 1) := by decide +kernel
theorem dX9_lay_31 : decode cX9_lay 31 = .ok (.aload_n 0, 1) := by decide +kernel
theorem dX9_lay_32 : decode cX9_lay 32 = .ok (.getfield 83, 3) := by decide +kernel
theorem dX9_lay_35 : decode cX9_lay 35 = .ok (.iload_n 1, 1) := by decide +kernel
theorem dX9_lay_36 : decode cX9_lay 36 = .ok (.iaload, 1) := by decide +kernel
theorem dX9_lay_37 : decode cX9_lay 37 = .ok (.iconst 1, 1) := by decide +kernel
theorem dX9_lay_38 : decode cX9_lay 38 = .ok (.isub, 1) := by decide +kernel
theorem dX9_lay_39 : decode cX9_lay 39 = .ok (.i2l, 1) := by decide +kernel
theorem dX9_lay_40 : decode cX9_lay 40 = .ok (.invokestatic 91, 3) := by decide +kernel
theorem dX9_lay_43 : decode cX9_lay 43 = .ok (.ifCond .ne 6, 3) := by decide +kernel
theorem dX9_lay_46 : decode cX9_lay 46 = .ok (.bipush (-12), 2) := by decide +kernel
theorem dX9_lay_48 : decode cX9_lay 48 = .ok (.ireturn, 1) := by decide +kernel
theorem dX9_lay_49 : decode cX9_lay 49 = .ok (.aload_n 0, 1) := by decide +kernel
theorem dX9_lay_50 : decode cX9_lay 50 = .ok (.getfield 86, 3) := by decide +kernel
theorem dX9_lay_53 : decode cX9_lay 53 = .ok (.bipush 64, 2) := by decide +kernel
theorem dX9_lay_55 : decode cX9_lay 55 = .ok (.iload_n 1, 1) := by decide +kernel
theorem dX9_lay_56 : decode cX9_lay 56 = .ok (.imul, 1) := by decide +kernel
theorem dX9_lay_57 : decode cX9_lay 57 = .ok (.iload_n 2, 1) := by decide +kernel
theorem dX9_lay_58 : decode cX9_lay 58 = .ok (.iadd, 1) := by decide +kernel
theorem dX9_lay_59 : decode cX9_lay 59 = .ok (.aload_n 0, 1) := by decide +kernel
theorem dX9_lay_60 : decode cX9_lay 60 = .ok (.getfield 80, 3) := by decide +kernel
theorem dX9_lay_63 : decode cX9_lay 63 = .ok (.iload_n 1, 1) := by decide +kernel
theorem dX9_lay_64 : decode cX9_lay 64 = .ok (.iaload, 1) := by decide +kernel
theorem dX9_lay_65 : decode cX9_lay 65 = .ok (.ifCond .ne 13, 3) := by decide +kernel
theorem dX9_lay_68 : decode cX9_lay 68 = .ok (.iload_n 3, 1) := by decide +kernel
theorem dX9_lay_69 : decode cX9_lay 69 = .ok (.bipush 24, 2) := by decide +kernel
theorem dX9_lay_71 : decode cX9_lay 71 = .ok (.ishl, 1) := by decide +kernel
theorem dX9_lay_72 : decode cX9_lay 72 = .ok (.bipush 24, 2) := by decide +kernel
theorem dX9_lay_74 : decode cX9_lay 74 = .ok (.ishr, 1) := by decide +kernel
theorem dX9_lay_75 : decode cX9_lay 75 = .ok (.goto 24, 3) := by decide +kernel
theorem dX9_lay_78 : decode cX9_lay 78 = .ok (.aload_n 0, 1) := by decide +kernel
theorem dX9_lay_79 : decode cX9_lay 79 = .ok (.getfield 80, 3) := by decide +kernel
theorem dX9_lay_82 : decode cX9_lay 82 = .ok (.iload_n 1, 1) := by decide +kernel
theorem dX9_lay_83 : decode cX9_lay 83 = .ok (.iaload, 1) := by decide +kernel
theorem dX9_lay_84 : decode cX9_lay 84 = .ok (.iconst 1, 1) := by decide +kernel
theorem dX9_lay_85 : decode cX9_lay 85 = .ok (.if_icmp .ne 13, 3) := by decide +kernel
theorem dX9_lay_88 : decode cX9_lay 88 = .ok (.iload_n 3, 1) := by decide +kernel
theorem dX9_lay_89 : decode cX9_lay 89 = .ok (.bipush 16, 2) := by decide +kernel
theorem dX9_lay_91 : decode cX9_lay 91 = .ok (.ishl, 1) := by decide +kernel
theorem dX9_lay_92 : decode cX9_lay 92 = .ok (.bipush 16, 2) := by decide +kernel
theorem dX9_lay_94 : decode cX9_lay 94 = .ok (.ishr, 1) := by decide +kernel
theorem dX9_lay_95 : decode cX9_lay 95 = .ok (.goto 4, 3) := by decide +kernel
theorem dX9_lay_98 : decode cX9_lay 98 = .ok (.iload_n 3, 1) := by decide +kernel
theorem dX9_lay_99 : decode cX9_lay 99 = .ok (.iastore, 1) := by decide +kernel
theorem dX9_lay_100 : decode cX9_lay 100 = .ok (.iconst 1, 1) := by decide +kernel
theorem dX9_lay_101 : decode cX9_lay 101 = .ok (.ireturn, 1) := by decide +kernel
theorem dX9_read_0 : decode cX9_read 0 = .ok (.iload_n 1, 1) := by decide +kernel
theorem dX9_read_1 : decode cX9_read 1 = .ok (.invokestatic 108, 3) := by decide +kernel
theorem dX9_read_4 : decode cX9_read 4 = .ok (.ifCond .eq 61, 3) := by decide +kernel
theorem dX9_read_7 : decode cX9_read 7 = .ok (.iload_n 2, 1) := by decide +kernel
theorem dX9_read_8 : decode cX9_read 8 = .ok (.invokestatic 97, 3) := by decide +kernel
theorem dX9_read_11 : decode cX9_read 11 = .ok (.ifCond .eq 54, 3) := by decide +kernel
theorem dX9_read_14 : decode cX9_read 14 = .ok (.iload_n 3, 1) := by decide +kernel
theorem dX9_read_15 : decode cX9_read 15 = .ok (.i2l, 1) := by decide +kernel
theorem dX9_read_16 : decode cX9_read 16 = .ok (.lconst 0, 1) := by decide +kernel
theorem dX9_read_17 : decode cX9_read 17 = .ok (.ldc2_w 89, 3) := by decide +kernel
theorem dX9_read_20 : decode cX9_read 20 = .ok (.invokestatic 91, 3) := by decide +kernel
theorem dX9_read_23 : decode cX9_read 23 = .ok (.ifCond .eq 42, 3) := by decide +kernel
theorem dX9_read_26 : decode cX9_read 26 = .ok (.iload 4, 2) := by decide +kernel
theorem dX9_read_28 : decode cX9_read 28 = .ok (.i2l, 1) := by decide +kernel
theorem dX9_read_29 : decode cX9_read 29 = .ok (.lconst 0, 1) := by decide +kernel
theorem dX9_read_30 : decode cX9_read 30 = .ok (.ldc2_w 249, 3) := by decide +kernel
theorem dX9_read_33 : decode cX9_read 33 = .ok (.invokestatic 91, 3) := by decide +kernel
theorem dX9_read_36 : decode cX9_read 36 = .ok (.ifCond .eq 29, 3) := by decide +kernel
theorem dX9_read_39 : decode cX9_read 39 = .ok (.iload 6, 2) := by decide +kernel
theorem dX9_read_41 : decode cX9_read 41 = .ok (.i2l, 1) := by decide +kernel
theorem dX9_read_42 : decode cX9_read 42 = .ok (.lconst 0, 1) := by decide +kernel
theorem dX9_read_43 : decode cX9_read 43 = .ok (.ldc2_w 280, 3) := by decide +kernel
theorem dX9_read_46 : decode cX9_read 46 = .ok (.invokestatic 91, 3) := by decide +kernel
theorem dX9_read_49 : decode cX9_read 49 = .ok (.ifCond .eq 16, 3) := by decide +kernel
theorem dX9_read_52 : decode cX9_read 52 = .ok (.iload_n 2, 1) := by decide +kernel
theorem dX9_read_53 : decode cX9_read 53 = .ok (.iload 6, 2) := by decide +kernel
theorem dX9_read_55 : decode cX9_read 55 = .ok (.iadd, 1) := by decide +kernel
theorem dX9_read_56 : decode cX9_read 56 = .ok (.iconst 1, 1) := by decide +kernel
theorem dX9_read_57 : decode cX9_read 57 = .ok (.isub, 1) := by decide +kernel
theorem dX9_read_58 : decode cX9_read 58 = .ok (.aload_n 0, 1) := by decide +kernel
theorem dX9_read_59 : decode cX9_read 59 = .ok (.getfield 101, 3) := by decide +kernel
theorem dX9_read_62 : decode cX9_read 62 = .ok (.if_icmp .le 5, 3) := by decide +kernel
theorem dX9_read_65 : decode cX9_read 65 = .ok (.iconst (-1), 1) := by decide +kernel
theorem dX9_read_66 : decode cX9_read 66 = .ok (.ireturn, 1) := by decide +kernel
theorem dX9_read_67 : decode cX9_read 67 = .ok (.iconst 0, 1) := by decide +kernel
theorem dX9_read_68 : decode cX9_read 68 = .ok (.istore 7, 2) := by decide +kernel
theorem dX9_read_70 : decode cX9_read 70 = .ok (.iload 6, 2) := by decide +kernel
theorem dX9_read_72 : decode cX9_read 72 = .ok (.istore 8, 2) := by decide +kernel
theorem dX9_read_74 : decode cX9_read 74 = .ok (.iconst 0, 1) := by decide +kernel
theorem dX9_read_75 : decode cX9_read 75 = .ok (.istore 9, 2) := by decide +kernel
theorem dX9_read_77 : decode cX9_read 77 = .ok (.iconst 0, 1) := by decide +kernel
theorem dX9_read_78 : decode cX9_read 78 = .ok (.istore 10, 2) := by decide +kernel
theorem dX9_read_80 : decode cX9_read 80 = .ok (.iload 10, 2) := by decide +kernel
theorem dX9_read_82 : decode cX9_read 82 = .ok (.iload 6, 2) := by decide +kernel
theorem dX9_read_84 : decode cX9_read 84 = .ok (.if_icmp .ge 170, 3) := by decide +kernel
theorem dX9_read_87 : decode cX9_read 87 = .ok (.iload 7, 2) := by decide +kernel
theorem dX9_read_89 : decode cX9_read 89 = .ok (.ifCond .ne 165, 3) := by decide +kernel
theorem dX9_read_92 : decode cX9_read 92 = .ok (.aload_n 0, 1) := by decide +kernel
theorem dX9_read_93 : decode cX9_read 93 = .ok (.getfield 80, 3) := by decide +kernel
theorem dX9_read_96 : decode cX9_read 96 = .ok (.iload_n 3, 1) := by decide +kernel
theorem dX9_read_97 : decode cX9_read 97 = .ok (.iaload, 1) := by decide +kernel
theorem dX9_read_98 : decode cX9_read 98 = .ok (.bipush (-4), 2) := by decide +kernel
theorem dX9_read_100 : decode cX9_read 100 = .ok (.if_icmp .ne 7, 3) := by decide +kernel
theorem dX9_read_103 : decode cX9_read 103 = .ok (.iconst 1, 1) := by decide +kernel
theorem dX9_read_104 : decode cX9_read 104 = .ok (.goto 46, 3) := by decide +kernel
theorem dX9_read_107 : decode cX9_read 107 = .ok (.aload_n 0, 1) := by decide +kernel
theorem dX9_read_108 : decode cX9_read 108 = .ok (.getfield 80, 3) := by decide +kernel
theorem dX9_read_111 : decode cX9_read 111 = .ok (.iload_n 3, 1) := by decide +kernel
theorem dX9_read_112 : decode cX9_read 112 = .ok (.iaload, 1) := by decide +kernel
theorem dX9_read_113 : decode cX9_read 113 = .ok (.iload 4, 2) := by decide +kernel
theorem dX9_read_115 : decode cX9_read 115 = .ok (.if_icmp .eq 7, 3) := by decide +kernel
theorem dX9_read_118 : decode cX9_read 118 = .ok (.iconst 3, 1) := by decide +kernel
theorem dX9_read_119 : decode cX9_read 119 = .ok (.goto 31, 3) := by decide +kernel
theorem dX9_read_122 : decode cX9_read 122 = .ok (.iload 5, 2) := by decide +kernel
theorem dX9_read_124 : decode cX9_read 124 = .ok (.i2l, 1) := by decide +kernel
theorem dX9_read_125 : decode cX9_read 125 = .ok (.iload 10, 2) := by decide +kernel
theorem dX9_read_127 : decode cX9_read 127 = .ok (.i2l, 1) := by decide +kernel
theorem dX9_read_128 : decode cX9_read 128 = .ok (.ladd, 1) := by decide +kernel
theorem dX9_read_129 : decode cX9_read 129 = .ok (.lconst 0, 1) := by decide +kernel
theorem dX9_read_130 : decode cX9_read 130 = .ok (.aload_n 0, 1) := by decide +kernel
theorem dX9_read_131 : decode cX9_read 131 = .ok (.getfield 83, 3) := by decide +kernel
theorem dX9_read_134 : decode cX9_read 134 = .ok (.iload_n 3, 1) := by decide +kernel
theorem dX9_read_135 : decode cX9_read 135 = .ok (.iaload, 1) := by decide +kernel
theorem dX9_read_136 : decode cX9_read 136 = .ok (.iconst 1, 1) := by decide +kernel
theorem dX9_read_137 : decode cX9_read 137 = .ok (.isub, 1) := by decide +kernel
theorem dX9_read_138 : decode cX9_read 138 = .ok (.i2l, 1) := by decide +kernel
theorem dX9_read_139 : decode cX9_read 139 = .ok (.invokestatic 91, 3) := by decide +kernel
theorem dX9_read_142 : decode cX9_read 142 = .ok (.ifCond .ne 7, 3) := by decide +kernel
theorem dX9_read_145 : decode cX9_read 145 = .ok (.iconst 2, 1) := by decide +kernel
theorem dX9_read_146 : decode cX9_read 146 = .ok (.goto 4, 3) := by decide +kernel
theorem dX9_read_149 : decode cX9_read 149 = .ok (.iconst 0, 1) := by decide +kernel
theorem dX9_read_150 : decode cX9_read 150 = .ok (.istore 7, 2) := by decide +kernel
theorem dX9_read_152 : decode cX9_read 152 = .ok (.iload 7, 2) := by decide +kernel
theorem dX9_read_154 : decode cX9_read 154 = .ok (.ifCond .le 10, 3) := by decide +kernel
theorem dX9_read_157 : decode cX9_read 157 = .ok (.iload 10, 2) := by decide +kernel
theorem dX9_read_159 : decode cX9_read 159 = .ok (.istore 8, 2) := by decide +kernel
theorem dX9_read_161 : decode cX9_read 161 = .ok (.goto 87, 3) := by decide +kernel
theorem dX9_read_164 : decode cX9_read 164 = .ok (.aload_n 0, 1) := by decide +kernel
theorem dX9_read_165 : decode cX9_read 165 = .ok (.getfield 86, 3) := by decide +kernel
theorem dX9_read_168 : decode cX9_read 168 = .ok (.bipush 64, 2) := by decide +kernel
theorem dX9_read_170 : decode cX9_read 170 = .ok (.iload_n 3, 1) := by decide +kernel
theorem dX9_read_171 : decode cX9_read 171 = .ok (.imul, 1) := by decide +kernel
theorem dX9_read_172 : decode cX9_read 172 = .ok (.iload 5, 2) := by decide +kernel
theorem dX9_read_174 : decode cX9_read 174 = .ok (.iadd, 1) := by decide +kernel
theorem dX9_read_175 : decode cX9_read 175 = .ok (.iload 10, 2) := by decide +kernel
theorem dX9_read_177 : decode cX9_read 177 = .ok (.iadd, 1) := by decide +kernel
theorem dX9_read_178 : decode cX9_read 178 = .ok (.iaload, 1) := by decide +kernel
theorem dX9_read_179 : decode cX9_read 179 = .ok (.istore 11, 2) := by decide +kernel
theorem dX9_read_181 : decode cX9_read 181 = .ok (.iload 11, 2) := by decide +kernel
theorem dX9_read_183 : decode cX9_read 183 = .ok (.sipush 999, 3) := by decide +kernel
theorem dX9_read_186 : decode cX9_read 186 = .ok (.if_icmp .le 9, 3) := by decide +kernel
theorem dX9_read_189 : decode cX9_read 189 = .ok (.bipush (-20), 2) := by decide +kernel
theorem dX9_read_191 : decode cX9_read 191 = .ok (.iload 10, 2) := by decide +kernel
theorem dX9_read_193 : decode cX9_read 193 = .ok (.isub, 1) := by decide +kernel
theorem dX9_read_194 : decode cX9_read 194 = .ok (.ireturn, 1) := by decide +kernel
theorem dX9_read_195 : decode cX9_read 195 = .ok (.iload 9, 2) := by decide +kernel
theorem dX9_read_197 : decode cX9_read 197 = .ok (.iload 11, 2) := by decide +kernel
theorem dX9_read_199 : decode cX9_read 199 = .ok (.ifCond .ge 7, 3) := by decide +kernel
theorem dX9_read_202 : decode cX9_read 202 = .ok (.iconst (-1), 1) := by decide +kernel
theorem dX9_read_203 : decode cX9_read 203 = .ok (.goto 5, 3) := by decide +kernel
theorem dX9_read_206 : decode cX9_read 206 = .ok (.iload 11, 2) := by decide +kernel
theorem dX9_read_208 : decode cX9_read 208 = .ok (.aload_n 0, 1) := by decide +kernel
theorem dX9_read_209 : decode cX9_read 209 = .ok (.iload_n 1, 1) := by decide +kernel
theorem dX9_read_210 : decode cX9_read 210 = .ok (.iload_n 2, 1) := by decide +kernel
theorem dX9_read_211 : decode cX9_read 211 = .ok (.iload 10, 2) := by decide +kernel
theorem dX9_read_213 : decode cX9_read 213 = .ok (.iadd, 1) := by decide +kernel
theorem dX9_read_214 : decode cX9_read 214 = .ok (.aload_n 0, 1) := by decide +kernel
theorem dX9_read_215 : decode cX9_read 215 = .ok (.getfield 101, 3) := by decide +kernel
theorem dX9_read_218 : decode cX9_read 218 = .ok (.invokevirtual 113, 3) := by decide +kernel
theorem dX9_read_221 : decode cX9_read 221 = .ok (.if_icmp .eq 7, 3) := by decide +kernel
theorem dX9_read_224 : decode cX9_read 224 = .ok (.iconst 1, 1) := by decide +kernel
theorem dX9_read_225 : decode cX9_read 225 = .ok (.goto 4, 3) := by decide +kernel
theorem dX9_read_228 : decode cX9_read 228 = .ok (.iconst 0, 1) := by decide +kernel
theorem dX9_read_229 : decode cX9_read 229 = .ok (.iadd, 1) := by decide +kernel
theorem dX9_read_230 : decode cX9_read 230 = .ok (.istore 9, 2) := by decide +kernel
theorem dX9_read_232 : decode cX9_read 232 = .ok (.aload_n 0, 1) := by decide +kernel
theorem dX9_read_233 : decode cX9_read 233 = .ok (.getfield 105, 3) := by decide +kernel
theorem dX9_read_236 : decode cX9_read 236 = .ok (.iload 9, 2) := by decide +kernel
theorem dX9_read_238 : decode cX9_read 238 = .ok (.iadd, 1) := by decide +kernel
theorem dX9_read_239 : decode cX9_read 239 = .ok (.sipush 200, 3) := by decide +kernel
theorem dX9_read_242 : decode cX9_read 242 = .ok (.if_icmp .le 6, 3) := by decide +kernel
theorem dX9_read_245 : decode cX9_read 245 = .ok (.bipush (-3), 2) := by decide +kernel
theorem dX9_read_247 : decode cX9_read 247 = .ok (.ireturn, 1) := by decide +kernel
theorem dX9_read_248 : decode cX9_read 248 = .ok (.iinc 10 1, 3) := by decide +kernel
theorem dX9_read_251 : decode cX9_read 251 = .ok (.goto (-171), 3) := by decide +kernel
theorem dX9_read_254 : decode cX9_read 254 = .ok (.iconst 0, 1) := by decide +kernel
theorem dX9_read_255 : decode cX9_read 255 = .ok (.istore 10, 2) := by decide +kernel
theorem dX9_read_257 : decode cX9_read 257 = .ok (.iload 10, 2) := by decide +kernel
theorem dX9_read_259 : decode cX9_read 259 = .ok (.iload 8, 2) := by decide +kernel
theorem dX9_read_261 : decode cX9_read 261 = .ok (.if_icmp .ge 77, 3) := by decide +kernel
theorem dX9_read_264 : decode cX9_read 264 = .ok (.aload_n 0, 1) := by decide +kernel
theorem dX9_read_265 : decode cX9_read 265 = .ok (.getfield 86, 3) := by decide +kernel
theorem dX9_read_268 : decode cX9_read 268 = .ok (.bipush 64, 2) := by decide +kernel
theorem dX9_read_270 : decode cX9_read 270 = .ok (.iload_n 3, 1) := by decide +kernel
theorem dX9_read_271 : decode cX9_read 271 = .ok (.imul, 1) := by decide +kernel
theorem dX9_read_272 : decode cX9_read 272 = .ok (.iload 5, 2) := by decide +kernel
theorem dX9_read_274 : decode cX9_read 274 = .ok (.iadd, 1) := by decide +kernel
theorem dX9_read_275 : decode cX9_read 275 = .ok (.iload 10, 2) := by decide +kernel
theorem dX9_read_277 : decode cX9_read 277 = .ok (.iadd, 1) := by decide +kernel
theorem dX9_read_278 : decode cX9_read 278 = .ok (.iaload, 1) := by decide +kernel
theorem dX9_read_279 : decode cX9_read 279 = .ok (.ifCond .ge 7, 3) := by decide +kernel
theorem dX9_read_282 : decode cX9_read 282 = .ok (.iconst (-1), 1) := by decide +kernel
theorem dX9_read_283 : decode cX9_read 283 = .ok (.goto 18, 3) := by decide +kernel
theorem dX9_read_286 : decode cX9_read 286 = .ok (.aload_n 0, 1) := by decide +kernel
theorem dX9_read_287 : decode cX9_read 287 = .ok (.getfield 86, 3) := by decide +kernel
theorem dX9_read_290 : decode cX9_read 290 = .ok (.bipush 64, 2) := by decide +kernel
theorem dX9_read_292 : decode cX9_read 292 = .ok (.iload_n 3, 1) := by decide +kernel
theorem dX9_read_293 : decode cX9_read 293 = .ok (.imul, 1) := by decide +kernel
theorem dX9_read_294 : decode cX9_read 294 = .ok (.iload 5, 2) := by decide +kernel
theorem dX9_read_296 : decode cX9_read 296 = .ok (.iadd, 1) := by decide +kernel
theorem dX9_read_297 : decode cX9_read 297 = .ok (.iload 10, 2) := by decide +kernel
theorem dX9_read_299 : decode cX9_read 299 = .ok (.iadd, 1) := by decide +kernel
theorem dX9_read_300 : decode cX9_read 300 = .ok (.iaload, 1) := by decide +kernel
theorem dX9_read_301 : decode cX9_read 301 = .ok (.istore 11, 2) := by decide +kernel
theorem dX9_read_303 : decode cX9_read 303 = .ok (.iload 11, 2) := by decide +kernel
theorem dX9_read_305 : decode cX9_read 305 = .ok (.aload_n 0, 1) := by decide +kernel
theorem dX9_read_306 : decode cX9_read 306 = .ok (.iload_n 1, 1) := by decide +kernel
theorem dX9_read_307 : decode cX9_read 307 = .ok (.iload_n 2, 1) := by decide +kernel
theorem dX9_read_308 : decode cX9_read 308 = .ok (.iload 10, 2) := by decide +kernel
theorem dX9_read_310 : decode cX9_read 310 = .ok (.iadd, 1) := by decide +kernel
theorem dX9_read_311 : decode cX9_read 311 = .ok (.aload_n 0, 1) := by decide +kernel
theorem dX9_read_312 : decode cX9_read 312 = .ok (.getfield 101, 3) := by decide +kernel
theorem dX9_read_315 : decode cX9_read 315 = .ok (.invokevirtual 113, 3) := by decide +kernel
theorem dX9_read_318 : decode cX9_read 318 = .ok (.if_icmp .eq 14, 3) := by decide +kernel
theorem dX9_read_321 : decode cX9_read 321 = .ok (.aload_n 0, 1) := by decide +kernel
theorem dX9_read_322 : decode cX9_read 322 = .ok (.iload_n 1, 1) := by decide +kernel
theorem dX9_read_323 : decode cX9_read 323 = .ok (.iload_n 2, 1) := by decide +kernel
theorem dX9_read_324 : decode cX9_read 324 = .ok (.iload 10, 2) := by decide +kernel
theorem dX9_read_326 : decode cX9_read 326 = .ok (.iadd, 1) := by decide +kernel
theorem dX9_read_327 : decode cX9_read 327 = .ok (.iload 11, 2) := by decide +kernel
theorem dX9_read_329 : decode cX9_read 329 = .ok (.invokevirtual 121, 3) := by decide +kernel
theorem dX9_read_332 : decode cX9_read 332 = .ok (.iinc 10 1, 3) := by decide +kernel
theorem dX9_read_335 : decode cX9_read 335 = .ok (.goto (-78), 3) := by decide +kernel
theorem dX9_read_338 : decode cX9_read 338 = .ok (.aload_n 0, 1) := by decide +kernel
theorem dX9_read_339 : decode cX9_read 339 = .ok (.iload 7, 2) := by decide +kernel
theorem dX9_read_341 : decode cX9_read 341 = .ok (.putfield 282, 3) := by decide +kernel
theorem dX9_read_344 : decode cX9_read 344 = .ok (.iload 9, 2) := by decide +kernel
theorem dX9_read_346 : decode cX9_read 346 = .ok (.ireturn, 1) := by decide +kernel
theorem dX9_torn_0 : decode cX9_torn 0 = .ok (.aload_n 0, 1) := by decide +kernel
theorem dX9_torn_1 : decode cX9_torn 1 = .ok (.getfield 282, 3) := by decide +kernel
theorem dX9_torn_4 : decode cX9_torn 4 = .ok (.ireturn, 1) := by decide +kernel
theorem dX9_count_0 : decode cX9_count 0 = .ok (.iconst 0, 1) := by decide +kernel
theorem dX9_count_1 : decode cX9_count 1 = .ok (.istore_n 2, 1) := by decide +kernel
theorem dX9_count_2 : decode cX9_count 2 = .ok (.iconst 0, 1) := by decide +kernel
theorem dX9_count_3 : decode cX9_count 3 = .ok (.istore_n 3, 1) := by decide +kernel
theorem dX9_count_4 : decode cX9_count 4 = .ok (.iconst 0, 1) := by decide +kernel
theorem dX9_count_5 : decode cX9_count 5 = .ok (.istore 4, 2) := by decide +kernel
theorem dX9_count_7 : decode cX9_count 7 = .ok (.iconst 0, 1) := by decide +kernel
theorem dX9_count_8 : decode cX9_count 8 = .ok (.istore 5, 2) := by decide +kernel
theorem dX9_count_10 : decode cX9_count 10 = .ok (.iload 5, 2) := by decide +kernel
theorem dX9_count_12 : decode cX9_count 12 = .ok (.bipush 64, 2) := by decide +kernel
theorem dX9_count_14 : decode cX9_count 14 = .ok (.if_icmp .ge 94, 3) := by decide +kernel
theorem dX9_count_17 : decode cX9_count 17 = .ok (.iload_n 2, 1) := by decide +kernel
theorem dX9_count_18 : decode cX9_count 18 = .ok (.aload_n 0, 1) := by decide +kernel
theorem dX9_count_19 : decode cX9_count 19 = .ok (.getfield 13, 3) := by decide +kernel
theorem dX9_count_22 : decode cX9_count 22 = .ok (.iload 5, 2) := by decide +kernel
theorem dX9_count_24 : decode cX9_count 24 = .ok (.baload, 1) := by decide +kernel
theorem dX9_count_25 : decode cX9_count 25 = .ok (.ifCond .eq 7, 3) := by decide +kernel
theorem dX9_count_28 : decode cX9_count 28 = .ok (.iconst 1, 1) := by decide +kernel
theorem dX9_count_29 : decode cX9_count 29 = .ok (.goto 4, 3) := by decide +kernel
theorem dX9_count_32 : decode cX9_count 32 = .ok (.iconst 0, 1) := by decide +kernel
theorem dX9_count_33 : decode cX9_count 33 = .ok (.iadd, 1) := by decide +kernel
theorem dX9_count_34 : decode cX9_count 34 = .ok (.istore_n 2, 1) := by decide +kernel
theorem dX9_count_35 : decode cX9_count 35 = .ok (.iload_n 3, 1) := by decide +kernel
theorem dX9_count_36 : decode cX9_count 36 = .ok (.aload_n 0, 1) := by decide +kernel
theorem dX9_count_37 : decode cX9_count 37 = .ok (.getfield 17, 3) := by decide +kernel
theorem dX9_count_40 : decode cX9_count 40 = .ok (.iload 5, 2) := by decide +kernel
theorem dX9_count_42 : decode cX9_count 42 = .ok (.baload, 1) := by decide +kernel
theorem dX9_count_43 : decode cX9_count 43 = .ok (.ifCond .eq 7, 3) := by decide +kernel
theorem dX9_count_46 : decode cX9_count 46 = .ok (.iconst 1, 1) := by decide +kernel
theorem dX9_count_47 : decode cX9_count 47 = .ok (.goto 4, 3) := by decide +kernel
theorem dX9_count_50 : decode cX9_count 50 = .ok (.iconst 0, 1) := by decide +kernel
theorem dX9_count_51 : decode cX9_count 51 = .ok (.iadd, 1) := by decide +kernel
theorem dX9_count_52 : decode cX9_count 52 = .ok (.istore_n 3, 1) := by decide +kernel
theorem dX9_count_53 : decode cX9_count 53 = .ok (.iconst 0, 1) := by decide +kernel
theorem dX9_count_54 : decode cX9_count 54 = .ok (.istore 6, 2) := by decide +kernel
theorem dX9_count_56 : decode cX9_count 56 = .ok (.iload 6, 2) := by decide +kernel
theorem dX9_count_58 : decode cX9_count 58 = .ok (.iconst 4, 1) := by decide +kernel
theorem dX9_count_59 : decode cX9_count 59 = .ok (.if_icmp .ge 43, 3) := by decide +kernel
theorem dX9_count_62 : decode cX9_count 62 = .ok (.iload 4, 2) := by decide +kernel
theorem dX9_count_64 : decode cX9_count 64 = .ok (.iload 5, 2) := by decide +kernel
theorem dX9_count_66 : decode cX9_count 66 = .ok (.aload_n 0, 1) := by decide +kernel
theorem dX9_count_67 : decode cX9_count 67 = .ok (.getfield 101, 3) := by decide +kernel
theorem dX9_count_70 : decode cX9_count 70 = .ok (.if_icmp .gt 22, 3) := by decide +kernel
theorem dX9_count_73 : decode cX9_count 73 = .ok (.aload_n 0, 1) := by decide +kernel
theorem dX9_count_74 : decode cX9_count 74 = .ok (.iload 6, 2) := by decide +kernel
theorem dX9_count_76 : decode cX9_count 76 = .ok (.iload 5, 2) := by decide +kernel
theorem dX9_count_78 : decode cX9_count 78 = .ok (.aload_n 0, 1) := by decide +kernel
theorem dX9_count_79 : decode cX9_count 79 = .ok (.getfield 101, 3) := by decide +kernel
theorem dX9_count_82 : decode cX9_count 82 = .ok (.invokevirtual 113, 3) := by decide +kernel
theorem dX9_count_85 : decode cX9_count 85 = .ok (.ifCond .ge 7, 3) := by decide +kernel
theorem dX9_count_88 : decode cX9_count 88 = .ok (.iconst 1, 1) := by decide +kernel
theorem dX9_count_89 : decode cX9_count 89 = .ok (.goto 4, 3) := by decide +kernel
theorem dX9_count_92 : decode cX9_count 92 = .ok (.iconst 0, 1) := by decide +kernel
theorem dX9_count_93 : decode cX9_count 93 = .ok (.iadd, 1) := by decide +kernel
theorem dX9_count_94 : decode cX9_count 94 = .ok (.istore 4, 2) := by decide +kernel
theorem dX9_count_96 : decode cX9_count 96 = .ok (.iinc 6 1, 3) := by decide +kernel
theorem dX9_count_99 : decode cX9_count 99 = .ok (.goto (-43), 3) := by decide +kernel
theorem dX9_count_102 : decode cX9_count 102 = .ok (.iinc 5 1, 3) := by decide +kernel
theorem dX9_count_105 : decode cX9_count 105 = .ok (.goto (-95), 3) := by decide +kernel
theorem dX9_count_108 : decode cX9_count 108 = .ok (.iload_n 1, 1) := by decide +kernel
theorem dX9_count_109 : decode cX9_count 109 = .ok (.tableswitch 106 0 8 #[51, 56, 61, 63, 65, 70, 75, 78, 83], 51) := by decide +kernel
theorem dX9_count_160 : decode cX9_count 160 = .ok (.aload_n 0, 1) := by decide +kernel
theorem dX9_count_161 : decode cX9_count 161 = .ok (.getfield 101, 3) := by decide +kernel
theorem dX9_count_164 : decode cX9_count 164 = .ok (.ireturn, 1) := by decide +kernel
theorem dX9_count_165 : decode cX9_count 165 = .ok (.aload_n 0, 1) := by decide +kernel
theorem dX9_count_166 : decode cX9_count 166 = .ok (.getfield 105, 3) := by decide +kernel
theorem dX9_count_169 : decode cX9_count 169 = .ok (.ireturn, 1) := by decide +kernel
theorem dX9_count_170 : decode cX9_count 170 = .ok (.iload_n 2, 1) := by decide +kernel
theorem dX9_count_171 : decode cX9_count 171 = .ok (.ireturn, 1) := by decide +kernel
theorem dX9_count_172 : decode cX9_count 172 = .ok (.iload_n 3, 1) := by decide +kernel
theorem dX9_count_173 : decode cX9_count 173 = .ok (.ireturn, 1) := by decide +kernel
theorem dX9_count_174 : decode cX9_count 174 = .ok (.aload_n 0, 1) := by decide +kernel
theorem dX9_count_175 : decode cX9_count 175 = .ok (.getfield 181, 3) := by decide +kernel
theorem dX9_count_178 : decode cX9_count 178 = .ok (.ireturn, 1) := by decide +kernel
theorem dX9_count_179 : decode cX9_count 179 = .ok (.aload_n 0, 1) := by decide +kernel
theorem dX9_count_180 : decode cX9_count 180 = .ok (.getfield 271, 3) := by decide +kernel
theorem dX9_count_183 : decode cX9_count 183 = .ok (.ireturn, 1) := by decide +kernel
theorem dX9_count_184 : decode cX9_count 184 = .ok (.iload 4, 2) := by decide +kernel
theorem dX9_count_186 : decode cX9_count 186 = .ok (.ireturn, 1) := by decide +kernel
theorem dX9_count_187 : decode cX9_count 187 = .ok (.aload_n 0, 1) := by decide +kernel
theorem dX9_count_188 : decode cX9_count 188 = .ok (.getfield 125, 3) := by decide +kernel
theorem dX9_count_191 : decode cX9_count 191 = .ok (.ireturn, 1) := by decide +kernel
theorem dX9_count_192 : decode cX9_count 192 = .ok (.aload_n 0, 1) := by decide +kernel
theorem dX9_count_193 : decode cX9_count 193 = .ok (.getfield 80, 3) := by decide +kernel
theorem dX9_count_196 : decode cX9_count 196 = .ok (.iconst 0, 1) := by decide +kernel
theorem dX9_count_197 : decode cX9_count 197 = .ok (.iaload, 1) := by decide +kernel
theorem dX9_count_198 : decode cX9_count 198 = .ok (.bipush (-4), 2) := by decide +kernel
theorem dX9_count_200 : decode cX9_count 200 = .ok (.if_icmp .ne 8, 3) := by decide +kernel
theorem dX9_count_203 : decode cX9_count 203 = .ok (.bipush (-4), 2) := by decide +kernel
theorem dX9_count_205 : decode cX9_count 205 = .ok (.goto 9, 3) := by decide +kernel
theorem dX9_count_208 : decode cX9_count 208 = .ok (.aload_n 0, 1) := by decide +kernel
theorem dX9_count_209 : decode cX9_count 209 = .ok (.getfield 83, 3) := by decide +kernel
theorem dX9_count_212 : decode cX9_count 212 = .ok (.iconst 0, 1) := by decide +kernel
theorem dX9_count_213 : decode cX9_count 213 = .ok (.iaload, 1) := by decide +kernel
theorem dX9_count_214 : decode cX9_count 214 = .ok (.ireturn, 1) := by decide +kernel
theorem dX9_count_215 : decode cX9_count 215 = .ok (.iconst (-1), 1) := by decide +kernel
theorem dX9_count_216 : decode cX9_count 216 = .ok (.ireturn, 1) := by decide +kernel
theorem dJ9_floorDiv_f86c9_0 : decode cJ9_floorDiv_f86c9 0 = .ok (.lload_n 0, 1) := by decide +kernel
theorem dJ9_floorDiv_f86c9_1 : decode cJ9_floorDiv_f86c9 1 = .ok (.lload_n 2, 1) := by decide +kernel
theorem dJ9_floorDiv_f86c9_2 : decode cJ9_floorDiv_f86c9 2 = .ok (.ldiv, 1) := by decide +kernel
theorem dJ9_floorDiv_f86c9_3 : decode cJ9_floorDiv_f86c9 3 = .ok (.lstore 4, 2) := by decide +kernel
theorem dJ9_floorDiv_f86c9_5 : decode cJ9_floorDiv_f86c9 5 = .ok (.lload_n 0, 1) := by decide +kernel
theorem dJ9_floorDiv_f86c9_6 : decode cJ9_floorDiv_f86c9 6 = .ok (.lload_n 2, 1) := by decide +kernel
theorem dJ9_floorDiv_f86c9_7 : decode cJ9_floorDiv_f86c9 7 = .ok (.lxor, 1) := by decide +kernel
theorem dJ9_floorDiv_f86c9_8 : decode cJ9_floorDiv_f86c9 8 = .ok (.lconst 0, 1) := by decide +kernel
theorem dJ9_floorDiv_f86c9_9 : decode cJ9_floorDiv_f86c9 9 = .ok (.lcmp, 1) := by decide +kernel
theorem dJ9_floorDiv_f86c9_10 : decode cJ9_floorDiv_f86c9 10 = .ok (.ifCond .ge 17, 3) := by decide +kernel
theorem dJ9_floorDiv_f86c9_13 : decode cJ9_floorDiv_f86c9 13 = .ok (.lload 4, 2) := by decide +kernel
theorem dJ9_floorDiv_f86c9_15 : decode cJ9_floorDiv_f86c9 15 = .ok (.lload_n 2, 1) := by decide +kernel
theorem dJ9_floorDiv_f86c9_16 : decode cJ9_floorDiv_f86c9 16 = .ok (.lmul, 1) := by decide +kernel
theorem dJ9_floorDiv_f86c9_17 : decode cJ9_floorDiv_f86c9 17 = .ok (.lload_n 0, 1) := by decide +kernel
theorem dJ9_floorDiv_f86c9_18 : decode cJ9_floorDiv_f86c9 18 = .ok (.lcmp, 1) := by decide +kernel
theorem dJ9_floorDiv_f86c9_19 : decode cJ9_floorDiv_f86c9 19 = .ok (.ifCond .eq 8, 3) := by decide +kernel
theorem dJ9_floorDiv_f86c9_22 : decode cJ9_floorDiv_f86c9 22 = .ok (.lload 4, 2) := by decide +kernel
theorem dJ9_floorDiv_f86c9_24 : decode cJ9_floorDiv_f86c9 24 = .ok (.lconst 1, 1) := by decide +kernel
theorem dJ9_floorDiv_f86c9_25 : decode cJ9_floorDiv_f86c9 25 = .ok (.lsub, 1) := by decide +kernel
theorem dJ9_floorDiv_f86c9_26 : decode cJ9_floorDiv_f86c9 26 = .ok (.lreturn, 1) := by decide +kernel
theorem dJ9_floorDiv_f86c9_27 : decode cJ9_floorDiv_f86c9 27 = .ok (.lload 4, 2) := by decide +kernel
theorem dJ9_floorDiv_f86c9_29 : decode cJ9_floorDiv_f86c9 29 = .ok (.lreturn, 1) := by decide +kernel
theorem dJ9_abs_0f7a4_0 : decode cJ9_abs_0f7a4 0 = .ok (.iload_n 0, 1) := by decide +kernel
theorem dJ9_abs_0f7a4_1 : decode cJ9_abs_0f7a4 1 = .ok (.ifCond .ge 8, 3) := by decide +kernel
theorem dJ9_abs_0f7a4_4 : decode cJ9_abs_0f7a4 4 = .ok (.iload_n 0, 1) := by decide +kernel
theorem dJ9_abs_0f7a4_5 : decode cJ9_abs_0f7a4 5 = .ok (.ineg, 1) := by decide +kernel
theorem dJ9_abs_0f7a4_6 : decode cJ9_abs_0f7a4 6 = .ok (.goto 4, 3) := by decide +kernel
theorem dJ9_abs_0f7a4_9 : decode cJ9_abs_0f7a4 9 = .ok (.iload_n 0, 1) := by decide +kernel
theorem dJ9_abs_0f7a4_10 : decode cJ9_abs_0f7a4 10 = .ok (.ireturn, 1) := by decide +kernel
theorem dJ9_max_7cf53_0 : decode cJ9_max_7cf53 0 = .ok (.iload_n 0, 1) := by decide +kernel
theorem dJ9_max_7cf53_1 : decode cJ9_max_7cf53 1 = .ok (.iload_n 1, 1) := by decide +kernel
theorem dJ9_max_7cf53_2 : decode cJ9_max_7cf53 2 = .ok (.if_icmp .lt 7, 3) := by decide +kernel
theorem dJ9_max_7cf53_5 : decode cJ9_max_7cf53 5 = .ok (.iload_n 0, 1) := by decide +kernel
theorem dJ9_max_7cf53_6 : decode cJ9_max_7cf53 6 = .ok (.goto 4, 3) := by decide +kernel
theorem dJ9_max_7cf53_9 : decode cJ9_max_7cf53 9 = .ok (.iload_n 1, 1) := by decide +kernel
theorem dJ9_max_7cf53_10 : decode cJ9_max_7cf53 10 = .ok (.ireturn, 1) := by decide +kernel
theorem dJ9_max_f86c9_0 : decode cJ9_max_f86c9 0 = .ok (.lload_n 0, 1) := by decide +kernel
theorem dJ9_max_f86c9_1 : decode cJ9_max_f86c9 1 = .ok (.lload_n 2, 1) := by decide +kernel
theorem dJ9_max_f86c9_2 : decode cJ9_max_f86c9 2 = .ok (.lcmp, 1) := by decide +kernel
theorem dJ9_max_f86c9_3 : decode cJ9_max_f86c9 3 = .ok (.ifCond .lt 7, 3) := by decide +kernel
theorem dJ9_max_f86c9_6 : decode cJ9_max_f86c9 6 = .ok (.lload_n 0, 1) := by decide +kernel
theorem dJ9_max_f86c9_7 : decode cJ9_max_f86c9 7 = .ok (.goto 4, 3) := by decide +kernel
theorem dJ9_max_f86c9_10 : decode cJ9_max_f86c9 10 = .ok (.lload_n 2, 1) := by decide +kernel
theorem dJ9_max_f86c9_11 : decode cJ9_max_f86c9 11 = .ok (.lreturn, 1) := by decide +kernel
theorem dJ9_min_7cf53_0 : decode cJ9_min_7cf53 0 = .ok (.iload_n 0, 1) := by decide +kernel
theorem dJ9_min_7cf53_1 : decode cJ9_min_7cf53 1 = .ok (.iload_n 1, 1) := by decide +kernel
theorem dJ9_min_7cf53_2 : decode cJ9_min_7cf53 2 = .ok (.if_icmp .gt 7, 3) := by decide +kernel
theorem dJ9_min_7cf53_5 : decode cJ9_min_7cf53 5 = .ok (.iload_n 0, 1) := by decide +kernel
theorem dJ9_min_7cf53_6 : decode cJ9_min_7cf53 6 = .ok (.goto 4, 3) := by decide +kernel
theorem dJ9_min_7cf53_9 : decode cJ9_min_7cf53 9 = .ok (.iload_n 1, 1) := by decide +kernel
theorem dJ9_min_7cf53_10 : decode cJ9_min_7cf53 10 = .ok (.ireturn, 1) := by decide +kernel
theorem dJ9_min_f86c9_0 : decode cJ9_min_f86c9 0 = .ok (.lload_n 0, 1) := by decide +kernel
theorem dJ9_min_f86c9_1 : decode cJ9_min_f86c9 1 = .ok (.lload_n 2, 1) := by decide +kernel
theorem dJ9_min_f86c9_2 : decode cJ9_min_f86c9 2 = .ok (.lcmp, 1) := by decide +kernel
theorem dJ9_min_f86c9_3 : decode cJ9_min_f86c9 3 = .ok (.ifCond .gt 7, 3) := by decide +kernel
theorem dJ9_min_f86c9_6 : decode cJ9_min_f86c9 6 = .ok (.lload_n 0, 1) := by decide +kernel
theorem dJ9_min_f86c9_7 : decode cJ9_min_f86c9 7 = .ok (.goto 4, 3) := by decide +kernel
theorem dJ9_min_f86c9_10 : decode cJ9_min_f86c9 10 = .ok (.lload_n 2, 1) := by decide +kernel
theorem dJ9_min_f86c9_11 : decode cJ9_min_f86c9 11 = .ok (.lreturn, 1) := by decide +kernel
theorem dJ0_length_8abf5_0 : decode cJ0_length_8abf5 0 = .ok (.aload_n 0, 1) := by decide +kernel
theorem dJ0_length_8abf5_1 : decode cJ0_length_8abf5 1 = .ok (.getfield 9, 3) := by decide +kernel
theorem dJ0_length_8abf5_4 : decode cJ0_length_8abf5 4 = .ok (.arraylength, 1) := by decide +kernel
theorem dJ0_length_8abf5_5 : decode cJ0_length_8abf5 5 = .ok (.aload_n 0, 1) := by decide +kernel
theorem dJ0_length_8abf5_6 : decode cJ0_length_8abf5 6 = .ok (.invokevirtual 335, 3) := by decide +kernel
theorem dJ0_length_8abf5_9 : decode cJ0_length_8abf5 9 = .ok (.ishr, 1) := by decide +kernel
theorem dJ0_length_8abf5_10 : decode cJ0_length_8abf5 10 = .ok (.ireturn, 1) := by decide +kernel
theorem dJ0_charAt_5068e_0 : decode cJ0_charAt_5068e 0 = .ok (.aload_n 0, 1) := by decide +kernel
theorem dJ0_charAt_5068e_1 : decode cJ0_charAt_5068e 1 = .ok (.invokevirtual 492, 3) := by decide +kernel
theorem dJ0_charAt_5068e_4 : decode cJ0_charAt_5068e 4 = .ok (.ifCond .eq 12, 3) := by decide +kernel
theorem dJ0_charAt_5068e_7 : decode cJ0_charAt_5068e 7 = .ok (.aload_n 0, 1) := by decide +kernel
theorem dJ0_charAt_5068e_8 : decode cJ0_charAt_5068e 8 = .ok (.getfield 9, 3) := by decide +kernel
theorem dJ0_charAt_5068e_11 : decode cJ0_charAt_5068e 11 = .ok (.iload_n 1, 1) := by decide +kernel
theorem dJ0_charAt_5068e_12 : decode cJ0_charAt_5068e 12 = .ok (.invokestatic 495, 3) := by decide +kernel
theorem dJ0_charAt_5068e_15 : decode cJ0_charAt_5068e 15 = .ok (.ireturn, 1) := by decide +kernel
theorem dJ0_charAt_5068e_16 : decode cJ0_charAt_5068e 16 = .ok (.aload_n 0, 1) := by decide +kernel
theorem dJ0_charAt_5068e_17 : decode cJ0_charAt_5068e 17 = .ok (.getfield 9, 3) := by decide +kernel
theorem dJ0_charAt_5068e_20 : decode cJ0_charAt_5068e 20 = .ok (.iload_n 1, 1) := by decide +kernel
theorem dJ0_charAt_5068e_21 : decode cJ0_charAt_5068e 21 = .ok (.invokestatic 498, 3) := by decide +kernel
theorem dJ0_charAt_5068e_24 : decode cJ0_charAt_5068e 24 = .ok (.ireturn, 1) := by decide +kernel
theorem dJ0_coder_7d493_0 : decode cJ0_coder_7d493 0 = .ok (.getstatic 38, 3) := by decide +kernel
theorem dJ0_coder_7d493_3 : decode cJ0_coder_7d493 3 = .ok (.ifCond .eq 10, 3) := by decide +kernel
theorem dJ0_coder_7d493_6 : decode cJ0_coder_7d493 6 = .ok (.aload_n 0, 1) := by decide +kernel
theorem dJ0_coder_7d493_7 : decode cJ0_coder_7d493 7 = .ok (.getfield 15, 3) := by decide +kernel
theorem dJ0_coder_7d493_10 : decode cJ0_coder_7d493 10 = .ok (.goto 4, 3) := by decide +kernel
theorem dJ0_coder_7d493_13 : decode cJ0_coder_7d493 13 = .ok (.iconst 1, 1) := by decide +kernel
theorem dJ0_coder_7d493_14 : decode cJ0_coder_7d493 14 = .ok (.ireturn, 1) := by decide +kernel
theorem dJ0_isLatin1_aae02_0 : decode cJ0_isLatin1_aae02 0 = .ok (.getstatic 38, 3) := by decide +kernel
theorem dJ0_isLatin1_aae02_3 : decode cJ0_isLatin1_aae02 3 = .ok (.ifCond .eq 14, 3) := by decide +kernel
theorem dJ0_isLatin1_aae02_6 : decode cJ0_isLatin1_aae02 6 = .ok (.aload_n 0, 1) := by decide +kernel
theorem dJ0_isLatin1_aae02_7 : decode cJ0_isLatin1_aae02 7 = .ok (.getfield 15, 3) := by decide +kernel
theorem dJ0_isLatin1_aae02_10 : decode cJ0_isLatin1_aae02 10 = .ok (.ifCond .ne 7, 3) := by decide +kernel
theorem dJ0_isLatin1_aae02_13 : decode cJ0_isLatin1_aae02 13 = .ok (.iconst 1, 1) := by decide +kernel
theorem dJ0_isLatin1_aae02_14 : decode cJ0_isLatin1_aae02 14 = .ok (.goto 4, 3) := by decide +kernel
theorem dJ0_isLatin1_aae02_17 : decode cJ0_isLatin1_aae02 17 = .ok (.iconst 0, 1) := by decide +kernel
theorem dJ0_isLatin1_aae02_18 : decode cJ0_isLatin1_aae02 18 = .ok (.ireturn, 1) := by decide +kernel
theorem dJ0_checkIndex_df160_0 : decode cJ0_checkIndex_df160 0 = .ok (.iload_n 0, 1) := by decide +kernel
theorem dJ0_checkIndex_df160_1 : decode cJ0_checkIndex_df160 1 = .ok (.iload_n 1, 1) := by decide +kernel
theorem dJ0_checkIndex_df160_2 : decode cJ0_checkIndex_df160 2 = .ok (.getstatic 1053, 3) := by decide +kernel
theorem dJ0_checkIndex_df160_5 : decode cJ0_checkIndex_df160 5 = .ok (.invokestatic 1059, 3) := by decide +kernel
theorem dJ0_checkIndex_df160_8 : decode cJ0_checkIndex_df160 8 = .ok (.pop, 1) := by decide +kernel
theorem dJ0_checkIndex_df160_9 : decode cJ0_checkIndex_df160 9 = .ok (.return_, 1) := by decide +kernel
theorem dJ1_charAt_3b067_0 : decode cJ1_charAt_3b067 0 = .ok (.iload_n 1, 1) := by decide +kernel
theorem dJ1_charAt_3b067_1 : decode cJ1_charAt_3b067 1 = .ok (.aload_n 0, 1) := by decide +kernel
theorem dJ1_charAt_3b067_2 : decode cJ1_charAt_3b067 2 = .ok (.arraylength, 1) := by decide +kernel
theorem dJ1_charAt_3b067_3 : decode cJ1_charAt_3b067 3 = .ok (.invokestatic 9, 3) := by decide +kernel
theorem dJ1_charAt_3b067_6 : decode cJ1_charAt_3b067 6 = .ok (.aload_n 0, 1) := by decide +kernel
theorem dJ1_charAt_3b067_7 : decode cJ1_charAt_3b067 7 = .ok (.iload_n 1, 1) := by decide +kernel
theorem dJ1_charAt_3b067_8 : decode cJ1_charAt_3b067 8 = .ok (.baload, 1) := by decide +kernel
theorem dJ1_charAt_3b067_9 : decode cJ1_charAt_3b067 9 = .ok (.sipush 255, 3) := by decide +kernel
theorem dJ1_charAt_3b067_12 : decode cJ1_charAt_3b067 12 = .ok (.iand, 1) := by decide +kernel
theorem dJ1_charAt_3b067_13 : decode cJ1_charAt_3b067 13 = .ok (.i2c, 1) := by decide +kernel
theorem dJ1_charAt_3b067_14 : decode cJ1_charAt_3b067 14 = .ok (.ireturn, 1) := by decide +kernel
theorem dJ2_getChar_3b067_0 : decode cJ2_getChar_3b067 0 = .ok (.getstatic 44, 3) := by decide +kernel
theorem dJ2_getChar_3b067_3 : decode cJ2_getChar_3b067 3 = .ok (.ifCond .ne 25, 3) := by decide +kernel
theorem dJ2_getChar_3b067_6 : decode cJ2_getChar_3b067 6 = .ok (.iload_n 1, 1) := by decide +kernel
theorem dJ2_getChar_3b067_7 : decode cJ2_getChar_3b067 7 = .ok (.ifCond .lt 11, 3) := by decide +kernel
theorem dJ2_getChar_3b067_10 : decode cJ2_getChar_3b067 10 = .ok (.iload_n 1, 1) := by decide +kernel
theorem dJ2_getChar_3b067_11 : decode cJ2_getChar_3b067 11 = .ok (.aload_n 0, 1) := by decide +kernel
theorem dJ2_getChar_3b067_12 : decode cJ2_getChar_3b067 12 = .ok (.invokestatic 48, 3) := by decide +kernel
theorem dJ2_getChar_3b067_15 : decode cJ2_getChar_3b067 15 = .ok (.if_icmp .lt 13, 3) := by decide +kernel
theorem dJ2_getChar_3b067_18 : decode cJ2_getChar_3b067 18 = .ok (.new 52, 3) := by decide +kernel
theorem dJ2_getChar_3b067_21 : decode cJ2_getChar_3b067 21 = .ok (.dup, 1) := by decide +kernel
theorem dJ2_getChar_3b067_22 : decode cJ2_getChar_3b067 22 = .ok (.ldc 54, 2) := by decide +kernel
theorem dJ2_getChar_3b067_24 : decode cJ2_getChar_3b067 24 = .ok (.invokespecial 56, 3) := by decide +kernel
theorem dJ2_getChar_3b067_27 : decode cJ2_getChar_3b067 27 = .ok (.athrow, 1) := by decide +kernel
theorem dJ2_getChar_3b067_28 : decode cJ2_getChar_3b067 28 = .ok (.iload_n 1, 1) := by decide +kernel
theorem dJ2_getChar_3b067_29 : decode cJ2_getChar_3b067 29 = .ok (.iconst 1, 1) := by decide +kernel
theorem dJ2_getChar_3b067_30 : decode cJ2_getChar_3b067 30 = .ok (.ishl, 1) := by decide +kernel
theorem dJ2_getChar_3b067_31 : decode cJ2_getChar_3b067 31 = .ok (.istore_n 1, 1) := by decide +kernel
theorem dJ2_getChar_3b067_32 : decode cJ2_getChar_3b067 32 = .ok (.aload_n 0, 1) := by decide +kernel
theorem dJ2_getChar_3b067_33 : decode cJ2_getChar_3b067 33 = .ok (.iload_n 1, 1) := by decide +kernel
theorem dJ2_getChar_3b067_34 : decode cJ2_getChar_3b067 34 = .ok (.iinc 1 1, 3) := by decide +kernel
theorem dJ2_getChar_3b067_37 : decode cJ2_getChar_3b067 37 = .ok (.baload, 1) := by decide +kernel
theorem dJ2_getChar_3b067_38 : decode cJ2_getChar_3b067 38 = .ok (.sipush 255, 3) := by decide +kernel
theorem dJ2_getChar_3b067_41 : decode cJ2_getChar_3b067 41 = .ok (.iand, 1) := by decide +kernel
theorem dJ2_getChar_3b067_42 : decode cJ2_getChar_3b067 42 = .ok (.getstatic 59, 3) := by decide +kernel
theorem dJ2_getChar_3b067_45 : decode cJ2_getChar_3b067 45 = .ok (.ishl, 1) := by decide +kernel
theorem dJ2_getChar_3b067_46 : decode cJ2_getChar_3b067 46 = .ok (.aload_n 0, 1) := by decide +kernel
theorem dJ2_getChar_3b067_47 : decode cJ2_getChar_3b067 47 = .ok (.iload_n 1, 1) := by decide +kernel
theorem dJ2_getChar_3b067_48 : decode cJ2_getChar_3b067 48 = .ok (.baload, 1) := by decide +kernel
theorem dJ2_getChar_3b067_49 : decode cJ2_getChar_3b067 49 = .ok (.sipush 255, 3) := by decide +kernel
theorem dJ2_getChar_3b067_52 : decode cJ2_getChar_3b067 52 = .ok (.iand, 1) := by decide +kernel
theorem dJ2_getChar_3b067_53 : decode cJ2_getChar_3b067 53 = .ok (.getstatic 63, 3) := by decide +kernel
theorem dJ2_getChar_3b067_56 : decode cJ2_getChar_3b067 56 = .ok (.ishl, 1) := by decide +kernel
theorem dJ2_getChar_3b067_57 : decode cJ2_getChar_3b067 57 = .ok (.ior, 1) := by decide +kernel
theorem dJ2_getChar_3b067_58 : decode cJ2_getChar_3b067 58 = .ok (.i2c, 1) := by decide +kernel
theorem dJ2_getChar_3b067_59 : decode cJ2_getChar_3b067 59 = .ok (.ireturn, 1) := by decide +kernel
theorem dJ2_length_9d52b_0 : decode cJ2_length_9d52b 0 = .ok (.aload_n 0, 1) := by decide +kernel
theorem dJ2_length_9d52b_1 : decode cJ2_length_9d52b 1 = .ok (.arraylength, 1) := by decide +kernel
theorem dJ2_length_9d52b_2 : decode cJ2_length_9d52b 2 = .ok (.iconst 1, 1) := by decide +kernel
theorem dJ2_length_9d52b_3 : decode cJ2_length_9d52b 3 = .ok (.ishr, 1) := by decide +kernel
theorem dJ2_length_9d52b_4 : decode cJ2_length_9d52b 4 = .ok (.ireturn, 1) := by decide +kernel
theorem dJ2_charAt_3b067_0 : decode cJ2_charAt_3b067 0 = .ok (.iload_n 1, 1) := by decide +kernel
theorem dJ2_charAt_3b067_1 : decode cJ2_charAt_3b067 1 = .ok (.aload_n 0, 1) := by decide +kernel
theorem dJ2_charAt_3b067_2 : decode cJ2_charAt_3b067 2 = .ok (.invokestatic 67, 3) := by decide +kernel
theorem dJ2_charAt_3b067_5 : decode cJ2_charAt_3b067 5 = .ok (.aload_n 0, 1) := by decide +kernel
theorem dJ2_charAt_3b067_6 : decode cJ2_charAt_3b067 6 = .ok (.iload_n 1, 1) := by decide +kernel
theorem dJ2_charAt_3b067_7 : decode cJ2_charAt_3b067 7 = .ok (.invokestatic 71, 3) := by decide +kernel
theorem dJ2_charAt_3b067_10 : decode cJ2_charAt_3b067 10 = .ok (.ireturn, 1) := by decide +kernel
theorem dJ2_checkIndex_2214a_0 : decode cJ2_checkIndex_2214a 0 = .ok (.iload_n 0, 1) := by decide +kernel
theorem dJ2_checkIndex_2214a_1 : decode cJ2_checkIndex_2214a 1 = .ok (.aload_n 1, 1) := by decide +kernel
theorem dJ2_checkIndex_2214a_2 : decode cJ2_checkIndex_2214a 2 = .ok (.invokestatic 48, 3) := by decide +kernel
theorem dJ2_checkIndex_2214a_5 : decode cJ2_checkIndex_2214a 5 = .ok (.invokestatic 414, 3) := by decide +kernel
theorem dJ2_checkIndex_2214a_8 : decode cJ2_checkIndex_2214a 8 = .ok (.return_, 1) := by decide +kernel
theorem dJ7_fill_d0a16_0 : decode cJ7_fill_d0a16 0 = .ok (.iconst 0, 1) := by decide +kernel
theorem dJ7_fill_d0a16_1 : decode cJ7_fill_d0a16 1 = .ok (.istore_n 3, 1) := by decide +kernel
theorem dJ7_fill_d0a16_2 : decode cJ7_fill_d0a16 2 = .ok (.aload_n 0, 1) := by decide +kernel
theorem dJ7_fill_d0a16_3 : decode cJ7_fill_d0a16 3 = .ok (.arraylength, 1) := by decide +kernel
theorem dJ7_fill_d0a16_4 : decode cJ7_fill_d0a16 4 = .ok (.istore 4, 2) := by decide +kernel
theorem dJ7_fill_d0a16_6 : decode cJ7_fill_d0a16 6 = .ok (.iload_n 3, 1) := by decide +kernel
theorem dJ7_fill_d0a16_7 : decode cJ7_fill_d0a16 7 = .ok (.iload 4, 2) := by decide +kernel
theorem dJ7_fill_d0a16_9 : decode cJ7_fill_d0a16 9 = .ok (.if_icmp .ge 13, 3) := by decide +kernel
theorem dJ7_fill_d0a16_12 : decode cJ7_fill_d0a16 12 = .ok (.aload_n 0, 1) := by decide +kernel
theorem dJ7_fill_d0a16_13 : decode cJ7_fill_d0a16 13 = .ok (.iload_n 3, 1) := by decide +kernel
theorem dJ7_fill_d0a16_14 : decode cJ7_fill_d0a16 14 = .ok (.lload_n 1, 1) := by decide +kernel
theorem dJ7_fill_d0a16_15 : decode cJ7_fill_d0a16 15 = .ok (.lastore, 1) := by decide +kernel
theorem dJ7_fill_d0a16_16 : decode cJ7_fill_d0a16 16 = .ok (.iinc 3 1, 3) := by decide +kernel
theorem dJ7_fill_d0a16_19 : decode cJ7_fill_d0a16 19 = .ok (.goto (-13), 3) := by decide +kernel
theorem dJ7_fill_d0a16_22 : decode cJ7_fill_d0a16 22 = .ok (.return_, 1) := by decide +kernel
theorem dJ7_fill_53178_0 : decode cJ7_fill_53178 0 = .ok (.iconst 0, 1) := by decide +kernel
theorem dJ7_fill_53178_1 : decode cJ7_fill_53178 1 = .ok (.istore_n 2, 1) := by decide +kernel
theorem dJ7_fill_53178_2 : decode cJ7_fill_53178 2 = .ok (.aload_n 0, 1) := by decide +kernel
theorem dJ7_fill_53178_3 : decode cJ7_fill_53178 3 = .ok (.arraylength, 1) := by decide +kernel
theorem dJ7_fill_53178_4 : decode cJ7_fill_53178 4 = .ok (.istore_n 3, 1) := by decide +kernel
theorem dJ7_fill_53178_5 : decode cJ7_fill_53178 5 = .ok (.iload_n 2, 1) := by decide +kernel
theorem dJ7_fill_53178_6 : decode cJ7_fill_53178 6 = .ok (.iload_n 3, 1) := by decide +kernel
theorem dJ7_fill_53178_7 : decode cJ7_fill_53178 7 = .ok (.if_icmp .ge 13, 3) := by decide +kernel
theorem dJ7_fill_53178_10 : decode cJ7_fill_53178 10 = .ok (.aload_n 0, 1) := by decide +kernel
theorem dJ7_fill_53178_11 : decode cJ7_fill_53178 11 = .ok (.iload_n 2, 1) := by decide +kernel
theorem dJ7_fill_53178_12 : decode cJ7_fill_53178 12 = .ok (.iload_n 1, 1) := by decide +kernel
theorem dJ7_fill_53178_13 : decode cJ7_fill_53178 13 = .ok (.iastore, 1) := by decide +kernel
theorem dJ7_fill_53178_14 : decode cJ7_fill_53178 14 = .ok (.iinc 2 1, 3) := by decide +kernel
theorem dJ7_fill_53178_17 : decode cJ7_fill_53178 17 = .ok (.goto (-12), 3) := by decide +kernel
theorem dJ7_fill_53178_20 : decode cJ7_fill_53178 20 = .ok (.return_, 1) := by decide +kernel
theorem dJ3_checkIndex_8e157_0 : decode cJ3_checkIndex_8e157 0 = .ok (.iload_n 0, 1) := by decide +kernel
theorem dJ3_checkIndex_8e157_1 : decode cJ3_checkIndex_8e157 1 = .ok (.ifCond .lt 8, 3) := by decide +kernel
theorem dJ3_checkIndex_8e157_4 : decode cJ3_checkIndex_8e157 4 = .ok (.iload_n 0, 1) := by decide +kernel
theorem dJ3_checkIndex_8e157_5 : decode cJ3_checkIndex_8e157 5 = .ok (.iload_n 1, 1) := by decide +kernel
theorem dJ3_checkIndex_8e157_6 : decode cJ3_checkIndex_8e157 6 = .ok (.if_icmp .lt 10, 3) := by decide +kernel
theorem dJ3_checkIndex_8e157_9 : decode cJ3_checkIndex_8e157 9 = .ok (.aload_n 2, 1) := by decide +kernel
theorem dJ3_checkIndex_8e157_10 : decode cJ3_checkIndex_8e157 10 = .ok (.iload_n 0, 1) := by decide +kernel
theorem dJ3_checkIndex_8e157_11 : decode cJ3_checkIndex_8e157 11 = .ok (.iload_n 1, 1) := by decide +kernel
theorem dJ3_checkIndex_8e157_12 : decode cJ3_checkIndex_8e157 12 = .ok (.invokestatic 95, 3) := by decide +kernel
theorem dJ3_checkIndex_8e157_15 : decode cJ3_checkIndex_8e157 15 = .ok (.athrow, 1) := by decide +kernel
theorem dJ3_checkIndex_8e157_16 : decode cJ3_checkIndex_8e157 16 = .ok (.iload_n 0, 1) := by decide +kernel
theorem dJ3_checkIndex_8e157_17 : decode cJ3_checkIndex_8e157 17 = .ok (.ireturn, 1) := by decide +kernel

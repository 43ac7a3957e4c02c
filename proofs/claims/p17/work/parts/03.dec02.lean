theorem dX13_readBook_34 : decode cX13_readBook 34 = .ok (.ifCond .eq 28, 3) := by decide +kernel
theorem dX13_readBook_37 : decode cX13_readBook 37 = .ok (.aload_n 0, 1) := by decide +kernel
theorem dX13_readBook_38 : decode cX13_readBook 38 = .ok (.invokevirtual 169, 3) := by decide +kernel
theorem dX13_readBook_41 : decode cX13_readBook 41 = .ok (.aload_n 0, 1) := by decide +kernel
theorem dX13_readBook_42 : decode cX13_readBook 42 = .ok (.getfield 83, 3) := by decide +kernel
theorem dX13_readBook_45 : decode cX13_readBook 45 = .ok (.iconst 4, 1) := by decide +kernel
theorem dX13_readBook_46 : decode cX13_readBook 46 = .ok (.if_icmp .eq 9, 3) := by decide +kernel
theorem dX13_readBook_49 : decode cX13_readBook 49 = .ok (.aload_n 0, 1) := by decide +kernel
theorem dX13_readBook_50 : decode cX13_readBook 50 = .ok (.iconst 1, 1) := by decide +kernel
theorem dX13_readBook_51 : decode cX13_readBook 51 = .ok (.invokevirtual 107, 3) := by decide +kernel
theorem dX13_readBook_54 : decode cX13_readBook 54 = .ok (.athrow, 1) := by decide +kernel
theorem dX13_readBook_55 : decode cX13_readBook 55 = .ok (.aload_n 0, 1) := by decide +kernel
theorem dX13_readBook_56 : decode cX13_readBook 56 = .ok (.invokevirtual 111, 3) := by decide +kernel
theorem dX13_readBook_59 : decode cX13_readBook 59 = .ok (.goto (-29), 3) := by decide +kernel
theorem dX13_readBook_62 : decode cX13_readBook 62 = .ok (.return_, 1) := by decide +kernel
theorem dX13_scan_0 : decode cX13_scan 0 = .ok (.aload_n 0, 1) := by decide +kernel
theorem dX13_scan_1 : decode cX13_scan 1 = .ok (.getfield 76, 3) := by decide +kernel
theorem dX13_scan_4 : decode cX13_scan 4 = .ok (.aload_n 0, 1) := by decide +kernel
theorem dX13_scan_5 : decode cX13_scan 5 = .ok (.getfield 70, 3) := by decide +kernel
theorem dX13_scan_8 : decode cX13_scan 8 = .ok (.if_icmp .ge 44, 3) := by decide +kernel
theorem dX13_scan_11 : decode cX13_scan 11 = .ok (.aload_n 0, 1) := by decide +kernel
theorem dX13_scan_12 : decode cX13_scan 12 = .ok (.getfield 73, 3) := by decide +kernel
theorem dX13_scan_15 : decode cX13_scan 15 = .ok (.aload_n 0, 1) := by decide +kernel
theorem dX13_scan_16 : decode cX13_scan 16 = .ok (.getfield 76, 3) := by decide +kernel
theorem dX13_scan_19 : decode cX13_scan 19 = .ok (.baload, 1) := by decide +kernel
theorem dX13_scan_20 : decode cX13_scan 20 = .ok (.bipush 32, 2) := by decide +kernel
theorem dX13_scan_22 : decode cX13_scan 22 = .ok (.if_icmp .eq 17, 3) := by decide +kernel
theorem dX13_scan_25 : decode cX13_scan 25 = .ok (.aload_n 0, 1) := by decide +kernel
theorem dX13_scan_26 : decode cX13_scan 26 = .ok (.getfield 73, 3) := by decide +kernel
theorem dX13_scan_29 : decode cX13_scan 29 = .ok (.aload_n 0, 1) := by decide +kernel
theorem dX13_scan_30 : decode cX13_scan 30 = .ok (.getfield 76, 3) := by decide +kernel
theorem dX13_scan_33 : decode cX13_scan 33 = .ok (.baload, 1) := by decide +kernel
theorem dX13_scan_34 : decode cX13_scan 34 = .ok (.bipush 10, 2) := by decide +kernel
theorem dX13_scan_36 : decode cX13_scan 36 = .ok (.if_icmp .ne 16, 3) := by decide +kernel
theorem dX13_scan_39 : decode cX13_scan 39 = .ok (.aload_n 0, 1) := by decide +kernel
theorem dX13_scan_40 : decode cX13_scan 40 = .ok (.dup, 1) := by decide +kernel
theorem dX13_scan_41 : decode cX13_scan 41 = .ok (.getfield 76, 3) := by decide +kernel
theorem dX13_scan_44 : decode cX13_scan 44 = .ok (.iconst 1, 1) := by decide +kernel
theorem dX13_scan_45 : decode cX13_scan 45 = .ok (.iadd, 1) := by decide +kernel
theorem dX13_scan_46 : decode cX13_scan 46 = .ok (.putfield 76, 3) := by decide +kernel
theorem dX13_scan_49 : decode cX13_scan 49 = .ok (.goto (-49), 3) := by decide +kernel
theorem dX13_scan_52 : decode cX13_scan 52 = .ok (.aload_n 0, 1) := by decide +kernel
theorem dX13_scan_53 : decode cX13_scan 53 = .ok (.aload_n 0, 1) := by decide +kernel
theorem dX13_scan_54 : decode cX13_scan 54 = .ok (.getfield 76, 3) := by decide +kernel
theorem dX13_scan_57 : decode cX13_scan 57 = .ok (.putfield 60, 3) := by decide +kernel
theorem dX13_scan_60 : decode cX13_scan 60 = .ok (.aload_n 0, 1) := by decide +kernel
theorem dX13_scan_61 : decode cX13_scan 61 = .ok (.aload_n 0, 1) := by decide +kernel
theorem dX13_scan_62 : decode cX13_scan 62 = .ok (.getfield 60, 3) := by decide +kernel
theorem dX13_scan_65 : decode cX13_scan 65 = .ok (.invokevirtual 79, 3) := by decide +kernel
theorem dX13_scan_68 : decode cX13_scan 68 = .ok (.istore_n 1, 1) := by decide +kernel
theorem dX13_scan_69 : decode cX13_scan 69 = .ok (.aload_n 0, 1) := by decide +kernel
theorem dX13_scan_70 : decode cX13_scan 70 = .ok (.getfield 60, 3) := by decide +kernel
theorem dX13_scan_73 : decode cX13_scan 73 = .ok (.aload_n 0, 1) := by decide +kernel
theorem dX13_scan_74 : decode cX13_scan 74 = .ok (.getfield 70, 3) := by decide +kernel
theorem dX13_scan_77 : decode cX13_scan 77 = .ok (.if_icmp .ne 9, 3) := by decide +kernel
theorem dX13_scan_80 : decode cX13_scan 80 = .ok (.aload_n 0, 1) := by decide +kernel
theorem dX13_scan_81 : decode cX13_scan 81 = .ok (.iconst 0, 1) := by decide +kernel
theorem dX13_scan_82 : decode cX13_scan 82 = .ok (.putfield 83, 3) := by decide +kernel
theorem dX13_scan_85 : decode cX13_scan 85 = .ok (.return_, 1) := by decide +kernel
theorem dX13_scan_86 : decode cX13_scan 86 = .ok (.aload_n 0, 1) := by decide +kernel
theorem dX13_scan_87 : decode cX13_scan 87 = .ok (.dup, 1) := by decide +kernel
theorem dX13_scan_88 : decode cX13_scan 88 = .ok (.getfield 76, 3) := by decide +kernel
theorem dX13_scan_91 : decode cX13_scan 91 = .ok (.iconst 1, 1) := by decide +kernel
theorem dX13_scan_92 : decode cX13_scan 92 = .ok (.iadd, 1) := by decide +kernel
theorem dX13_scan_93 : decode cX13_scan 93 = .ok (.putfield 76, 3) := by decide +kernel
theorem dX13_scan_96 : decode cX13_scan 96 = .ok (.iload_n 1, 1) := by decide +kernel
theorem dX13_scan_97 : decode cX13_scan 97 = .ok (.invokestatic 86, 3) := by decide +kernel
theorem dX13_scan_100 : decode cX13_scan 100 = .ok (.ifCond .eq 56, 3) := by decide +kernel
theorem dX13_scan_103 : decode cX13_scan 103 = .ok (.aload_n 0, 1) := by decide +kernel
theorem dX13_scan_104 : decode cX13_scan 104 = .ok (.aload_n 0, 1) := by decide +kernel
theorem dX13_scan_105 : decode cX13_scan 105 = .ok (.getfield 76, 3) := by decide +kernel
theorem dX13_scan_108 : decode cX13_scan 108 = .ok (.invokevirtual 79, 3) := by decide +kernel
theorem dX13_scan_111 : decode cX13_scan 111 = .ok (.invokestatic 86, 3) := by decide +kernel
theorem dX13_scan_114 : decode cX13_scan 114 = .ok (.ifCond .eq 16, 3) := by decide +kernel
theorem dX13_scan_117 : decode cX13_scan 117 = .ok (.aload_n 0, 1) := by decide +kernel
theorem dX13_scan_118 : decode cX13_scan 118 = .ok (.dup, 1) := by decide +kernel
theorem dX13_scan_119 : decode cX13_scan 119 = .ok (.getfield 76, 3) := by decide +kernel
theorem dX13_scan_122 : decode cX13_scan 122 = .ok (.iconst 1, 1) := by decide +kernel
theorem dX13_scan_123 : decode cX13_scan 123 = .ok (.iadd, 1) := by decide +kernel
theorem dX13_scan_124 : decode cX13_scan 124 = .ok (.putfield 76, 3) := by decide +kernel
theorem dX13_scan_127 : decode cX13_scan 127 = .ok (.goto (-24), 3) := by decide +kernel
theorem dX13_scan_130 : decode cX13_scan 130 = .ok (.aload_n 0, 1) := by decide +kernel
theorem dX13_scan_131 : decode cX13_scan 131 = .ok (.aload_n 0, 1) := by decide +kernel
theorem dX13_scan_132 : decode cX13_scan 132 = .ok (.getfield 76, 3) := by decide +kernel
theorem dX13_scan_135 : decode cX13_scan 135 = .ok (.aload_n 0, 1) := by decide +kernel
theorem dX13_scan_136 : decode cX13_scan 136 = .ok (.getfield 60, 3) := by decide +kernel
theorem dX13_scan_139 : decode cX13_scan 139 = .ok (.isub, 1) := by decide +kernel
theorem dX13_scan_140 : decode cX13_scan 140 = .ok (.bipush 12, 2) := by decide +kernel
theorem dX13_scan_142 : decode cX13_scan 142 = .ok (.if_icmp .le 7, 3) := by decide +kernel
theorem dX13_scan_145 : decode cX13_scan 145 = .ok (.iconst 5, 1) := by decide +kernel
theorem dX13_scan_146 : decode cX13_scan 146 = .ok (.goto 4, 3) := by decide +kernel
theorem dX13_scan_149 : decode cX13_scan 149 = .ok (.iconst 1, 1) := by decide +kernel
theorem dX13_scan_150 : decode cX13_scan 150 = .ok (.putfield 83, 3) := by decide +kernel
theorem dX13_scan_153 : decode cX13_scan 153 = .ok (.goto 167, 3) := by decide +kernel
theorem dX13_scan_156 : decode cX13_scan 156 = .ok (.iload_n 1, 1) := by decide +kernel
theorem dX13_scan_157 : decode cX13_scan 157 = .ok (.bipush 39, 2) := by decide +kernel
theorem dX13_scan_159 : decode cX13_scan 159 = .ok (.if_icmp .ne 89, 3) := by decide +kernel
theorem dX13_scan_162 : decode cX13_scan 162 = .ok (.aload_n 0, 1) := by decide +kernel
theorem dX13_scan_163 : decode cX13_scan 163 = .ok (.aload_n 0, 1) := by decide +kernel
theorem dX13_scan_164 : decode cX13_scan 164 = .ok (.getfield 76, 3) := by decide +kernel
theorem dX13_scan_167 : decode cX13_scan 167 = .ok (.invokevirtual 79, 3) := by decide +kernel
theorem dX13_scan_170 : decode cX13_scan 170 = .ok (.invokestatic 86, 3) := by decide +kernel
theorem dX13_scan_173 : decode cX13_scan 173 = .ok (.ifCond .eq 16, 3) := by decide +kernel
theorem dX13_scan_176 : decode cX13_scan 176 = .ok (.aload_n 0, 1) := by decide +kernel
theorem dX13_scan_177 : decode cX13_scan 177 = .ok (.dup, 1) := by decide +kernel
theorem dX13_scan_178 : decode cX13_scan 178 = .ok (.getfield 76, 3) := by decide +kernel
theorem dX13_scan_181 : decode cX13_scan 181 = .ok (.iconst 1, 1) := by decide +kernel
theorem dX13_scan_182 : decode cX13_scan 182 = .ok (.iadd, 1) := by decide +kernel
theorem dX13_scan_183 : decode cX13_scan 183 = .ok (.putfield 76, 3) := by decide +kernel
theorem dX13_scan_186 : decode cX13_scan 186 = .ok (.goto (-24), 3) := by decide +kernel
theorem dX13_scan_189 : decode cX13_scan 189 = .ok (.aload_n 0, 1) := by decide +kernel
theorem dX13_scan_190 : decode cX13_scan 190 = .ok (.aload_n 0, 1) := by decide +kernel
theorem dX13_scan_191 : decode cX13_scan 191 = .ok (.getfield 76, 3) := by decide +kernel
theorem dX13_scan_194 : decode cX13_scan 194 = .ok (.invokevirtual 79, 3) := by decide +kernel
theorem dX13_scan_197 : decode cX13_scan 197 = .ok (.bipush 39, 2) := by decide +kernel
theorem dX13_scan_199 : decode cX13_scan 199 = .ok (.if_icmp .ne 21, 3) := by decide +kernel
theorem dX13_scan_202 : decode cX13_scan 202 = .ok (.aload_n 0, 1) := by decide +kernel
theorem dX13_scan_203 : decode cX13_scan 203 = .ok (.getfield 76, 3) := by decide +kernel
theorem dX13_scan_206 : decode cX13_scan 206 = .ok (.aload_n 0, 1) := by decide +kernel
theorem dX13_scan_207 : decode cX13_scan 207 = .ok (.getfield 60, 3) := by decide +kernel
theorem dX13_scan_210 : decode cX13_scan 210 = .ok (.isub, 1) := by decide +kernel
theorem dX13_scan_211 : decode cX13_scan 211 = .ok (.bipush 9, 2) := by decide +kernel
theorem dX13_scan_213 : decode cX13_scan 213 = .ok (.if_icmp .gt 7, 3) := by decide +kernel
theorem dX13_scan_216 : decode cX13_scan 216 = .ok (.iconst 1, 1) := by decide +kernel
theorem dX13_scan_217 : decode cX13_scan 217 = .ok (.goto 4, 3) := by decide +kernel
theorem dX13_scan_220 : decode cX13_scan 220 = .ok (.iconst 0, 1) := by decide +kernel
theorem dX13_scan_221 : decode cX13_scan 221 = .ok (.istore_n 2, 1) := by decide +kernel
theorem dX13_scan_222 : decode cX13_scan 222 = .ok (.aload_n 0, 1) := by decide +kernel
theorem dX13_scan_223 : decode cX13_scan 223 = .ok (.iload_n 2, 1) := by decide +kernel
theorem dX13_scan_224 : decode cX13_scan 224 = .ok (.ifCond .eq 7, 3) := by decide +kernel
theorem dX13_scan_227 : decode cX13_scan 227 = .ok (.iconst 3, 1) := by decide +kernel
theorem dX13_scan_228 : decode cX13_scan 228 = .ok (.goto 4, 3) := by decide +kernel
theorem dX13_scan_231 : decode cX13_scan 231 = .ok (.iconst 5, 1) := by decide +kernel
theorem dX13_scan_232 : decode cX13_scan 232 = .ok (.putfield 83, 3) := by decide +kernel
theorem dX13_scan_235 : decode cX13_scan 235 = .ok (.aload_n 0, 1) := by decide +kernel
theorem dX13_scan_236 : decode cX13_scan 236 = .ok (.dup, 1) := by decide +kernel
theorem dX13_scan_237 : decode cX13_scan 237 = .ok (.getfield 76, 3) := by decide +kernel
theorem dX13_scan_240 : decode cX13_scan 240 = .ok (.iconst 1, 1) := by decide +kernel
theorem dX13_scan_241 : decode cX13_scan 241 = .ok (.iadd, 1) := by decide +kernel
theorem dX13_scan_242 : decode cX13_scan 242 = .ok (.putfield 76, 3) := by decide +kernel
theorem dX13_scan_245 : decode cX13_scan 245 = .ok (.goto 75, 3) := by decide +kernel
theorem dX13_scan_248 : decode cX13_scan 248 = .ok (.iload_n 1, 1) := by decide +kernel
theorem dX13_scan_249 : decode cX13_scan 249 = .ok (.invokestatic 90, 3) := by decide +kernel
theorem dX13_scan_252 : decode cX13_scan 252 = .ok (.istore_n 2, 1) := by decide +kernel
theorem dX13_scan_253 : decode cX13_scan 253 = .ok (.iload_n 2, 1) := by decide +kernel
theorem dX13_scan_254 : decode cX13_scan 254 = .ok (.ifCond .eq 30, 3) := by decide +kernel
theorem dX13_scan_257 : decode cX13_scan 257 = .ok (.aload_n 0, 1) := by decide +kernel
theorem dX13_scan_258 : decode cX13_scan 258 = .ok (.aload_n 0, 1) := by decide +kernel
theorem dX13_scan_259 : decode cX13_scan 259 = .ok (.getfield 76, 3) := by decide +kernel
theorem dX13_scan_262 : decode cX13_scan 262 = .ok (.invokevirtual 79, 3) := by decide +kernel
theorem dX13_scan_265 : decode cX13_scan 265 = .ok (.invokestatic 90, 3) := by decide +kernel
theorem dX13_scan_268 : decode cX13_scan 268 = .ok (.ifCond .eq 16, 3) := by decide +kernel
theorem dX13_scan_271 : decode cX13_scan 271 = .ok (.aload_n 0, 1) := by decide +kernel
theorem dX13_scan_272 : decode cX13_scan 272 = .ok (.dup, 1) := by decide +kernel
theorem dX13_scan_273 : decode cX13_scan 273 = .ok (.getfield 76, 3) := by decide +kernel
theorem dX13_scan_276 : decode cX13_scan 276 = .ok (.iconst 1, 1) := by decide +kernel
theorem dX13_scan_277 : decode cX13_scan 277 = .ok (.iadd, 1) := by decide +kernel
theorem dX13_scan_278 : decode cX13_scan 278 = .ok (.putfield 76, 3) := by decide +kernel
theorem dX13_scan_281 : decode cX13_scan 281 = .ok (.goto (-28), 3) := by decide +kernel
theorem dX13_scan_284 : decode cX13_scan 284 = .ok (.aload_n 0, 1) := by decide +kernel
theorem dX13_scan_285 : decode cX13_scan 285 = .ok (.iload_n 2, 1) := by decide +kernel
theorem dX13_scan_286 : decode cX13_scan 286 = .ok (.ifCond .eq 20, 3) := by decide +kernel
theorem dX13_scan_289 : decode cX13_scan 289 = .ok (.aload_n 0, 1) := by decide +kernel
theorem dX13_scan_290 : decode cX13_scan 290 = .ok (.getfield 76, 3) := by decide +kernel
theorem dX13_scan_293 : decode cX13_scan 293 = .ok (.aload_n 0, 1) := by decide +kernel
theorem dX13_scan_294 : decode cX13_scan 294 = .ok (.getfield 60, 3) := by decide +kernel
theorem dX13_scan_297 : decode cX13_scan 297 = .ok (.isub, 1) := by decide +kernel
theorem dX13_scan_298 : decode cX13_scan 298 = .ok (.iconst 1, 1) := by decide +kernel
theorem dX13_scan_299 : decode cX13_scan 299 = .ok (.if_icmp .ne 7, 3) := by decide +kernel
theorem dX13_scan_302 : decode cX13_scan 302 = .ok (.iconst 2, 1) := by decide +kernel
theorem dX13_scan_303 : decode cX13_scan 303 = .ok (.goto 14, 3) := by decide +kernel
theorem dX13_scan_306 : decode cX13_scan 306 = .ok (.iload_n 1, 1) := by decide +kernel
theorem dX13_scan_307 : decode cX13_scan 307 = .ok (.bipush 59, 2) := by decide +kernel
theorem dX13_scan_309 : decode cX13_scan 309 = .ok (.if_icmp .ne 7, 3) := by decide +kernel
theorem dX13_scan_312 : decode cX13_scan 312 = .ok (.iconst 4, 1) := by decide +kernel
theorem dX13_scan_313 : decode cX13_scan 313 = .ok (.goto 4, 3) := by decide +kernel
theorem dX13_scan_316 : decode cX13_scan 316 = .ok (.iconst 5, 1) := by decide +kernel
theorem dX13_scan_317 : decode cX13_scan 317 = .ok (.putfield 83, 3) := by decide +kernel
theorem dX13_scan_320 : decode cX13_scan 320 = .ok (.return_, 1) := by decide +kernel
theorem dX13_byteAt_0 : decode cX13_byteAt 0 = .ok (.iload_n 1, 1) := by decide +kernel
theorem dX13_byteAt_1 : decode cX13_byteAt 1 = .ok (.aload_n 0, 1) := by decide +kernel
theorem dX13_byteAt_2 : decode cX13_byteAt 2 = .ok (.getfield 70, 3) := by decide +kernel
theorem dX13_byteAt_5 : decode cX13_byteAt 5 = .ok (.if_icmp .ge 16, 3) := by decide +kernel
theorem dX13_byteAt_8 : decode cX13_byteAt 8 = .ok (.aload_n 0, 1) := by decide +kernel
theorem dX13_byteAt_9 : decode cX13_byteAt 9 = .ok (.getfield 73, 3) := by decide +kernel
theorem dX13_byteAt_12 : decode cX13_byteAt 12 = .ok (.iload_n 1, 1) := by decide +kernel
theorem dX13_byteAt_13 : decode cX13_byteAt 13 = .ok (.baload, 1) := by decide +kernel
theorem dX13_byteAt_14 : decode cX13_byteAt 14 = .ok (.sipush 255, 3) := by decide +kernel
theorem dX13_byteAt_17 : decode cX13_byteAt 17 = .ok (.iand, 1) := by decide +kernel
theorem dX13_byteAt_18 : decode cX13_byteAt 18 = .ok (.goto 4, 3) := by decide +kernel
theorem dX13_byteAt_21 : decode cX13_byteAt 21 = .ok (.iconst 0, 1) := by decide +kernel
theorem dX13_byteAt_22 : decode cX13_byteAt 22 = .ok (.ireturn, 1) := by decide +kernel
theorem dX13_become_0 : decode cX13_become 0 = .ok (.aload_n 0, 1) := by decide +kernel
theorem dX13_become_1 : decode cX13_become 1 = .ok (.getfield 1, 3) := by decide +kernel
theorem dX13_become_4 : decode cX13_become 4 = .ok (.iconst 0, 1) := by decide +kernel
theorem dX13_become_5 : decode cX13_become 5 = .ok (.aload_n 0, 1) := by decide +kernel
theorem dX13_become_6 : decode cX13_become 6 = .ok (.getfield 1, 3) := by decide +kernel
theorem dX13_become_9 : decode cX13_become 9 = .ok (.iconst 1, 1) := by decide +kernel
theorem dX13_become_10 : decode cX13_become 10 = .ok (.iaload, 1) := by decide +kernel
theorem dX13_become_11 : decode cX13_become 11 = .ok (.iastore, 1) := by decide +kernel
theorem dX13_become_12 : decode cX13_become 12 = .ok (.aload_n 0, 1) := by decide +kernel
theorem dX13_become_13 : decode cX13_become 13 = .ok (.getfield 7, 3) := by decide +kernel
theorem dX13_become_16 : decode cX13_become 16 = .ok (.iconst 0, 1) := by decide +kernel
theorem dX13_become_17 : decode cX13_become 17 = .ok (.aload_n 0, 1) := by decide +kernel
theorem dX13_become_18 : decode cX13_become 18 = .ok (.getfield 7, 3) := by decide +kernel
theorem dX13_become_21 : decode cX13_become 21 = .ok (.iconst 1, 1) := by decide +kernel
theorem dX13_become_22 : decode cX13_become 22 = .ok (.iaload, 1) := by decide +kernel
theorem dX13_become_23 : decode cX13_become 23 = .ok (.iastore, 1) := by decide +kernel
theorem dX13_become_24 : decode cX13_become 24 = .ok (.aload_n 0, 1) := by decide +kernel
theorem dX13_become_25 : decode cX13_become 25 = .ok (.getfield 10, 3) := by decide +kernel
theorem dX13_become_28 : decode cX13_become 28 = .ok (.iconst 0, 1) := by decide +kernel
theorem dX13_become_29 : decode cX13_become 29 = .ok (.aload_n 0, 1) := by decide +kernel
theorem dX13_become_30 : decode cX13_become 30 = .ok (.getfield 10, 3) := by decide +kernel
theorem dX13_become_33 : decode cX13_become 33 = .ok (.iconst 1, 1) := by decide +kernel
theorem dX13_become_34 : decode cX13_become 34 = .ok (.iaload, 1) := by decide +kernel
theorem dX13_become_35 : decode cX13_become 35 = .ok (.iastore, 1) := by decide +kernel
theorem dX13_become_36 : decode cX13_become 36 = .ok (.iconst 0, 1) := by decide +kernel
theorem dX13_become_37 : decode cX13_become 37 = .ok (.istore_n 1, 1) := by decide +kernel
theorem dX13_become_38 : decode cX13_become 38 = .ok (.iload_n 1, 1) := by decide +kernel
theorem dX13_become_39 : decode cX13_become 39 = .ok (.bipush 30, 2) := by decide +kernel
theorem dX13_become_41 : decode cX13_become 41 = .ok (.if_icmp .ge 39, 3) := by decide +kernel
theorem dX13_become_44 : decode cX13_become 44 = .ok (.aload_n 0, 1) := by decide +kernel
theorem dX13_become_45 : decode cX13_become 45 = .ok (.getfield 13, 3) := by decide +kernel
theorem dX13_become_48 : decode cX13_become 48 = .ok (.iload_n 1, 1) := by decide +kernel
theorem dX13_become_49 : decode cX13_become 49 = .ok (.aload_n 0, 1) := by decide +kernel
theorem dX13_become_50 : decode cX13_become 50 = .ok (.getfield 13, 3) := by decide +kernel
theorem dX13_become_53 : decode cX13_become 53 = .ok (.bipush 30, 2) := by decide +kernel
theorem dX13_become_55 : decode cX13_become 55 = .ok (.iload_n 1, 1) := by decide +kernel
theorem dX13_become_56 : decode cX13_become 56 = .ok (.iadd, 1) := by decide +kernel
theorem dX13_become_57 : decode cX13_become 57 = .ok (.iaload, 1) := by decide +kernel
theorem dX13_become_58 : decode cX13_become 58 = .ok (.iastore, 1) := by decide +kernel
theorem dX13_become_59 : decode cX13_become 59 = .ok (.aload_n 0, 1) := by decide +kernel
theorem dX13_become_60 : decode cX13_become 60 = .ok (.getfield 16, 3) := by decide +kernel
theorem dX13_become_63 : decode cX13_become 63 = .ok (.iload_n 1, 1) := by decide +kernel
theorem dX13_become_64 : decode cX13_become 64 = .ok (.aload_n 0, 1) := by decide +kernel
theorem dX13_become_65 : decode cX13_become 65 = .ok (.getfield 16, 3) := by decide +kernel
theorem dX13_become_68 : decode cX13_become 68 = .ok (.bipush 30, 2) := by decide +kernel
theorem dX13_become_70 : decode cX13_become 70 = .ok (.iload_n 1, 1) := by decide +kernel
theorem dX13_become_71 : decode cX13_become 71 = .ok (.iadd, 1) := by decide +kernel
theorem dX13_become_72 : decode cX13_become 72 = .ok (.iaload, 1) := by decide +kernel
theorem dX13_become_73 : decode cX13_become 73 = .ok (.iastore, 1) := by decide +kernel
theorem dX13_become_74 : decode cX13_become 74 = .ok (.iinc 1 1, 3) := by decide +kernel
theorem dX13_become_77 : decode cX13_become 77 = .ok (.goto (-39), 3) := by decide +kernel
theorem dX13_become_80 : decode cX13_become 80 = .ok (.iconst 0, 1) := by decide +kernel
theorem dX13_become_81 : decode cX13_become 81 = .ok (.istore_n 1, 1) := by decide +kernel
theorem dX13_become_82 : decode cX13_become 82 = .ok (.iload_n 1, 1) := by decide +kernel
theorem dX13_become_83 : decode cX13_become 83 = .ok (.sipush 360, 3) := by decide +kernel
theorem dX13_become_86 : decode cX13_become 86 = .ok (.if_icmp .ge 25, 3) := by decide +kernel
theorem dX13_become_89 : decode cX13_become 89 = .ok (.aload_n 0, 1) := by decide +kernel
theorem dX13_become_90 : decode cX13_become 90 = .ok (.getfield 19, 3) := by decide +kernel
theorem dX13_become_93 : decode cX13_become 93 = .ok (.iload_n 1, 1) := by decide +kernel
theorem dX13_become_94 : decode cX13_become 94 = .ok (.aload_n 0, 1) := by decide +kernel
theorem dX13_become_95 : decode cX13_become 95 = .ok (.getfield 19, 3) := by decide +kernel
theorem dX13_become_98 : decode cX13_become 98 = .ok (.sipush 360, 3) := by decide +kernel
theorem dX13_become_101 : decode cX13_become 101 = .ok (.iload_n 1, 1) := by decide +kernel
theorem dX13_become_102 : decode cX13_become 102 = .ok (.iadd, 1) := by decide +kernel
theorem dX13_become_103 : decode cX13_become 103 = .ok (.baload, 1) := by decide +kernel
theorem dX13_become_104 : decode cX13_become 104 = .ok (.bastore, 1) := by decide +kernel
theorem dX13_become_105 : decode cX13_become 105 = .ok (.iinc 1 1, 3) := by decide +kernel
theorem dX13_become_108 : decode cX13_become 108 = .ok (.goto (-26), 3) := by decide +kernel
theorem dX13_become_111 : decode cX13_become 111 = .ok (.iconst 0, 1) := by decide +kernel
theorem dX13_become_112 : decode cX13_become 112 = .ok (.istore_n 1, 1) := by decide +kernel
theorem dX13_become_113 : decode cX13_become 113 = .ok (.iload_n 1, 1) := by decide +kernel
theorem dX13_become_114 : decode cX13_become 114 = .ok (.sipush 480, 3) := by decide +kernel
theorem dX13_become_117 : decode cX13_become 117 = .ok (.if_icmp .ge 41, 3) := by decide +kernel
theorem dX13_become_120 : decode cX13_become 120 = .ok (.aload_n 0, 1) := by decide +kernel
theorem dX13_become_121 : decode cX13_become 121 = .ok (.getfield 23, 3) := by decide +kernel
theorem dX13_become_124 : decode cX13_become 124 = .ok (.iload_n 1, 1) := by decide +kernel
theorem dX13_become_125 : decode cX13_become 125 = .ok (.aload_n 0, 1) := by decide +kernel
theorem dX13_become_126 : decode cX13_become 126 = .ok (.getfield 23, 3) := by decide +kernel
theorem dX13_become_129 : decode cX13_become 129 = .ok (.sipush 480, 3) := by decide +kernel
theorem dX13_become_132 : decode cX13_become 132 = .ok (.iload_n 1, 1) := by decide +kernel
theorem dX13_become_133 : decode cX13_become 133 = .ok (.iadd, 1) := by decide +kernel
theorem dX13_become_134 : decode cX13_become 134 = .ok (.baload, 1) := by decide +kernel
theorem dX13_become_135 : decode cX13_become 135 = .ok (.bastore, 1) := by decide +kernel
theorem dX13_become_136 : decode cX13_become 136 = .ok (.aload_n 0, 1) := by decide +kernel
theorem dX13_become_137 : decode cX13_become 137 = .ok (.getfield 26, 3) := by decide +kernel
theorem dX13_become_140 : decode cX13_become 140 = .ok (.iload_n 1, 1) := by decide +kernel
theorem dX13_become_141 : decode cX13_become 141 = .ok (.aload_n 0, 1) := by decide +kernel
theorem dX13_become_142 : decode cX13_become 142 = .ok (.getfield 26, 3) := by decide +kernel
theorem dX13_become_145 : decode cX13_become 145 = .ok (.sipush 480, 3) := by decide +kernel
theorem dX13_become_148 : decode cX13_become 148 = .ok (.iload_n 1, 1) := by decide +kernel
theorem dX13_become_149 : decode cX13_become 149 = .ok (.iadd, 1) := by decide +kernel
theorem dX13_become_150 : decode cX13_become 150 = .ok (.baload, 1) := by decide +kernel
theorem dX13_become_151 : decode cX13_become 151 = .ok (.bastore, 1) := by decide +kernel
theorem dX13_become_152 : decode cX13_become 152 = .ok (.iinc 1 1, 3) := by decide +kernel
theorem dX13_become_155 : decode cX13_become 155 = .ok (.goto (-42), 3) := by decide +kernel
theorem dX13_become_158 : decode cX13_become 158 = .ok (.iconst 0, 1) := by decide +kernel
theorem dX13_become_159 : decode cX13_become 159 = .ok (.istore_n 1, 1) := by decide +kernel
theorem dX13_become_160 : decode cX13_become 160 = .ok (.iload_n 1, 1) := by decide +kernel
theorem dX13_become_161 : decode cX13_become 161 = .ok (.bipush 60, 2) := by decide +kernel
theorem dX13_become_163 : decode cX13_become 163 = .ok (.if_icmp .ge 144, 3) := by decide +kernel
theorem dX13_become_166 : decode cX13_become 166 = .ok (.aload_n 0, 1) := by decide +kernel
theorem dX13_become_167 : decode cX13_become 167 = .ok (.getfield 29, 3) := by decide +kernel
theorem dX13_become_170 : decode cX13_become 170 = .ok (.iload_n 1, 1) := by decide +kernel
theorem dX13_become_171 : decode cX13_become 171 = .ok (.aload_n 0, 1) := by decide +kernel
theorem dX13_become_172 : decode cX13_become 172 = .ok (.getfield 29, 3) := by decide +kernel
theorem dX13_become_175 : decode cX13_become 175 = .ok (.bipush 60, 2) := by decide +kernel
theorem dX13_become_177 : decode cX13_become 177 = .ok (.iload_n 1, 1) := by decide +kernel
theorem dX13_become_178 : decode cX13_become 178 = .ok (.iadd, 1) := by decide +kernel
theorem dX13_become_179 : decode cX13_become 179 = .ok (.iaload, 1) := by decide +kernel
theorem dX13_become_180 : decode cX13_become 180 = .ok (.iastore, 1) := by decide +kernel
theorem dX13_become_181 : decode cX13_become 181 = .ok (.aload_n 0, 1) := by decide +kernel
theorem dX13_become_182 : decode cX13_become 182 = .ok (.getfield 32, 3) := by decide +kernel
theorem dX13_become_185 : decode cX13_become 185 = .ok (.iload_n 1, 1) := by decide +kernel
theorem dX13_become_186 : decode cX13_become 186 = .ok (.aload_n 0, 1) := by decide +kernel
theorem dX13_become_187 : decode cX13_become 187 = .ok (.getfield 32, 3) := by decide +kernel
theorem dX13_become_190 : decode cX13_become 190 = .ok (.bipush 60, 2) := by decide +kernel
theorem dX13_become_192 : decode cX13_become 192 = .ok (.iload_n 1, 1) := by decide +kernel
theorem dX13_become_193 : decode cX13_become 193 = .ok (.iadd, 1) := by decide +kernel
theorem dX13_become_194 : decode cX13_become 194 = .ok (.iaload, 1) := by decide +kernel
theorem dX13_become_195 : decode cX13_become 195 = .ok (.iastore, 1) := by decide +kernel
theorem dX13_become_196 : decode cX13_become 196 = .ok (.aload_n 0, 1) := by decide +kernel
theorem dX13_become_197 : decode cX13_become 197 = .ok (.getfield 35, 3) := by decide +kernel
theorem dX13_become_200 : decode cX13_become 200 = .ok (.iload_n 1, 1) := by decide +kernel
theorem dX13_become_201 : decode cX13_become 201 = .ok (.aload_n 0, 1) := by decide +kernel
theorem dX13_become_202 : decode cX13_become 202 = .ok (.getfield 35, 3) := by decide +kernel
theorem dX13_become_205 : decode cX13_become 205 = .ok (.bipush 60, 2) := by decide +kernel
theorem dX13_become_207 : decode cX13_become 207 = .ok (.iload_n 1, 1) := by decide +kernel
theorem dX13_become_208 : decode cX13_become 208 = .ok (.iadd, 1) := by decide +kernel
theorem dX13_become_209 : decode cX13_become 209 = .ok (.iaload, 1) := by decide +kernel
theorem dX13_become_210 : decode cX13_become 210 = .ok (.iastore, 1) := by decide +kernel
theorem dX13_become_211 : decode cX13_become 211 = .ok (.aload_n 0, 1) := by decide +kernel
theorem dX13_become_212 : decode cX13_become 212 = .ok (.getfield 38, 3) := by decide +kernel
theorem dX13_become_215 : decode cX13_become 215 = .ok (.iload_n 1, 1) := by decide +kernel
theorem dX13_become_216 : decode cX13_become 216 = .ok (.aload_n 0, 1) := by decide +kernel
theorem dX13_become_217 : decode cX13_become 217 = .ok (.getfield 38, 3) := by decide +kernel
theorem dX13_become_220 : decode cX13_become 220 = .ok (.bipush 60, 2) := by decide +kernel
theorem dX13_become_222 : decode cX13_become 222 = .ok (.iload_n 1, 1) := by decide +kernel
theorem dX13_become_223 : decode cX13_become 223 = .ok (.iadd, 1) := by decide +kernel
theorem dX13_become_224 : decode cX13_become 224 = .ok (.iaload, 1) := by decide +kernel
theorem dX13_become_225 : decode cX13_become 225 = .ok (.iastore, 1) := by decide +kernel
theorem dX13_become_226 : decode cX13_become 226 = .ok (.aload_n 0, 1) := by decide +kernel
theorem dX13_become_227 : decode cX13_become 227 = .ok (.getfield 41, 3) := by decide +kernel
theorem dX13_become_230 : decode cX13_become 230 = .ok (.iload_n 1, 1) := by decide +kernel
theorem dX13_become_231 : decode cX13_become 231 = .ok (.aload_n 0, 1) := by decide +kernel
theorem dX13_become_232 : decode cX13_become 232 = .ok (.getfield 41, 3) := by decide +kernel
theorem dX13_become_235 : decode cX13_become 235 = .ok (.bipush 60, 2) := by decide +kernel
theorem dX13_become_237 : decode cX13_become 237 = .ok (.iload_n 1, 1) := by decide +kernel
theorem dX13_become_238 : decode cX13_become 238 = .ok (.iadd, 1) := by decide +kernel
theorem dX13_become_239 : decode cX13_become 239 = .ok (.iaload, 1) := by decide +kernel
theorem dX13_become_240 : decode cX13_become 240 = .ok (.iastore, 1) := by decide +kernel
theorem dX13_become_241 : decode cX13_become 241 = .ok (.aload_n 0, 1) := by decide +kernel
theorem dX13_become_242 : decode cX13_become 242 = .ok (.getfield 44, 3) := by decide +kernel
theorem dX13_become_245 : decode cX13_become 245 = .ok (.iload_n 1, 1) := by decide +kernel
theorem dX13_become_246 : decode cX13_become 246 = .ok (.aload_n 0, 1) := by decide +kernel
theorem dX13_become_247 : decode cX13_become 247 = .ok (.getfield 44, 3) := by decide +kernel
theorem dX13_become_250 : decode cX13_become 250 = .ok (.bipush 60, 2) := by decide +kernel
theorem dX13_become_252 : decode cX13_become 252 = .ok (.iload_n 1, 1) := by decide +kernel
theorem dX13_become_253 : decode cX13_become 253 = .ok (.iadd, 1) := by decide +kernel
theorem dX13_become_254 : decode cX13_become 254 = .ok (.iaload, 1) := by decide +kernel
theorem dX13_become_255 : decode cX13_become 255 = .ok (.iastore, 1) := by decide +kernel
theorem dX13_become_256 : decode cX13_become 256 = .ok (.aload_n 0, 1) := by decide +kernel
theorem dX13_become_257 : decode cX13_become 257 = .ok (.getfield 47, 3) := by decide +kernel
theorem dX13_become_260 : decode cX13_become 260 = .ok (.iload_n 1, 1) := by decide +kernel
theorem dX13_become_261 : decode cX13_become 261 = .ok (.aload_n 0, 1) := by decide +kernel
theorem dX13_become_262 : decode cX13_become 262 = .ok (.getfield 47, 3) := by decide +kernel
theorem dX13_become_265 : decode cX13_become 265 = .ok (.bipush 60, 2) := by decide +kernel
theorem dX13_become_267 : decode cX13_become 267 = .ok (.iload_n 1, 1) := by decide +kernel
theorem dX13_become_268 : decode cX13_become 268 = .ok (.iadd, 1) := by decide +kernel
theorem dX13_become_269 : decode cX13_become 269 = .ok (.iaload, 1) := by decide +kernel
theorem dX13_become_270 : decode cX13_become 270 = .ok (.iastore, 1) := by decide +kernel
theorem dX13_become_271 : decode cX13_become 271 = .ok (.aload_n 0, 1) := by decide +kernel
theorem dX13_become_272 : decode cX13_become 272 = .ok (.getfield 50, 3) := by decide +kernel
theorem dX13_become_275 : decode cX13_become 275 = .ok (.iload_n 1, 1) := by decide +kernel
theorem dX13_become_276 : decode cX13_become 276 = .ok (.aload_n 0, 1) := by decide +kernel
theorem dX13_become_277 : decode cX13_become 277 = .ok (.getfield 50, 3) := by decide +kernel
theorem dX13_become_280 : decode cX13_become 280 = .ok (.bipush 60, 2) := by decide +kernel
theorem dX13_become_282 : decode cX13_become 282 = .ok (.iload_n 1, 1) := by decide +kernel
theorem dX13_become_283 : decode cX13_become 283 = .ok (.iadd, 1) := by decide +kernel
theorem dX13_become_284 : decode cX13_become 284 = .ok (.iaload, 1) := by decide +kernel
theorem dX13_become_285 : decode cX13_become 285 = .ok (.iastore, 1) := by decide +kernel
theorem dX13_become_286 : decode cX13_become 286 = .ok (.aload_n 0, 1) := by decide +kernel
theorem dX13_become_287 : decode cX13_become 287 = .ok (.getfield 53, 3) := by decide +kernel
theorem dX13_become_290 : decode cX13_become 290 = .ok (.iload_n 1, 1) := by decide +kernel
theorem dX13_become_291 : decode cX13_become 291 = .ok (.aload_n 0, 1) := by decide +kernel
theorem dX13_become_292 : decode cX13_become 292 = .ok (.getfield 53, 3) := by decide +kernel
theorem dX13_become_295 : decode cX13_become 295 = .ok (.bipush 60, 2) := by decide +kernel
theorem dX13_become_297 : decode cX13_become 297 = .ok (.iload_n 1, 1) := by decide +kernel
theorem dX13_become_298 : decode cX13_become 298 = .ok (.iadd, 1) := by decide +kernel
theorem dX13_become_299 : decode cX13_become 299 = .ok (.iaload, 1) := by decide +kernel
theorem dX13_become_300 : decode cX13_become 300 = .ok (.iastore, 1) := by decide +kernel
theorem dX13_become_301 : decode cX13_become 301 = .ok (.iinc 1 1, 3) := by decide +kernel
theorem dX13_become_304 : decode cX13_become 304 = .ok (.goto (-144), 3) := by decide +kernel
theorem dX13_become_307 : decode cX13_become 307 = .ok (.return_, 1) := by decide +kernel
theorem dX13_fault_0 : decode cX13_fault 0 = .ok (.iload_n 1, 1) := by decide +kernel
theorem dX13_fault_1 : decode cX13_fault 1 = .ok (.ifCond .ne 10, 3) := by decide +kernel
theorem dX13_fault_4 : decode cX13_fault 4 = .ok (.aload_n 0, 1) := by decide +kernel
theorem dX13_fault_5 : decode cX13_fault 5 = .ok (.getfield 56, 3) := by decide +kernel
theorem dX13_fault_8 : decode cX13_fault 8 = .ok (.goto 16, 3) := by decide +kernel
theorem dX13_fault_11 : decode cX13_fault 11 = .ok (.iload_n 1, 1) := by decide +kernel
theorem dX13_fault_12 : decode cX13_fault 12 = .ok (.iconst 1, 1) := by decide +kernel
theorem dX13_fault_13 : decode cX13_fault 13 = .ok (.if_icmp .ne 10, 3) := by decide +kernel
theorem dX13_fault_16 : decode cX13_fault 16 = .ok (.aload_n 0, 1) := by decide +kernel
theorem dX13_fault_17 : decode cX13_fault 17 = .ok (.getfield 63, 3) := by decide +kernel
theorem dX13_fault_20 : decode cX13_fault 20 = .ok (.goto 4, 3) := by decide +kernel
theorem dX13_fault_23 : decode cX13_fault 23 = .ok (.iconst (-1), 1) := by decide +kernel
theorem dX13_fault_24 : decode cX13_fault 24 = .ok (.ireturn, 1) := by decide +kernel
theorem dX13_verb_0 : decode cX13_verb 0 = .ok (.aload_n 0, 1) := by decide +kernel
theorem dX13_verb_1 : decode cX13_verb 1 = .ok (.iload_n 1, 1) := by decide +kernel
theorem dX13_verb_2 : decode cX13_verb 2 = .ok (.invokevirtual 317, 3) := by decide +kernel
theorem dX13_verb_5 : decode cX13_verb 5 = .ok (.ifCond .ne 5, 3) := by decide +kernel
theorem dX13_verb_8 : decode cX13_verb 8 = .ok (.iconst (-1), 1) := by decide +kernel
theorem dX13_verb_9 : decode cX13_verb 9 = .ok (.ireturn, 1) := by decide +kernel
theorem dX13_verb_10 : decode cX13_verb 10 = .ok (.iload_n 2, 1) := by decide +kernel
theorem dX13_verb_11 : decode cX13_verb 11 = .ok (.i2l, 1) := by decide +kernel
theorem dX13_verb_12 : decode cX13_verb 12 = .ok (.ldc2_w 320, 3) := by decide +kernel
theorem dX13_verb_15 : decode cX13_verb 15 = .ok (.ldc2_w 322, 3) := by decide +kernel
theorem dX13_verb_18 : decode cX13_verb 18 = .ok (.aload_n 0, 1) := by decide +kernel
theorem dX13_verb_19 : decode cX13_verb 19 = .ok (.getfield 13, 3) := by decide +kernel
theorem dX13_verb_22 : decode cX13_verb 22 = .ok (.iload_n 1, 1) := by decide +kernel
theorem dX13_verb_23 : decode cX13_verb 23 = .ok (.iaload, 1) := by decide +kernel
theorem dX13_verb_24 : decode cX13_verb 24 = .ok (.i2l, 1) := by decide +kernel
theorem dX13_verb_25 : decode cX13_verb 25 = .ok (.ladd, 1) := by decide +kernel
theorem dX13_verb_26 : decode cX13_verb 26 = .ok (.invokestatic 301, 3) := by decide +kernel
theorem dX13_verb_29 : decode cX13_verb 29 = .ok (.ifCond .eq 18, 3) := by decide +kernel
theorem dX13_verb_32 : decode cX13_verb 32 = .ok (.aload_n 0, 1) := by decide +kernel
theorem dX13_verb_33 : decode cX13_verb 33 = .ok (.getfield 19, 3) := by decide +kernel
theorem dX13_verb_36 : decode cX13_verb 36 = .ok (.bipush 12, 2) := by decide +kernel
theorem dX13_verb_38 : decode cX13_verb 38 = .ok (.iload_n 1, 1) := by decide +kernel
theorem dX13_verb_39 : decode cX13_verb 39 = .ok (.imul, 1) := by decide +kernel
theorem dX13_verb_40 : decode cX13_verb 40 = .ok (.iload_n 2, 1) := by decide +kernel
theorem dX13_verb_41 : decode cX13_verb 41 = .ok (.iadd, 1) := by decide +kernel
theorem dX13_verb_42 : decode cX13_verb 42 = .ok (.bipush 10, 2) := by decide +kernel
theorem dX13_verb_44 : decode cX13_verb 44 = .ok (.isub, 1) := by decide +kernel
theorem dX13_verb_45 : decode cX13_verb 45 = .ok (.baload, 1) := by decide +kernel
theorem dX13_verb_46 : decode cX13_verb 46 = .ok (.ireturn, 1) := by decide +kernel
theorem dX13_verb_47 : decode cX13_verb 47 = .ok (.iload_n 2, 1) := by decide +kernel
theorem dX13_verb_48 : decode cX13_verb 48 = .ok (.ifCond .ne 12, 3) := by decide +kernel
theorem dX13_verb_51 : decode cX13_verb 51 = .ok (.aload_n 0, 1) := by decide +kernel
theorem dX13_verb_52 : decode cX13_verb 52 = .ok (.getfield 16, 3) := by decide +kernel
theorem dX13_verb_55 : decode cX13_verb 55 = .ok (.iload_n 1, 1) := by decide +kernel
theorem dX13_verb_56 : decode cX13_verb 56 = .ok (.iaload, 1) := by decide +kernel
theorem dX13_verb_57 : decode cX13_verb 57 = .ok (.goto 18, 3) := by decide +kernel
theorem dX13_verb_60 : decode cX13_verb 60 = .ok (.iload_n 2, 1) := by decide +kernel
theorem dX13_verb_61 : decode cX13_verb 61 = .ok (.iconst 1, 1) := by decide +kernel
theorem dX13_verb_62 : decode cX13_verb 62 = .ok (.if_icmp .ne 12, 3) := by decide +kernel
theorem dX13_verb_65 : decode cX13_verb 65 = .ok (.aload_n 0, 1) := by decide +kernel
theorem dX13_verb_66 : decode cX13_verb 66 = .ok (.getfield 13, 3) := by decide +kernel
theorem dX13_verb_69 : decode cX13_verb 69 = .ok (.iload_n 1, 1) := by decide +kernel
theorem dX13_verb_70 : decode cX13_verb 70 = .ok (.iaload, 1) := by decide +kernel
theorem dX13_verb_71 : decode cX13_verb 71 = .ok (.goto 4, 3) := by decide +kernel
theorem dX13_verb_74 : decode cX13_verb 74 = .ok (.iconst (-1), 1) := by decide +kernel
theorem dX13_verb_75 : decode cX13_verb 75 = .ok (.ireturn, 1) := by decide +kernel
theorem dX13_isVerb_0 : decode cX13_isVerb 0 = .ok (.iload_n 1, 1) := by decide +kernel
theorem dX13_isVerb_1 : decode cX13_isVerb 1 = .ok (.i2l, 1) := by decide +kernel
theorem dX13_isVerb_2 : decode cX13_isVerb 2 = .ok (.lconst 0, 1) := by decide +kernel
theorem dX13_isVerb_3 : decode cX13_isVerb 3 = .ok (.aload_n 0, 1) := by decide +kernel
theorem dX13_isVerb_4 : decode cX13_isVerb 4 = .ok (.getfield 7, 3) := by decide +kernel
theorem dX13_isVerb_7 : decode cX13_isVerb 7 = .ok (.iconst 0, 1) := by decide +kernel
theorem dX13_isVerb_8 : decode cX13_isVerb 8 = .ok (.iaload, 1) := by decide +kernel
theorem dX13_isVerb_9 : decode cX13_isVerb 9 = .ok (.i2l, 1) := by decide +kernel
theorem dX13_isVerb_10 : decode cX13_isVerb 10 = .ok (.lconst 1, 1) := by decide +kernel
theorem dX13_isVerb_11 : decode cX13_isVerb 11 = .ok (.lsub, 1) := by decide +kernel
theorem dX13_isVerb_12 : decode cX13_isVerb 12 = .ok (.invokestatic 301, 3) := by decide +kernel
theorem dX13_isVerb_15 : decode cX13_isVerb 15 = .ok (.ireturn, 1) := by decide +kernel
theorem dX13_line_0 : decode cX13_line 0 = .ok (.aload_n 0, 1) := by decide +kernel
theorem dX13_line_1 : decode cX13_line 1 = .ok (.iload_n 1, 1) := by decide +kernel
theorem dX13_line_2 : decode cX13_line 2 = .ok (.invokevirtual 324, 3) := by decide +kernel
theorem dX13_line_5 : decode cX13_line 5 = .ok (.ifCond .ne 6, 3) := by decide +kernel
theorem dX13_line_8 : decode cX13_line 8 = .ok (.bipush (-9), 2) := by decide +kernel
theorem dX13_line_10 : decode cX13_line 10 = .ok (.ireturn, 1) := by decide +kernel
theorem dX13_line_11 : decode cX13_line 11 = .ok (.iload_n 2, 1) := by decide +kernel
theorem dX13_line_12 : decode cX13_line 12 = .ok (.tableswitch 93 0 6 #[44, 51, 58, 65, 72, 79, 86], 44) := by decide +kernel
theorem dX13_line_56 : decode cX13_line 56 = .ok (.aload_n 0, 1) := by decide +kernel
theorem dX13_line_57 : decode cX13_line 57 = .ok (.getfield 29, 3) := by decide +kernel
theorem dX13_line_60 : decode cX13_line 60 = .ok (.iload_n 1, 1) := by decide +kernel
theorem dX13_line_61 : decode cX13_line 61 = .ok (.iaload, 1) := by decide +kernel
theorem dX13_line_62 : decode cX13_line 62 = .ok (.ireturn, 1) := by decide +kernel
theorem dX13_line_63 : decode cX13_line 63 = .ok (.aload_n 0, 1) := by decide +kernel
theorem dX13_line_64 : decode cX13_line 64 = .ok (.getfield 32, 3) := by decide +kernel
theorem dX13_line_67 : decode cX13_line 67 = .ok (.iload_n 1, 1) := by decide +kernel
theorem dX13_line_68 : decode cX13_line 68 = .ok (.iaload, 1) := by decide +kernel
theorem dX13_line_69 : decode cX13_line 69 = .ok (.ireturn, 1) := by decide +kernel
theorem dX13_line_70 : decode cX13_line 70 = .ok (.aload_n 0, 1) := by decide +kernel
theorem dX13_line_71 : decode cX13_line 71 = .ok (.getfield 35, 3) := by decide +kernel
theorem dX13_line_74 : decode cX13_line 74 = .ok (.iload_n 1, 1) := by decide +kernel
theorem dX13_line_75 : decode cX13_line 75 = .ok (.iaload, 1) := by decide +kernel
theorem dX13_line_76 : decode cX13_line 76 = .ok (.ireturn, 1) := by decide +kernel
theorem dX13_line_77 : decode cX13_line 77 = .ok (.aload_n 0, 1) := by decide +kernel
theorem dX13_line_78 : decode cX13_line 78 = .ok (.getfield 38, 3) := by decide +kernel
theorem dX13_line_81 : decode cX13_line 81 = .ok (.iload_n 1, 1) := by decide +kernel
theorem dX13_line_82 : decode cX13_line 82 = .ok (.iaload, 1) := by decide +kernel
theorem dX13_line_83 : decode cX13_line 83 = .ok (.ireturn, 1) := by decide +kernel
theorem dX13_line_84 : decode cX13_line 84 = .ok (.aload_n 0, 1) := by decide +kernel
theorem dX13_line_85 : decode cX13_line 85 = .ok (.getfield 41, 3) := by decide +kernel
theorem dX13_line_88 : decode cX13_line 88 = .ok (.iload_n 1, 1) := by decide +kernel
theorem dX13_line_89 : decode cX13_line 89 = .ok (.iaload, 1) := by decide +kernel
theorem dX13_line_90 : decode cX13_line 90 = .ok (.ireturn, 1) := by decide +kernel
theorem dX13_line_91 : decode cX13_line 91 = .ok (.aload_n 0, 1) := by decide +kernel
theorem dX13_line_92 : decode cX13_line 92 = .ok (.getfield 44, 3) := by decide +kernel
theorem dX13_line_95 : decode cX13_line 95 = .ok (.iload_n 1, 1) := by decide +kernel
theorem dX13_line_96 : decode cX13_line 96 = .ok (.iaload, 1) := by decide +kernel
theorem dX13_line_97 : decode cX13_line 97 = .ok (.ireturn, 1) := by decide +kernel
theorem dX13_line_98 : decode cX13_line 98 = .ok (.aload_n 0, 1) := by decide +kernel
theorem dX13_line_99 : decode cX13_line 99 = .ok (.getfield 47, 3) := by decide +kernel
theorem dX13_line_102 : decode cX13_line 102 = .ok (.iload_n 1, 1) := by decide +kernel
theorem dX13_line_103 : decode cX13_line 103 = .ok (.iaload, 1) := by decide +kernel
theorem dX13_line_104 : decode cX13_line 104 = .ok (.ireturn, 1) := by decide +kernel
theorem dX13_line_105 : decode cX13_line 105 = .ok (.bipush (-9), 2) := by decide +kernel
theorem dX13_line_107 : decode cX13_line 107 = .ok (.ireturn, 1) := by decide +kernel
theorem dX13_isLine_0 : decode cX13_isLine 0 = .ok (.iload_n 1, 1) := by decide +kernel
theorem dX13_isLine_1 : decode cX13_isLine 1 = .ok (.i2l, 1) := by decide +kernel
theorem dX13_isLine_2 : decode cX13_isLine 2 = .ok (.lconst 0, 1) := by decide +kernel
theorem dX13_isLine_3 : decode cX13_isLine 3 = .ok (.aload_n 0, 1) := by decide +kernel
theorem dX13_isLine_4 : decode cX13_isLine 4 = .ok (.getfield 10, 3) := by decide +kernel
theorem dX13_isLine_7 : decode cX13_isLine 7 = .ok (.iconst 0, 1) := by decide +kernel
theorem dX13_isLine_8 : decode cX13_isLine 8 = .ok (.iaload, 1) := by decide +kernel
theorem dX13_isLine_9 : decode cX13_isLine 9 = .ok (.i2l, 1) := by decide +kernel
theorem dX13_isLine_10 : decode cX13_isLine 10 = .ok (.lconst 1, 1) := by decide +kernel
theorem dX13_isLine_11 : decode cX13_isLine 11 = .ok (.lsub, 1) := by decide +kernel
theorem dX13_isLine_12 : decode cX13_isLine 12 = .ok (.invokestatic 301, 3) := by decide +kernel
theorem dX13_isLine_15 : decode cX13_isLine 15 = .ok (.ireturn, 1) := by decide +kernel
theorem dX13_forms_0 : decode cX13_forms 0 = .ok (.aload_n 0, 1) := by decide +kernel
theorem dX13_forms_1 : decode cX13_forms 1 = .ok (.iload_n 1, 1) := by decide +kernel
theorem dX13_forms_2 : decode cX13_forms 2 = .ok (.iload_n 2, 1) := by decide +kernel
theorem dX13_forms_3 : decode cX13_forms 3 = .ok (.iload_n 3, 1) := by decide +kernel
theorem dX13_forms_4 : decode cX13_forms 4 = .ok (.invokevirtual 380, 3) := by decide +kernel
theorem dX13_forms_7 : decode cX13_forms 7 = .ok (.ifCond .ne 6, 3) := by decide +kernel
theorem dX13_forms_10 : decode cX13_forms 10 = .ok (.bipush (-2), 2) := by decide +kernel
theorem dX13_forms_12 : decode cX13_forms 12 = .ok (.ireturn, 1) := by decide +kernel
theorem dX13_forms_13 : decode cX13_forms 13 = .ok (.aload_n 0, 1) := by decide +kernel
theorem dX13_forms_14 : decode cX13_forms 14 = .ok (.iload_n 1, 1) := by decide +kernel
theorem dX13_forms_15 : decode cX13_forms 15 = .ok (.iload_n 2, 1) := by decide +kernel
theorem dX13_forms_16 : decode cX13_forms 16 = .ok (.iload_n 3, 1) := by decide +kernel
theorem dX13_forms_17 : decode cX13_forms 17 = .ok (.invokevirtual 384, 3) := by decide +kernel
theorem dX13_forms_20 : decode cX13_forms 20 = .ok (.aload_n 0, 1) := by decide +kernel
theorem dX13_forms_21 : decode cX13_forms 21 = .ok (.getfield 344, 3) := by decide +kernel
theorem dX13_forms_24 : decode cX13_forms 24 = .ok (.ireturn, 1) := by decide +kernel
theorem dX13_isPlace_0 : decode cX13_isPlace 0 = .ok (.aload_n 0, 1) := by decide +kernel
theorem dX13_isPlace_1 : decode cX13_isPlace 1 = .ok (.iload_n 1, 1) := by decide +kernel
theorem dX13_isPlace_2 : decode cX13_isPlace 2 = .ok (.invokevirtual 317, 3) := by decide +kernel
theorem dX13_isPlace_5 : decode cX13_isPlace 5 = .ok (.ifCond .eq 31, 3) := by decide +kernel
theorem dX13_isPlace_8 : decode cX13_isPlace 8 = .ok (.iload_n 2, 1) := by decide +kernel
theorem dX13_isPlace_9 : decode cX13_isPlace 9 = .ok (.i2l, 1) := by decide +kernel
theorem dX13_isPlace_10 : decode cX13_isPlace 10 = .ok (.lconst 0, 1) := by decide +kernel
theorem dX13_isPlace_11 : decode cX13_isPlace 11 = .ok (.ldc2_w 376, 3) := by decide +kernel
theorem dX13_isPlace_14 : decode cX13_isPlace 14 = .ok (.invokestatic 301, 3) := by decide +kernel
theorem dX13_isPlace_17 : decode cX13_isPlace 17 = .ok (.ifCond .eq 19, 3) := by decide +kernel
theorem dX13_isPlace_20 : decode cX13_isPlace 20 = .ok (.iload_n 3, 1) := by decide +kernel
theorem dX13_isPlace_21 : decode cX13_isPlace 21 = .ok (.i2l, 1) := by decide +kernel
theorem dX13_isPlace_22 : decode cX13_isPlace 22 = .ok (.lconst 0, 1) := by decide +kernel
theorem dX13_isPlace_23 : decode cX13_isPlace 23 = .ok (.ldc2_w 378, 3) := by decide +kernel
theorem dX13_isPlace_26 : decode cX13_isPlace 26 = .ok (.invokestatic 301, 3) := by decide +kernel
theorem dX13_isPlace_29 : decode cX13_isPlace 29 = .ok (.ifCond .eq 7, 3) := by decide +kernel
theorem dX13_isPlace_32 : decode cX13_isPlace 32 = .ok (.iconst 1, 1) := by decide +kernel
theorem dX13_isPlace_33 : decode cX13_isPlace 33 = .ok (.goto 4, 3) := by decide +kernel
theorem dX13_isPlace_36 : decode cX13_isPlace 36 = .ok (.iconst 0, 1) := by decide +kernel
theorem dX13_isPlace_37 : decode cX13_isPlace 37 = .ok (.ireturn, 1) := by decide +kernel
theorem dX13_form_0 : decode cX13_form 0 = .ok (.aload_n 0, 1) := by decide +kernel
theorem dX13_form_1 : decode cX13_form 1 = .ok (.iload_n 1, 1) := by decide +kernel
theorem dX13_form_2 : decode cX13_form 2 = .ok (.iload_n 2, 1) := by decide +kernel
theorem dX13_form_3 : decode cX13_form 3 = .ok (.iload_n 3, 1) := by decide +kernel
theorem dX13_form_4 : decode cX13_form 4 = .ok (.invokevirtual 380, 3) := by decide +kernel
theorem dX13_form_7 : decode cX13_form 7 = .ok (.ifCond .ne 5, 3) := by decide +kernel
theorem dX13_form_10 : decode cX13_form 10 = .ok (.iconst (-1), 1) := by decide +kernel
theorem dX13_form_11 : decode cX13_form 11 = .ok (.ireturn, 1) := by decide +kernel
theorem dX13_form_12 : decode cX13_form 12 = .ok (.aload_n 0, 1) := by decide +kernel
theorem dX13_form_13 : decode cX13_form 13 = .ok (.iload_n 1, 1) := by decide +kernel
theorem dX13_form_14 : decode cX13_form 14 = .ok (.iload_n 2, 1) := by decide +kernel
theorem dX13_form_15 : decode cX13_form 15 = .ok (.iload_n 3, 1) := by decide +kernel
theorem dX13_form_16 : decode cX13_form 16 = .ok (.invokevirtual 384, 3) := by decide +kernel
theorem dX13_form_19 : decode cX13_form 19 = .ok (.iload 4, 2) := by decide +kernel
theorem dX13_form_21 : decode cX13_form 21 = .ok (.i2l, 1) := by decide +kernel
theorem dX13_form_22 : decode cX13_form 22 = .ok (.lconst 0, 1) := by decide +kernel
theorem dX13_form_23 : decode cX13_form 23 = .ok (.aload_n 0, 1) := by decide +kernel
theorem dX13_form_24 : decode cX13_form 24 = .ok (.getfield 344, 3) := by decide +kernel
theorem dX13_form_27 : decode cX13_form 27 = .ok (.i2l, 1) := by decide +kernel
theorem dX13_form_28 : decode cX13_form 28 = .ok (.lconst 1, 1) := by decide +kernel
theorem dX13_form_29 : decode cX13_form 29 = .ok (.lsub, 1) := by decide +kernel
theorem dX13_form_30 : decode cX13_form 30 = .ok (.invokestatic 301, 3) := by decide +kernel
theorem dX13_form_33 : decode cX13_form 33 = .ok (.ifCond .eq 39, 3) := by decide +kernel
theorem dX13_form_36 : decode cX13_form 36 = .ok (.iload 5, 2) := by decide +kernel
theorem dX13_form_38 : decode cX13_form 38 = .ok (.i2l, 1) := by decide +kernel
theorem dX13_form_39 : decode cX13_form 39 = .ok (.lconst 0, 1) := by decide +kernel
theorem dX13_form_40 : decode cX13_form 40 = .ok (.aload_n 0, 1) := by decide +kernel
theorem dX13_form_41 : decode cX13_form 41 = .ok (.getfield 235, 3) := by decide +kernel
theorem dX13_form_44 : decode cX13_form 44 = .ok (.iload 4, 2) := by decide +kernel
theorem dX13_form_46 : decode cX13_form 46 = .ok (.iaload, 1) := by decide +kernel
theorem dX13_form_47 : decode cX13_form 47 = .ok (.i2l, 1) := by decide +kernel
theorem dX13_form_48 : decode cX13_form 48 = .ok (.lconst 1, 1) := by decide +kernel
theorem dX13_form_49 : decode cX13_form 49 = .ok (.lsub, 1) := by decide +kernel
theorem dX13_form_50 : decode cX13_form 50 = .ok (.invokestatic 301, 3) := by decide +kernel
theorem dX13_form_53 : decode cX13_form 53 = .ok (.ifCond .eq 19, 3) := by decide +kernel
theorem dX13_form_56 : decode cX13_form 56 = .ok (.aload_n 0, 1) := by decide +kernel
theorem dX13_form_57 : decode cX13_form 57 = .ok (.getfield 226, 3) := by decide +kernel
theorem dX13_form_60 : decode cX13_form 60 = .ok (.bipush 61, 2) := by decide +kernel
theorem dX13_form_62 : decode cX13_form 62 = .ok (.iload 4, 2) := by decide +kernel
theorem dX13_form_64 : decode cX13_form 64 = .ok (.imul, 1) := by decide +kernel
theorem dX13_form_65 : decode cX13_form 65 = .ok (.iload 5, 2) := by decide +kernel
theorem dX13_form_67 : decode cX13_form 67 = .ok (.iadd, 1) := by decide +kernel
theorem dX13_form_68 : decode cX13_form 68 = .ok (.baload, 1) := by decide +kernel
theorem dX13_form_69 : decode cX13_form 69 = .ok (.goto 4, 3) := by decide +kernel
theorem dX13_form_72 : decode cX13_form 72 = .ok (.iconst (-1), 1) := by decide +kernel
theorem dX13_form_73 : decode cX13_form 73 = .ok (.ireturn, 1) := by decide +kernel
theorem dX13_row_0 : decode cX13_row 0 = .ok (.aload_n 0, 1) := by decide +kernel
theorem dX13_row_1 : decode cX13_row 1 = .ok (.iload_n 1, 1) := by decide +kernel
theorem dX13_row_2 : decode cX13_row 2 = .ok (.iload_n 2, 1) := by decide +kernel
theorem dX13_row_3 : decode cX13_row 3 = .ok (.iload_n 3, 1) := by decide +kernel
theorem dX13_row_4 : decode cX13_row 4 = .ok (.invokevirtual 380, 3) := by decide +kernel
theorem dX13_row_7 : decode cX13_row 7 = .ok (.ifCond .ne 5, 3) := by decide +kernel
theorem dX13_row_10 : decode cX13_row 10 = .ok (.iconst (-1), 1) := by decide +kernel
theorem dX13_row_11 : decode cX13_row 11 = .ok (.ireturn, 1) := by decide +kernel
theorem dX13_row_12 : decode cX13_row 12 = .ok (.aload_n 0, 1) := by decide +kernel
theorem dX13_row_13 : decode cX13_row 13 = .ok (.iload_n 1, 1) := by decide +kernel
theorem dX13_row_14 : decode cX13_row 14 = .ok (.iload_n 2, 1) := by decide +kernel
theorem dX13_row_15 : decode cX13_row 15 = .ok (.iload_n 3, 1) := by decide +kernel
theorem dX13_row_16 : decode cX13_row 16 = .ok (.invokevirtual 384, 3) := by decide +kernel
theorem dX13_row_19 : decode cX13_row 19 = .ok (.iload 4, 2) := by decide +kernel
theorem dX13_row_21 : decode cX13_row 21 = .ok (.i2l, 1) := by decide +kernel
theorem dX13_row_22 : decode cX13_row 22 = .ok (.lconst 0, 1) := by decide +kernel
theorem dX13_row_23 : decode cX13_row 23 = .ok (.aload_n 0, 1) := by decide +kernel
theorem dX13_row_24 : decode cX13_row 24 = .ok (.getfield 344, 3) := by decide +kernel
theorem dX13_row_27 : decode cX13_row 27 = .ok (.i2l, 1) := by decide +kernel
theorem dX13_row_28 : decode cX13_row 28 = .ok (.lconst 1, 1) := by decide +kernel
theorem dX13_row_29 : decode cX13_row 29 = .ok (.lsub, 1) := by decide +kernel
theorem dX13_row_30 : decode cX13_row 30 = .ok (.invokestatic 301, 3) := by decide +kernel
theorem dX13_row_33 : decode cX13_row 33 = .ok (.ifCond .eq 40, 3) := by decide +kernel
theorem dX13_row_36 : decode cX13_row 36 = .ok (.iload 5, 2) := by decide +kernel
theorem dX13_row_38 : decode cX13_row 38 = .ok (.i2l, 1) := by decide +kernel
theorem dX13_row_39 : decode cX13_row 39 = .ok (.lconst 0, 1) := by decide +kernel
theorem dX13_row_40 : decode cX13_row 40 = .ok (.aload_n 0, 1) := by decide +kernel
theorem dX13_row_41 : decode cX13_row 41 = .ok (.getfield 241, 3) := by decide +kernel
theorem dX13_row_44 : decode cX13_row 44 = .ok (.iload 4, 2) := by decide +kernel
theorem dX13_row_46 : decode cX13_row 46 = .ok (.iaload, 1) := by decide +kernel
theorem dX13_row_47 : decode cX13_row 47 = .ok (.i2l, 1) := by decide +kernel
theorem dX13_row_48 : decode cX13_row 48 = .ok (.lconst 1, 1) := by decide +kernel
theorem dX13_row_49 : decode cX13_row 49 = .ok (.lsub, 1) := by decide +kernel
theorem dX13_row_50 : decode cX13_row 50 = .ok (.invokestatic 301, 3) := by decide +kernel
theorem dX13_row_53 : decode cX13_row 53 = .ok (.ifCond .eq 20, 3) := by decide +kernel
theorem dX13_row_56 : decode cX13_row 56 = .ok (.aload_n 0, 1) := by decide +kernel
theorem dX13_row_57 : decode cX13_row 57 = .ok (.getfield 238, 3) := by decide +kernel
theorem dX13_row_60 : decode cX13_row 60 = .ok (.sipush 140, 3) := by decide +kernel
theorem dX13_row_63 : decode cX13_row 63 = .ok (.iload 4, 2) := by decide +kernel
theorem dX13_row_65 : decode cX13_row 65 = .ok (.imul, 1) := by decide +kernel
theorem dX13_row_66 : decode cX13_row 66 = .ok (.iload 5, 2) := by decide +kernel
theorem dX13_row_68 : decode cX13_row 68 = .ok (.iadd, 1) := by decide +kernel
theorem dX13_row_69 : decode cX13_row 69 = .ok (.iaload, 1) := by decide +kernel
theorem dX13_row_70 : decode cX13_row 70 = .ok (.goto 4, 3) := by decide +kernel
theorem dX13_row_73 : decode cX13_row 73 = .ok (.iconst (-1), 1) := by decide +kernel
theorem dX13_row_74 : decode cX13_row 74 = .ok (.ireturn, 1) := by decide +kernel
theorem dX13_rivals_0 : decode cX13_rivals 0 = .ok (.aload_n 0, 1) := by decide +kernel
theorem dX13_rivals_1 : decode cX13_rivals 1 = .ok (.iload_n 1, 1) := by decide +kernel
theorem dX13_rivals_2 : decode cX13_rivals 2 = .ok (.iload_n 2, 1) := by decide +kernel
theorem dX13_rivals_3 : decode cX13_rivals 3 = .ok (.iload_n 3, 1) := by decide +kernel
theorem dX13_rivals_4 : decode cX13_rivals 4 = .ok (.invokevirtual 380, 3) := by decide +kernel
theorem dX13_rivals_7 : decode cX13_rivals 7 = .ok (.ifCond .eq 14, 3) := by decide +kernel
theorem dX13_rivals_10 : decode cX13_rivals 10 = .ok (.aload_n 0, 1) := by decide +kernel
theorem dX13_rivals_11 : decode cX13_rivals 11 = .ok (.iconst 1, 1) := by decide +kernel
theorem dX13_rivals_12 : decode cX13_rivals 12 = .ok (.iload_n 1, 1) := by decide +kernel
theorem dX13_rivals_13 : decode cX13_rivals 13 = .ok (.iload_n 2, 1) := by decide +kernel
theorem dX13_rivals_14 : decode cX13_rivals 14 = .ok (.iload_n 3, 1) := by decide +kernel
theorem dX13_rivals_15 : decode cX13_rivals 15 = .ok (.invokevirtual 386, 3) := by decide +kernel
theorem dX13_rivals_18 : decode cX13_rivals 18 = .ok (.goto 5, 3) := by decide +kernel
theorem dX13_rivals_21 : decode cX13_rivals 21 = .ok (.bipush (-2), 2) := by decide +kernel
theorem dX13_rivals_23 : decode cX13_rivals 23 = .ok (.ireturn, 1) := by decide +kernel
theorem dX13_read_0 : decode cX13_read 0 = .ok (.aload_n 0, 1) := by decide +kernel
theorem dX13_read_1 : decode cX13_read 1 = .ok (.invokevirtual 392, 3) := by decide +kernel
theorem dX13_read_4 : decode cX13_read 4 = .ok (.aload_n 0, 1) := by decide +kernel
theorem dX13_read_5 : decode cX13_read 5 = .ok (.iconst 0, 1) := by decide +kernel
theorem dX13_read_6 : decode cX13_read 6 = .ok (.putfield 310, 3) := by decide +kernel
theorem dX13_read_9 : decode cX13_read 9 = .ok (.iconst 0, 1) := by decide +kernel
theorem dX13_read_10 : decode cX13_read 10 = .ok (.istore_n 1, 1) := by decide +kernel
theorem dX13_read_11 : decode cX13_read 11 = .ok (.iload_n 1, 1) := by decide +kernel
theorem dX13_read_12 : decode cX13_read 12 = .ok (.aload_n 0, 1) := by decide +kernel
theorem dX13_read_13 : decode cX13_read 13 = .ok (.getfield 7, 3) := by decide +kernel
theorem dX13_read_16 : decode cX13_read 16 = .ok (.iconst 0, 1) := by decide +kernel
theorem dX13_read_17 : decode cX13_read 17 = .ok (.iaload, 1) := by decide +kernel
theorem dX13_read_18 : decode cX13_read 18 = .ok (.if_icmp .ge 43, 3) := by decide +kernel
theorem dX13_read_21 : decode cX13_read 21 = .ok (.iconst 0, 1) := by decide +kernel
theorem dX13_read_22 : decode cX13_read 22 = .ok (.istore_n 2, 1) := by decide +kernel
theorem dX13_read_23 : decode cX13_read 23 = .ok (.iload_n 2, 1) := by decide +kernel
theorem dX13_read_24 : decode cX13_read 24 = .ok (.iconst 5, 1) := by decide +kernel
theorem dX13_read_25 : decode cX13_read 25 = .ok (.if_icmp .ge 30, 3) := by decide +kernel
theorem dX13_read_28 : decode cX13_read 28 = .ok (.iconst 0, 1) := by decide +kernel
theorem dX13_read_29 : decode cX13_read 29 = .ok (.istore_n 3, 1) := by decide +kernel
theorem dX13_read_30 : decode cX13_read 30 = .ok (.iload_n 3, 1) := by decide +kernel
theorem dX13_read_31 : decode cX13_read 31 = .ok (.bipush 6, 2) := by decide +kernel
theorem dX13_read_33 : decode cX13_read 33 = .ok (.if_icmp .ge 16, 3) := by decide +kernel
theorem dX13_read_36 : decode cX13_read 36 = .ok (.aload_n 0, 1) := by decide +kernel
theorem dX13_read_37 : decode cX13_read 37 = .ok (.iload_n 1, 1) := by decide +kernel
theorem dX13_read_38 : decode cX13_read 38 = .ok (.iload_n 2, 1) := by decide +kernel
theorem dX13_read_39 : decode cX13_read 39 = .ok (.iload_n 3, 1) := by decide +kernel
theorem dX13_read_40 : decode cX13_read 40 = .ok (.invokevirtual 395, 3) := by decide +kernel
theorem dX13_read_43 : decode cX13_read 43 = .ok (.iinc 3 1, 3) := by decide +kernel
theorem dX13_read_46 : decode cX13_read 46 = .ok (.goto (-16), 3) := by decide +kernel
theorem dX13_read_49 : decode cX13_read 49 = .ok (.iinc 2 1, 3) := by decide +kernel
theorem dX13_read_52 : decode cX13_read 52 = .ok (.goto (-29), 3) := by decide +kernel
theorem dX13_read_55 : decode cX13_read 55 = .ok (.iinc 1 1, 3) := by decide +kernel
theorem dX13_read_58 : decode cX13_read 58 = .ok (.goto (-47), 3) := by decide +kernel
theorem dX13_read_61 : decode cX13_read 61 = .ok (.aload_n 0, 1) := by decide +kernel
theorem dX13_read_62 : decode cX13_read 62 = .ok (.getfield 310, 3) := by decide +kernel
theorem dX13_read_65 : decode cX13_read 65 = .ok (.ireturn, 1) := by decide +kernel
theorem dX13_ask_0 : decode cX13_ask 0 = .ok (.aload_n 0, 1) := by decide +kernel
theorem dX13_ask_1 : decode cX13_ask 1 = .ok (.aload_n 0, 1) := by decide +kernel
theorem dX13_ask_2 : decode cX13_ask 2 = .ok (.getfield 295, 3) := by decide +kernel
theorem dX13_ask_5 : decode cX13_ask 5 = .ok (.putfield 389, 3) := by decide +kernel
theorem dX13_ask_8 : decode cX13_ask 8 = .ok (.aload_n 0, 1) := by decide +kernel
theorem dX13_ask_9 : decode cX13_ask 9 = .ok (.iconst 0, 1) := by decide +kernel
theorem dX13_ask_10 : decode cX13_ask 10 = .ok (.putfield 295, 3) := by decide +kernel
theorem dX13_ask_13 : decode cX13_ask 13 = .ok (.iconst 0, 1) := by decide +kernel
theorem dX13_ask_14 : decode cX13_ask 14 = .ok (.istore_n 1, 1) := by decide +kernel
theorem dX13_ask_15 : decode cX13_ask 15 = .ok (.iload_n 1, 1) := by decide +kernel
theorem dX13_ask_16 : decode cX13_ask 16 = .ok (.aload_n 0, 1) := by decide +kernel
theorem dX13_ask_17 : decode cX13_ask 17 = .ok (.getfield 389, 3) := by decide +kernel
theorem dX13_ask_20 : decode cX13_ask 20 = .ok (.if_icmp .ge 21, 3) := by decide +kernel
theorem dX13_ask_23 : decode cX13_ask 23 = .ok (.aload_n 0, 1) := by decide +kernel
theorem dX13_ask_24 : decode cX13_ask 24 = .ok (.getfield 262, 3) := by decide +kernel
theorem dX13_ask_27 : decode cX13_ask 27 = .ok (.iload_n 1, 1) := by decide +kernel
theorem dX13_ask_28 : decode cX13_ask 28 = .ok (.aload_n 0, 1) := by decide +kernel
theorem dX13_ask_29 : decode cX13_ask 29 = .ok (.getfield 73, 3) := by decide +kernel
theorem dX13_ask_32 : decode cX13_ask 32 = .ok (.iload_n 1, 1) := by decide +kernel
theorem dX13_ask_33 : decode cX13_ask 33 = .ok (.baload, 1) := by decide +kernel
theorem dX13_ask_34 : decode cX13_ask 34 = .ok (.bastore, 1) := by decide +kernel
theorem dX13_ask_35 : decode cX13_ask 35 = .ok (.iinc 1 1, 3) := by decide +kernel
theorem dX13_ask_38 : decode cX13_ask 38 = .ok (.goto (-23), 3) := by decide +kernel
theorem dX13_ask_41 : decode cX13_ask 41 = .ok (.return_, 1) := by decide +kernel
theorem dX13_place_0 : decode cX13_place 0 = .ok (.iload_n 1, 1) := by decide +kernel
theorem dX13_place_1 : decode cX13_place 1 = .ok (.i2l, 1) := by decide +kernel
theorem dX13_place_2 : decode cX13_place 2 = .ok (.lconst 0, 1) := by decide +kernel
theorem dX13_place_3 : decode cX13_place 3 = .ok (.aload_n 0, 1) := by decide +kernel
theorem dX13_place_4 : decode cX13_place 4 = .ok (.getfield 310, 3) := by decide +kernel
theorem dX13_place_7 : decode cX13_place 7 = .ok (.bipush 60, 2) := by decide +kernel
theorem dX13_place_9 : decode cX13_place 9 = .ok (.invokestatic 401, 3) := by decide +kernel
theorem dX13_place_12 : decode cX13_place 12 = .ok (.i2l, 1) := by decide +kernel
theorem dX13_place_13 : decode cX13_place 13 = .ok (.lconst 1, 1) := by decide +kernel
theorem dX13_place_14 : decode cX13_place 14 = .ok (.lsub, 1) := by decide +kernel
theorem dX13_place_15 : decode cX13_place 15 = .ok (.invokestatic 301, 3) := by decide +kernel
theorem dX13_place_18 : decode cX13_place 18 = .ok (.ifCond .ne 5, 3) := by decide +kernel
theorem dX13_place_21 : decode cX13_place 21 = .ok (.iconst (-1), 1) := by decide +kernel
theorem dX13_place_22 : decode cX13_place 22 = .ok (.ireturn, 1) := by decide +kernel
theorem dX13_place_23 : decode cX13_place 23 = .ok (.iload_n 2, 1) := by decide +kernel
theorem dX13_place_24 : decode cX13_place 24 = .ok (.ifCond .ne 12, 3) := by decide +kernel
theorem dX13_place_27 : decode cX13_place 27 = .ok (.aload_n 0, 1) := by decide +kernel
theorem dX13_place_28 : decode cX13_place 28 = .ok (.getfield 265, 3) := by decide +kernel
theorem dX13_place_31 : decode cX13_place 31 = .ok (.iload_n 1, 1) := by decide +kernel
theorem dX13_place_32 : decode cX13_place 32 = .ok (.iaload, 1) := by decide +kernel
theorem dX13_place_33 : decode cX13_place 33 = .ok (.goto 32, 3) := by decide +kernel
theorem dX13_place_36 : decode cX13_place 36 = .ok (.iload_n 2, 1) := by decide +kernel
theorem dX13_place_37 : decode cX13_place 37 = .ok (.iconst 1, 1) := by decide +kernel
theorem dX13_place_38 : decode cX13_place 38 = .ok (.if_icmp .ne 12, 3) := by decide +kernel
theorem dX13_place_41 : decode cX13_place 41 = .ok (.aload_n 0, 1) := by decide +kernel
theorem dX13_place_42 : decode cX13_place 42 = .ok (.getfield 268, 3) := by decide +kernel
theorem dX13_place_45 : decode cX13_place 45 = .ok (.iload_n 1, 1) := by decide +kernel
theorem dX13_place_46 : decode cX13_place 46 = .ok (.iaload, 1) := by decide +kernel
theorem dX13_place_47 : decode cX13_place 47 = .ok (.goto 18, 3) := by decide +kernel
theorem dX13_place_50 : decode cX13_place 50 = .ok (.iload_n 2, 1) := by decide +kernel
theorem dX13_place_51 : decode cX13_place 51 = .ok (.iconst 2, 1) := by decide +kernel
theorem dX13_place_52 : decode cX13_place 52 = .ok (.if_icmp .ne 12, 3) := by decide +kernel
theorem dX13_place_55 : decode cX13_place 55 = .ok (.aload_n 0, 1) := by decide +kernel
theorem dX13_place_56 : decode cX13_place 56 = .ok (.getfield 271, 3) := by decide +kernel
theorem dX13_place_59 : decode cX13_place 59 = .ok (.iload_n 1, 1) := by decide +kernel
theorem dX13_place_60 : decode cX13_place 60 = .ok (.iaload, 1) := by decide +kernel
theorem dX13_place_61 : decode cX13_place 61 = .ok (.goto 4, 3) := by decide +kernel
theorem dX13_place_64 : decode cX13_place 64 = .ok (.iconst (-1), 1) := by decide +kernel
theorem dX13_place_65 : decode cX13_place 65 = .ok (.ireturn, 1) := by decide +kernel
theorem dX13_unused_0 : decode cX13_unused 0 = .ok (.aload_n 0, 1) := by decide +kernel
theorem dX13_unused_1 : decode cX13_unused 1 = .ok (.invokevirtual 410, 3) := by decide +kernel
theorem dX13_unused_4 : decode cX13_unused 4 = .ok (.iconst 0, 1) := by decide +kernel
theorem dX13_unused_5 : decode cX13_unused 5 = .ok (.istore_n 1, 1) := by decide +kernel
theorem dX13_unused_6 : decode cX13_unused 6 = .ok (.iconst 0, 1) := by decide +kernel
theorem dX13_unused_7 : decode cX13_unused 7 = .ok (.istore_n 2, 1) := by decide +kernel
theorem dX13_unused_8 : decode cX13_unused 8 = .ok (.iload_n 2, 1) := by decide +kernel
theorem dX13_unused_9 : decode cX13_unused 9 = .ok (.aload_n 0, 1) := by decide +kernel
theorem dX13_unused_10 : decode cX13_unused 10 = .ok (.getfield 10, 3) := by decide +kernel
theorem dX13_unused_13 : decode cX13_unused 13 = .ok (.iconst 0, 1) := by decide +kernel
theorem dX13_unused_14 : decode cX13_unused 14 = .ok (.iaload, 1) := by decide +kernel
theorem dX13_unused_15 : decode cX13_unused 15 = .ok (.if_icmp .ge 26, 3) := by decide +kernel
theorem dX13_unused_18 : decode cX13_unused 18 = .ok (.iload_n 1, 1) := by decide +kernel
theorem dX13_unused_19 : decode cX13_unused 19 = .ok (.aload_n 0, 1) := by decide +kernel
theorem dX13_unused_20 : decode cX13_unused 20 = .ok (.getfield 274, 3) := by decide +kernel
theorem dX13_unused_23 : decode cX13_unused 23 = .ok (.iload_n 2, 1) := by decide +kernel
theorem dX13_unused_24 : decode cX13_unused 24 = .ok (.iaload, 1) := by decide +kernel
theorem dX13_unused_25 : decode cX13_unused 25 = .ok (.ifCond .ne 7, 3) := by decide +kernel
theorem dX13_unused_28 : decode cX13_unused 28 = .ok (.iconst 1, 1) := by decide +kernel
theorem dX13_unused_29 : decode cX13_unused 29 = .ok (.goto 4, 3) := by decide +kernel
theorem dX13_unused_32 : decode cX13_unused 32 = .ok (.iconst 0, 1) := by decide +kernel
theorem dX13_unused_33 : decode cX13_unused 33 = .ok (.iadd, 1) := by decide +kernel
theorem dX13_unused_34 : decode cX13_unused 34 = .ok (.istore_n 1, 1) := by decide +kernel
theorem dX13_unused_35 : decode cX13_unused 35 = .ok (.iinc 2 1, 3) := by decide +kernel
theorem dX13_unused_38 : decode cX13_unused 38 = .ok (.goto (-30), 3) := by decide +kernel
theorem dX13_unused_41 : decode cX13_unused 41 = .ok (.iload_n 1, 1) := by decide +kernel
theorem dX13_unused_42 : decode cX13_unused 42 = .ok (.ireturn, 1) := by decide +kernel
theorem dX13_countUses_0 : decode cX13_countUses 0 = .ok (.iconst 0, 1) := by decide +kernel
theorem dX13_countUses_1 : decode cX13_countUses 1 = .ok (.istore_n 1, 1) := by decide +kernel
theorem dX13_countUses_2 : decode cX13_countUses 2 = .ok (.iload_n 1, 1) := by decide +kernel
theorem dX13_countUses_3 : decode cX13_countUses 3 = .ok (.bipush 60, 2) := by decide +kernel
theorem dX13_countUses_5 : decode cX13_countUses 5 = .ok (.if_icmp .ge 16, 3) := by decide +kernel
theorem dX13_countUses_8 : decode cX13_countUses 8 = .ok (.aload_n 0, 1) := by decide +kernel
theorem dX13_countUses_9 : decode cX13_countUses 9 = .ok (.getfield 274, 3) := by decide +kernel
theorem dX13_countUses_12 : decode cX13_countUses 12 = .ok (.iload_n 1, 1) := by decide +kernel
theorem dX13_countUses_13 : decode cX13_countUses 13 = .ok (.iconst 0, 1) := by decide +kernel
theorem dX13_countUses_14 : decode cX13_countUses 14 = .ok (.iastore, 1) := by decide +kernel
theorem dX13_countUses_15 : decode cX13_countUses 15 = .ok (.iinc 1 1, 3) := by decide +kernel
theorem dX13_countUses_18 : decode cX13_countUses 18 = .ok (.goto (-16), 3) := by decide +kernel
theorem dX13_countUses_21 : decode cX13_countUses 21 = .ok (.iconst 0, 1) := by decide +kernel
theorem dX13_countUses_22 : decode cX13_countUses 22 = .ok (.istore_n 1, 1) := by decide +kernel
theorem dX13_countUses_23 : decode cX13_countUses 23 = .ok (.iload_n 1, 1) := by decide +kernel
theorem dX13_countUses_24 : decode cX13_countUses 24 = .ok (.aload_n 0, 1) := by decide +kernel
theorem dX13_countUses_25 : decode cX13_countUses 25 = .ok (.getfield 7, 3) := by decide +kernel
theorem dX13_countUses_28 : decode cX13_countUses 28 = .ok (.iconst 0, 1) := by decide +kernel
theorem dX13_countUses_29 : decode cX13_countUses 29 = .ok (.iaload, 1) := by decide +kernel
theorem dX13_countUses_30 : decode cX13_countUses 30 = .ok (.if_icmp .ge 87, 3) := by decide +kernel
theorem dX13_countUses_33 : decode cX13_countUses 33 = .ok (.iconst 0, 1) := by decide +kernel
theorem dX13_countUses_34 : decode cX13_countUses 34 = .ok (.istore_n 2, 1) := by decide +kernel
theorem dX13_countUses_35 : decode cX13_countUses 35 = .ok (.iload_n 2, 1) := by decide +kernel
theorem dX13_countUses_36 : decode cX13_countUses 36 = .ok (.iconst 5, 1) := by decide +kernel
theorem dX13_countUses_37 : decode cX13_countUses 37 = .ok (.if_icmp .ge 74, 3) := by decide +kernel
theorem dX13_countUses_40 : decode cX13_countUses 40 = .ok (.iconst 0, 1) := by decide +kernel
theorem dX13_countUses_41 : decode cX13_countUses 41 = .ok (.istore_n 3, 1) := by decide +kernel
theorem dX13_countUses_42 : decode cX13_countUses 42 = .ok (.iload_n 3, 1) := by decide +kernel
theorem dX13_countUses_43 : decode cX13_countUses 43 = .ok (.bipush 6, 2) := by decide +kernel
theorem dX13_countUses_45 : decode cX13_countUses 45 = .ok (.if_icmp .ge 60, 3) := by decide +kernel
theorem dX13_countUses_48 : decode cX13_countUses 48 = .ok (.aload_n 0, 1) := by decide +kernel
theorem dX13_countUses_49 : decode cX13_countUses 49 = .ok (.iload_n 1, 1) := by decide +kernel
theorem dX13_countUses_50 : decode cX13_countUses 50 = .ok (.iload_n 2, 1) := by decide +kernel
theorem dX13_countUses_51 : decode cX13_countUses 51 = .ok (.iload_n 3, 1) := by decide +kernel
theorem dX13_countUses_52 : decode cX13_countUses 52 = .ok (.invokevirtual 384, 3) := by decide +kernel
theorem dX13_countUses_55 : decode cX13_countUses 55 = .ok (.iconst 0, 1) := by decide +kernel
theorem dX13_countUses_56 : decode cX13_countUses 56 = .ok (.istore 4, 2) := by decide +kernel
theorem dX13_countUses_58 : decode cX13_countUses 58 = .ok (.iload 4, 2) := by decide +kernel
theorem dX13_countUses_60 : decode cX13_countUses 60 = .ok (.aload_n 0, 1) := by decide +kernel
theorem dX13_countUses_61 : decode cX13_countUses 61 = .ok (.getfield 10, 3) := by decide +kernel
theorem dX13_countUses_64 : decode cX13_countUses 64 = .ok (.iconst 0, 1) := by decide +kernel
theorem dX13_countUses_65 : decode cX13_countUses 65 = .ok (.iaload, 1) := by decide +kernel
theorem dX13_countUses_66 : decode cX13_countUses 66 = .ok (.if_icmp .ge 33, 3) := by decide +kernel
theorem dX13_countUses_69 : decode cX13_countUses 69 = .ok (.aload_n 0, 1) := by decide +kernel
theorem dX13_countUses_70 : decode cX13_countUses 70 = .ok (.getfield 274, 3) := by decide +kernel
theorem dX13_countUses_73 : decode cX13_countUses 73 = .ok (.iload 4, 2) := by decide +kernel
theorem dX13_countUses_75 : decode cX13_countUses 75 = .ok (.dup2, 1) := by decide +kernel
theorem dX13_countUses_76 : decode cX13_countUses 76 = .ok (.iaload, 1) := by decide +kernel
theorem dX13_countUses_77 : decode cX13_countUses 77 = .ok (.aload_n 0, 1) := by decide +kernel
theorem dX13_countUses_78 : decode cX13_countUses 78 = .ok (.iload 4, 2) := by decide +kernel
theorem dX13_countUses_80 : decode cX13_countUses 80 = .ok (.invokevirtual 407, 3) := by decide +kernel
theorem dX13_countUses_83 : decode cX13_countUses 83 = .ok (.ifCond .eq 7, 3) := by decide +kernel
theorem dX13_countUses_86 : decode cX13_countUses 86 = .ok (.iconst 1, 1) := by decide +kernel
theorem dX13_countUses_87 : decode cX13_countUses 87 = .ok (.goto 4, 3) := by decide +kernel
theorem dX13_countUses_90 : decode cX13_countUses 90 = .ok (.iconst 0, 1) := by decide +kernel
theorem dX13_countUses_91 : decode cX13_countUses 91 = .ok (.iadd, 1) := by decide +kernel
theorem dX13_countUses_92 : decode cX13_countUses 92 = .ok (.iastore, 1) := by decide +kernel
theorem dX13_countUses_93 : decode cX13_countUses 93 = .ok (.iinc 4 1, 3) := by decide +kernel
theorem dX13_countUses_96 : decode cX13_countUses 96 = .ok (.goto (-38), 3) := by decide +kernel
theorem dX13_countUses_99 : decode cX13_countUses 99 = .ok (.iinc 3 1, 3) := by decide +kernel
theorem dX13_countUses_102 : decode cX13_countUses 102 = .ok (.goto (-60), 3) := by decide +kernel
theorem dX13_countUses_105 : decode cX13_countUses 105 = .ok (.iinc 2 1, 3) := by decide +kernel
theorem dX13_countUses_108 : decode cX13_countUses 108 = .ok (.goto (-73), 3) := by decide +kernel
theorem dX13_countUses_111 : decode cX13_countUses 111 = .ok (.iinc 1 1, 3) := by decide +kernel
theorem dX13_countUses_114 : decode cX13_countUses 114 = .ok (.goto (-91), 3) := by decide +kernel
theorem dX13_countUses_117 : decode cX13_countUses 117 = .ok (.return_, 1) := by decide +kernel
theorem dX13_users_0 : decode cX13_users 0 = .ok (.aload_n 0, 1) := by decide +kernel
theorem dX13_users_1 : decode cX13_users 1 = .ok (.iload_n 1, 1) := by decide +kernel
theorem dX13_users_2 : decode cX13_users 2 = .ok (.invokevirtual 324, 3) := by decide +kernel
theorem dX13_users_5 : decode cX13_users 5 = .ok (.ifCond .ne 6, 3) := by decide +kernel
theorem dX13_users_8 : decode cX13_users 8 = .ok (.bipush (-2), 2) := by decide +kernel
theorem dX13_users_10 : decode cX13_users 10 = .ok (.ireturn, 1) := by decide +kernel
theorem dX13_users_11 : decode cX13_users 11 = .ok (.aload_n 0, 1) := by decide +kernel
theorem dX13_users_12 : decode cX13_users 12 = .ok (.invokevirtual 410, 3) := by decide +kernel
theorem dX13_users_15 : decode cX13_users 15 = .ok (.aload_n 0, 1) := by decide +kernel
theorem dX13_users_16 : decode cX13_users 16 = .ok (.getfield 274, 3) := by decide +kernel
theorem dX13_users_19 : decode cX13_users 19 = .ok (.iload_n 1, 1) := by decide +kernel
theorem dX13_users_20 : decode cX13_users 20 = .ok (.iaload, 1) := by decide +kernel
theorem dX13_users_21 : decode cX13_users 21 = .ok (.ireturn, 1) := by decide +kernel
theorem dX13_answer_0 : decode cX13_answer 0 = .ok (.aload_n 0, 1) := by decide +kernel
theorem dX13_answer_1 : decode cX13_answer 1 = .ok (.invokevirtual 392, 3) := by decide +kernel
theorem dX13_answer_4 : decode cX13_answer 4 = .ok (.iload_n 1, 1) := by decide +kernel
theorem dX13_answer_5 : decode cX13_answer 5 = .ok (.invokestatic 456, 3) := by decide +kernel
theorem dX13_answer_8 : decode cX13_answer 8 = .ok (.ifCond .eq 14, 3) := by decide +kernel
theorem dX13_answer_11 : decode cX13_answer 11 = .ok (.aload_n 0, 1) := by decide +kernel
theorem dX13_answer_12 : decode cX13_answer 12 = .ok (.iload_n 2, 1) := by decide +kernel
theorem dX13_answer_13 : decode cX13_answer 13 = .ok (.iload_n 3, 1) := by decide +kernel
theorem dX13_answer_14 : decode cX13_answer 14 = .ok (.iload 4, 2) := by decide +kernel
theorem dX13_answer_16 : decode cX13_answer 16 = .ok (.invokevirtual 380, 3) := by decide +kernel
theorem dX13_answer_19 : decode cX13_answer 19 = .ok (.ifCond .ne 6, 3) := by decide +kernel
theorem dX13_answer_22 : decode cX13_answer 22 = .ok (.bipush (-2), 2) := by decide +kernel
theorem dX13_answer_24 : decode cX13_answer 24 = .ok (.ireturn, 1) := by decide +kernel
theorem dX13_answer_25 : decode cX13_answer 25 = .ok (.aload_n 0, 1) := by decide +kernel
theorem dX13_answer_26 : decode cX13_answer 26 = .ok (.iload_n 1, 1) := by decide +kernel
theorem dX13_answer_27 : decode cX13_answer 27 = .ok (.iload_n 2, 1) := by decide +kernel
theorem dX13_answer_28 : decode cX13_answer 28 = .ok (.iload_n 3, 1) := by decide +kernel
theorem dX13_answer_29 : decode cX13_answer 29 = .ok (.iload 4, 2) := by decide +kernel
theorem dX13_answer_31 : decode cX13_answer 31 = .ok (.invokestatic 459, 3) := by decide +kernel
theorem dX13_answer_34 : decode cX13_answer 34 = .ok (.invokevirtual 462, 3) := by decide +kernel
theorem dX13_answer_37 : decode cX13_answer 37 = .ok (.aload_n 0, 1) := by decide +kernel
theorem dX13_answer_38 : decode cX13_answer 38 = .ok (.iload_n 2, 1) := by decide +kernel
theorem dX13_answer_39 : decode cX13_answer 39 = .ok (.iload_n 3, 1) := by decide +kernel
theorem dX13_answer_40 : decode cX13_answer 40 = .ok (.iload 4, 2) := by decide +kernel
theorem dX13_answer_42 : decode cX13_answer 42 = .ok (.invokevirtual 384, 3) := by decide +kernel
theorem dX13_answer_45 : decode cX13_answer 45 = .ok (.aload_n 0, 1) := by decide +kernel
theorem dX13_answer_46 : decode cX13_answer 46 = .ok (.invokevirtual 398, 3) := by decide +kernel
theorem dX13_answer_49 : decode cX13_answer 49 = .ok (.istore 5, 2) := by decide +kernel
theorem dX13_answer_51 : decode cX13_answer 51 = .ok (.iload 5, 2) := by decide +kernel
theorem dX13_answer_53 : decode cX13_answer 53 = .ok (.iconst (-1), 1) := by decide +kernel
theorem dX13_answer_54 : decode cX13_answer 54 = .ok (.if_icmp .eq 12, 3) := by decide +kernel
theorem dX13_answer_57 : decode cX13_answer 57 = .ok (.aload_n 0, 1) := by decide +kernel
theorem dX13_answer_58 : decode cX13_answer 58 = .ok (.iload_n 1, 1) := by decide +kernel
theorem dX13_answer_59 : decode cX13_answer 59 = .ok (.iload 5, 2) := by decide +kernel
theorem dX13_answer_61 : decode cX13_answer 61 = .ok (.invokevirtual 465, 3) := by decide +kernel
theorem dX13_answer_64 : decode cX13_answer 64 = .ok (.iconst 0, 1) := by decide +kernel
theorem dX13_answer_65 : decode cX13_answer 65 = .ok (.ireturn, 1) := by decide +kernel
theorem dX13_answer_66 : decode cX13_answer 66 = .ok (.aload_n 0, 1) := by decide +kernel

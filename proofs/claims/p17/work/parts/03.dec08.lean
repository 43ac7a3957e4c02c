theorem dX13_standsAt_64 : decode cX13_standsAt 64 = .ok (.ireturn, 1) := by decide +kernel
theorem dX13_changeAt_0 : decode cX13_changeAt 0 = .ok (.iconst 0, 1) := by decide +kernel
theorem dX13_changeAt_1 : decode cX13_changeAt 1 = .ok (.istore_n 3, 1) := by decide +kernel
theorem dX13_changeAt_2 : decode cX13_changeAt 2 = .ok (.iconst 0, 1) := by decide +kernel
theorem dX13_changeAt_3 : decode cX13_changeAt 3 = .ok (.istore 4, 2) := by decide +kernel
theorem dX13_changeAt_5 : decode cX13_changeAt 5 = .ok (.iload 4, 2) := by decide +kernel
theorem dX13_changeAt_7 : decode cX13_changeAt 7 = .ok (.iload_n 2, 1) := by decide +kernel
theorem dX13_changeAt_8 : decode cX13_changeAt 8 = .ok (.if_icmp .ge 25, 3) := by decide +kernel
theorem dX13_changeAt_11 : decode cX13_changeAt 11 = .ok (.aload_n 0, 1) := by decide +kernel
theorem dX13_changeAt_12 : decode cX13_changeAt 12 = .ok (.getfield 216, 3) := by decide +kernel
theorem dX13_changeAt_15 : decode cX13_changeAt 15 = .ok (.iload_n 3, 1) := by decide +kernel
theorem dX13_changeAt_16 : decode cX13_changeAt 16 = .ok (.aload_n 0, 1) := by decide +kernel
theorem dX13_changeAt_17 : decode cX13_changeAt 17 = .ok (.getfield 213, 3) := by decide +kernel
theorem dX13_changeAt_20 : decode cX13_changeAt 20 = .ok (.iload 4, 2) := by decide +kernel
theorem dX13_changeAt_22 : decode cX13_changeAt 22 = .ok (.baload, 1) := by decide +kernel
theorem dX13_changeAt_23 : decode cX13_changeAt 23 = .ok (.bastore, 1) := by decide +kernel
theorem dX13_changeAt_24 : decode cX13_changeAt 24 = .ok (.iinc 3 1, 3) := by decide +kernel
theorem dX13_changeAt_27 : decode cX13_changeAt 27 = .ok (.iinc 4 1, 3) := by decide +kernel
theorem dX13_changeAt_30 : decode cX13_changeAt 30 = .ok (.goto (-25), 3) := by decide +kernel
theorem dX13_changeAt_33 : decode cX13_changeAt 33 = .ok (.iconst 0, 1) := by decide +kernel
theorem dX13_changeAt_34 : decode cX13_changeAt 34 = .ok (.istore 4, 2) := by decide +kernel
theorem dX13_changeAt_36 : decode cX13_changeAt 36 = .ok (.iload 4, 2) := by decide +kernel
theorem dX13_changeAt_38 : decode cX13_changeAt 38 = .ok (.aload_n 0, 1) := by decide +kernel
theorem dX13_changeAt_39 : decode cX13_changeAt 39 = .ok (.getfield 44, 3) := by decide +kernel
theorem dX13_changeAt_42 : decode cX13_changeAt 42 = .ok (.iload_n 1, 1) := by decide +kernel
theorem dX13_changeAt_43 : decode cX13_changeAt 43 = .ok (.iaload, 1) := by decide +kernel
theorem dX13_changeAt_44 : decode cX13_changeAt 44 = .ok (.if_icmp .ge 30, 3) := by decide +kernel
theorem dX13_changeAt_47 : decode cX13_changeAt 47 = .ok (.aload_n 0, 1) := by decide +kernel
theorem dX13_changeAt_48 : decode cX13_changeAt 48 = .ok (.getfield 216, 3) := by decide +kernel
theorem dX13_changeAt_51 : decode cX13_changeAt 51 = .ok (.iload_n 3, 1) := by decide +kernel
theorem dX13_changeAt_52 : decode cX13_changeAt 52 = .ok (.aload_n 0, 1) := by decide +kernel
theorem dX13_changeAt_53 : decode cX13_changeAt 53 = .ok (.getfield 26, 3) := by decide +kernel
theorem dX13_changeAt_56 : decode cX13_changeAt 56 = .ok (.bipush 8, 2) := by decide +kernel
theorem dX13_changeAt_58 : decode cX13_changeAt 58 = .ok (.iload_n 1, 1) := by decide +kernel
theorem dX13_changeAt_59 : decode cX13_changeAt 59 = .ok (.imul, 1) := by decide +kernel
theorem dX13_changeAt_60 : decode cX13_changeAt 60 = .ok (.iload 4, 2) := by decide +kernel
theorem dX13_changeAt_62 : decode cX13_changeAt 62 = .ok (.iadd, 1) := by decide +kernel
theorem dX13_changeAt_63 : decode cX13_changeAt 63 = .ok (.baload, 1) := by decide +kernel
theorem dX13_changeAt_64 : decode cX13_changeAt 64 = .ok (.bastore, 1) := by decide +kernel
theorem dX13_changeAt_65 : decode cX13_changeAt 65 = .ok (.iinc 3 1, 3) := by decide +kernel
theorem dX13_changeAt_68 : decode cX13_changeAt 68 = .ok (.iinc 4 1, 3) := by decide +kernel
theorem dX13_changeAt_71 : decode cX13_changeAt 71 = .ok (.goto (-35), 3) := by decide +kernel
theorem dX13_changeAt_74 : decode cX13_changeAt 74 = .ok (.iload_n 2, 1) := by decide +kernel
theorem dX13_changeAt_75 : decode cX13_changeAt 75 = .ok (.aload_n 0, 1) := by decide +kernel
theorem dX13_changeAt_76 : decode cX13_changeAt 76 = .ok (.getfield 41, 3) := by decide +kernel
theorem dX13_changeAt_79 : decode cX13_changeAt 79 = .ok (.iload_n 1, 1) := by decide +kernel
theorem dX13_changeAt_80 : decode cX13_changeAt 80 = .ok (.iaload, 1) := by decide +kernel
theorem dX13_changeAt_81 : decode cX13_changeAt 81 = .ok (.iadd, 1) := by decide +kernel
theorem dX13_changeAt_82 : decode cX13_changeAt 82 = .ok (.istore 4, 2) := by decide +kernel
theorem dX13_changeAt_84 : decode cX13_changeAt 84 = .ok (.iload 4, 2) := by decide +kernel
theorem dX13_changeAt_86 : decode cX13_changeAt 86 = .ok (.aload_n 0, 1) := by decide +kernel
theorem dX13_changeAt_87 : decode cX13_changeAt 87 = .ok (.getfield 331, 3) := by decide +kernel
theorem dX13_changeAt_90 : decode cX13_changeAt 90 = .ok (.if_icmp .ge 25, 3) := by decide +kernel
theorem dX13_changeAt_93 : decode cX13_changeAt 93 = .ok (.aload_n 0, 1) := by decide +kernel
theorem dX13_changeAt_94 : decode cX13_changeAt 94 = .ok (.getfield 216, 3) := by decide +kernel
theorem dX13_changeAt_97 : decode cX13_changeAt 97 = .ok (.iload_n 3, 1) := by decide +kernel
theorem dX13_changeAt_98 : decode cX13_changeAt 98 = .ok (.aload_n 0, 1) := by decide +kernel
theorem dX13_changeAt_99 : decode cX13_changeAt 99 = .ok (.getfield 213, 3) := by decide +kernel
theorem dX13_changeAt_102 : decode cX13_changeAt 102 = .ok (.iload 4, 2) := by decide +kernel
theorem dX13_changeAt_104 : decode cX13_changeAt 104 = .ok (.baload, 1) := by decide +kernel
theorem dX13_changeAt_105 : decode cX13_changeAt 105 = .ok (.bastore, 1) := by decide +kernel
theorem dX13_changeAt_106 : decode cX13_changeAt 106 = .ok (.iinc 3 1, 3) := by decide +kernel
theorem dX13_changeAt_109 : decode cX13_changeAt 109 = .ok (.iinc 4 1, 3) := by decide +kernel
theorem dX13_changeAt_112 : decode cX13_changeAt 112 = .ok (.goto (-28), 3) := by decide +kernel
theorem dX13_changeAt_115 : decode cX13_changeAt 115 = .ok (.iconst 0, 1) := by decide +kernel
theorem dX13_changeAt_116 : decode cX13_changeAt 116 = .ok (.istore 4, 2) := by decide +kernel
theorem dX13_changeAt_118 : decode cX13_changeAt 118 = .ok (.iload 4, 2) := by decide +kernel
theorem dX13_changeAt_120 : decode cX13_changeAt 120 = .ok (.iload_n 3, 1) := by decide +kernel
theorem dX13_changeAt_121 : decode cX13_changeAt 121 = .ok (.if_icmp .ge 23, 3) := by decide +kernel
theorem dX13_changeAt_124 : decode cX13_changeAt 124 = .ok (.aload_n 0, 1) := by decide +kernel
theorem dX13_changeAt_125 : decode cX13_changeAt 125 = .ok (.getfield 213, 3) := by decide +kernel
theorem dX13_changeAt_128 : decode cX13_changeAt 128 = .ok (.iload 4, 2) := by decide +kernel
theorem dX13_changeAt_130 : decode cX13_changeAt 130 = .ok (.aload_n 0, 1) := by decide +kernel
theorem dX13_changeAt_131 : decode cX13_changeAt 131 = .ok (.getfield 216, 3) := by decide +kernel
theorem dX13_changeAt_134 : decode cX13_changeAt 134 = .ok (.iload 4, 2) := by decide +kernel
theorem dX13_changeAt_136 : decode cX13_changeAt 136 = .ok (.baload, 1) := by decide +kernel
theorem dX13_changeAt_137 : decode cX13_changeAt 137 = .ok (.bastore, 1) := by decide +kernel
theorem dX13_changeAt_138 : decode cX13_changeAt 138 = .ok (.iinc 4 1, 3) := by decide +kernel
theorem dX13_changeAt_141 : decode cX13_changeAt 141 = .ok (.goto (-23), 3) := by decide +kernel
theorem dX13_changeAt_144 : decode cX13_changeAt 144 = .ok (.aload_n 0, 1) := by decide +kernel
theorem dX13_changeAt_145 : decode cX13_changeAt 145 = .ok (.iload_n 3, 1) := by decide +kernel
theorem dX13_changeAt_146 : decode cX13_changeAt 146 = .ok (.putfield 331, 3) := by decide +kernel
theorem dX13_changeAt_149 : decode cX13_changeAt 149 = .ok (.return_, 1) := by decide +kernel
theorem dX13_make_0 : decode cX13_make 0 = .ok (.aload_n 0, 1) := by decide +kernel
theorem dX13_make_1 : decode cX13_make 1 = .ok (.aload_n 0, 1) := by decide +kernel
theorem dX13_make_2 : decode cX13_make 2 = .ok (.getfield 13, 3) := by decide +kernel
theorem dX13_make_5 : decode cX13_make 5 = .ok (.iload_n 1, 1) := by decide +kernel
theorem dX13_make_6 : decode cX13_make 6 = .ok (.iaload, 1) := by decide +kernel
theorem dX13_make_7 : decode cX13_make 7 = .ok (.putfield 331, 3) := by decide +kernel
theorem dX13_make_10 : decode cX13_make 10 = .ok (.iconst 0, 1) := by decide +kernel
theorem dX13_make_11 : decode cX13_make 11 = .ok (.istore 6, 2) := by decide +kernel
theorem dX13_make_13 : decode cX13_make 13 = .ok (.iload 6, 2) := by decide +kernel
theorem dX13_make_15 : decode cX13_make 15 = .ok (.aload_n 0, 1) := by decide +kernel
theorem dX13_make_16 : decode cX13_make 16 = .ok (.getfield 331, 3) := by decide +kernel
theorem dX13_make_19 : decode cX13_make 19 = .ok (.if_icmp .ge 28, 3) := by decide +kernel
theorem dX13_make_22 : decode cX13_make 22 = .ok (.aload_n 0, 1) := by decide +kernel
theorem dX13_make_23 : decode cX13_make 23 = .ok (.getfield 213, 3) := by decide +kernel
theorem dX13_make_26 : decode cX13_make 26 = .ok (.iload 6, 2) := by decide +kernel
theorem dX13_make_28 : decode cX13_make 28 = .ok (.aload_n 0, 1) := by decide +kernel
theorem dX13_make_29 : decode cX13_make 29 = .ok (.getfield 19, 3) := by decide +kernel
theorem dX13_make_32 : decode cX13_make 32 = .ok (.bipush 12, 2) := by decide +kernel
theorem dX13_make_34 : decode cX13_make 34 = .ok (.iload_n 1, 1) := by decide +kernel
theorem dX13_make_35 : decode cX13_make 35 = .ok (.imul, 1) := by decide +kernel
theorem dX13_make_36 : decode cX13_make 36 = .ok (.iload 6, 2) := by decide +kernel
theorem dX13_make_38 : decode cX13_make 38 = .ok (.iadd, 1) := by decide +kernel
theorem dX13_make_39 : decode cX13_make 39 = .ok (.baload, 1) := by decide +kernel
theorem dX13_make_40 : decode cX13_make 40 = .ok (.bastore, 1) := by decide +kernel
theorem dX13_make_41 : decode cX13_make 41 = .ok (.iinc 6 1, 3) := by decide +kernel
theorem dX13_make_44 : decode cX13_make 44 = .ok (.goto (-31), 3) := by decide +kernel
theorem dX13_make_47 : decode cX13_make 47 = .ok (.iconst 0, 1) := by decide +kernel
theorem dX13_make_48 : decode cX13_make 48 = .ok (.istore 6, 2) := by decide +kernel
theorem dX13_make_50 : decode cX13_make 50 = .ok (.iload 6, 2) := by decide +kernel
theorem dX13_make_52 : decode cX13_make 52 = .ok (.bipush 60, 2) := by decide +kernel
theorem dX13_make_54 : decode cX13_make 54 = .ok (.if_icmp .ge 17, 3) := by decide +kernel
theorem dX13_make_57 : decode cX13_make 57 = .ok (.aload_n 0, 1) := by decide +kernel
theorem dX13_make_58 : decode cX13_make 58 = .ok (.getfield 219, 3) := by decide +kernel
theorem dX13_make_61 : decode cX13_make 61 = .ok (.iload 6, 2) := by decide +kernel
theorem dX13_make_63 : decode cX13_make 63 = .ok (.iconst 0, 1) := by decide +kernel
theorem dX13_make_64 : decode cX13_make 64 = .ok (.bastore, 1) := by decide +kernel
theorem dX13_make_65 : decode cX13_make 65 = .ok (.iinc 6 1, 3) := by decide +kernel
theorem dX13_make_68 : decode cX13_make 68 = .ok (.goto (-18), 3) := by decide +kernel
theorem dX13_make_71 : decode cX13_make 71 = .ok (.iload_n 2, 1) := by decide +kernel
theorem dX13_make_72 : decode cX13_make 72 = .ok (.iconst (-1), 1) := by decide +kernel
theorem dX13_make_73 : decode cX13_make 73 = .ok (.if_icmp .eq 58, 3) := by decide +kernel
theorem dX13_make_76 : decode cX13_make 76 = .ok (.aload_n 0, 1) := by decide +kernel
theorem dX13_make_77 : decode cX13_make 77 = .ok (.getfield 331, 3) := by decide +kernel
theorem dX13_make_80 : decode cX13_make 80 = .ok (.istore 6, 2) := by decide +kernel
theorem dX13_make_82 : decode cX13_make 82 = .ok (.iload 6, 2) := by decide +kernel
theorem dX13_make_84 : decode cX13_make 84 = .ok (.ifCond .lt 19, 3) := by decide +kernel
theorem dX13_make_87 : decode cX13_make 87 = .ok (.aload_n 0, 1) := by decide +kernel
theorem dX13_make_88 : decode cX13_make 88 = .ok (.iload_n 2, 1) := by decide +kernel
theorem dX13_make_89 : decode cX13_make 89 = .ok (.iload 6, 2) := by decide +kernel
theorem dX13_make_91 : decode cX13_make 91 = .ok (.invokevirtual 334, 3) := by decide +kernel
theorem dX13_make_94 : decode cX13_make 94 = .ok (.ifCond .ne 9, 3) := by decide +kernel
theorem dX13_make_97 : decode cX13_make 97 = .ok (.iinc 6 (-1), 3) := by decide +kernel
theorem dX13_make_100 : decode cX13_make 100 = .ok (.goto (-18), 3) := by decide +kernel
theorem dX13_make_103 : decode cX13_make 103 = .ok (.iload 6, 2) := by decide +kernel
theorem dX13_make_105 : decode cX13_make 105 = .ok (.ifCond .lt 10, 3) := by decide +kernel
theorem dX13_make_108 : decode cX13_make 108 = .ok (.aload_n 0, 1) := by decide +kernel
theorem dX13_make_109 : decode cX13_make 109 = .ok (.iload_n 2, 1) := by decide +kernel
theorem dX13_make_110 : decode cX13_make 110 = .ok (.iload 6, 2) := by decide +kernel
theorem dX13_make_112 : decode cX13_make 112 = .ok (.invokevirtual 338, 3) := by decide +kernel
theorem dX13_make_115 : decode cX13_make 115 = .ok (.aload_n 0, 1) := by decide +kernel
theorem dX13_make_116 : decode cX13_make 116 = .ok (.getfield 219, 3) := by decide +kernel
theorem dX13_make_119 : decode cX13_make 119 = .ok (.iload_n 2, 1) := by decide +kernel
theorem dX13_make_120 : decode cX13_make 120 = .ok (.iload 6, 2) := by decide +kernel
theorem dX13_make_122 : decode cX13_make 122 = .ok (.ifCond .lt 7, 3) := by decide +kernel
theorem dX13_make_125 : decode cX13_make 125 = .ok (.iconst 1, 1) := by decide +kernel
theorem dX13_make_126 : decode cX13_make 126 = .ok (.goto 4, 3) := by decide +kernel
theorem dX13_make_129 : decode cX13_make 129 = .ok (.iconst 0, 1) := by decide +kernel
theorem dX13_make_130 : decode cX13_make 130 = .ok (.bastore, 1) := by decide +kernel
theorem dX13_make_131 : decode cX13_make 131 = .ok (.aload_n 0, 1) := by decide +kernel
theorem dX13_make_132 : decode cX13_make 132 = .ok (.getfield 331, 3) := by decide +kernel
theorem dX13_make_135 : decode cX13_make 135 = .ok (.bipush 30, 2) := by decide +kernel
theorem dX13_make_137 : decode cX13_make 137 = .ok (.if_icmp .le 5, 3) := by decide +kernel
theorem dX13_make_140 : decode cX13_make 140 = .ok (.iconst 0, 1) := by decide +kernel
theorem dX13_make_141 : decode cX13_make 141 = .ok (.ireturn, 1) := by decide +kernel
theorem dX13_make_142 : decode cX13_make 142 = .ok (.iload_n 3, 1) := by decide +kernel
theorem dX13_make_143 : decode cX13_make 143 = .ok (.iconst (-1), 1) := by decide +kernel
theorem dX13_make_144 : decode cX13_make 144 = .ok (.if_icmp .eq 61, 3) := by decide +kernel
theorem dX13_make_147 : decode cX13_make 147 = .ok (.iconst 0, 1) := by decide +kernel
theorem dX13_make_148 : decode cX13_make 148 = .ok (.istore 6, 2) := by decide +kernel
theorem dX13_make_150 : decode cX13_make 150 = .ok (.iload 6, 2) := by decide +kernel
theorem dX13_make_152 : decode cX13_make 152 = .ok (.aload_n 0, 1) := by decide +kernel
theorem dX13_make_153 : decode cX13_make 153 = .ok (.getfield 41, 3) := by decide +kernel
theorem dX13_make_156 : decode cX13_make 156 = .ok (.iload_n 3, 1) := by decide +kernel
theorem dX13_make_157 : decode cX13_make 157 = .ok (.iaload, 1) := by decide +kernel
theorem dX13_make_158 : decode cX13_make 158 = .ok (.if_icmp .ge 40, 3) := by decide +kernel
theorem dX13_make_161 : decode cX13_make 161 = .ok (.aload_n 0, 1) := by decide +kernel
theorem dX13_make_162 : decode cX13_make 162 = .ok (.getfield 213, 3) := by decide +kernel
theorem dX13_make_165 : decode cX13_make 165 = .ok (.aload_n 0, 1) := by decide +kernel
theorem dX13_make_166 : decode cX13_make 166 = .ok (.getfield 331, 3) := by decide +kernel
theorem dX13_make_169 : decode cX13_make 169 = .ok (.aload_n 0, 1) := by decide +kernel
theorem dX13_make_170 : decode cX13_make 170 = .ok (.getfield 23, 3) := by decide +kernel
theorem dX13_make_173 : decode cX13_make 173 = .ok (.bipush 8, 2) := by decide +kernel
theorem dX13_make_175 : decode cX13_make 175 = .ok (.iload_n 3, 1) := by decide +kernel
theorem dX13_make_176 : decode cX13_make 176 = .ok (.imul, 1) := by decide +kernel
theorem dX13_make_177 : decode cX13_make 177 = .ok (.iload 6, 2) := by decide +kernel
theorem dX13_make_179 : decode cX13_make 179 = .ok (.iadd, 1) := by decide +kernel
theorem dX13_make_180 : decode cX13_make 180 = .ok (.baload, 1) := by decide +kernel
theorem dX13_make_181 : decode cX13_make 181 = .ok (.bastore, 1) := by decide +kernel
theorem dX13_make_182 : decode cX13_make 182 = .ok (.aload_n 0, 1) := by decide +kernel
theorem dX13_make_183 : decode cX13_make 183 = .ok (.dup, 1) := by decide +kernel
theorem dX13_make_184 : decode cX13_make 184 = .ok (.getfield 331, 3) := by decide +kernel
theorem dX13_make_187 : decode cX13_make 187 = .ok (.iconst 1, 1) := by decide +kernel
theorem dX13_make_188 : decode cX13_make 188 = .ok (.iadd, 1) := by decide +kernel
theorem dX13_make_189 : decode cX13_make 189 = .ok (.putfield 331, 3) := by decide +kernel
theorem dX13_make_192 : decode cX13_make 192 = .ok (.iinc 6 1, 3) := by decide +kernel
theorem dX13_make_195 : decode cX13_make 195 = .ok (.goto (-45), 3) := by decide +kernel
theorem dX13_make_198 : decode cX13_make 198 = .ok (.aload_n 0, 1) := by decide +kernel
theorem dX13_make_199 : decode cX13_make 199 = .ok (.getfield 219, 3) := by decide +kernel
theorem dX13_make_202 : decode cX13_make 202 = .ok (.iload_n 3, 1) := by decide +kernel
theorem dX13_make_203 : decode cX13_make 203 = .ok (.iconst 1, 1) := by decide +kernel
theorem dX13_make_204 : decode cX13_make 204 = .ok (.bastore, 1) := by decide +kernel
theorem dX13_make_205 : decode cX13_make 205 = .ok (.aload_n 0, 1) := by decide +kernel
theorem dX13_make_206 : decode cX13_make 206 = .ok (.getfield 331, 3) := by decide +kernel
theorem dX13_make_209 : decode cX13_make 209 = .ok (.bipush 30, 2) := by decide +kernel
theorem dX13_make_211 : decode cX13_make 211 = .ok (.if_icmp .le 5, 3) := by decide +kernel
theorem dX13_make_214 : decode cX13_make 214 = .ok (.iconst 0, 1) := by decide +kernel
theorem dX13_make_215 : decode cX13_make 215 = .ok (.ireturn, 1) := by decide +kernel
theorem dX13_make_216 : decode cX13_make 216 = .ok (.iconst 0, 1) := by decide +kernel
theorem dX13_make_217 : decode cX13_make 217 = .ok (.istore 6, 2) := by decide +kernel
theorem dX13_make_219 : decode cX13_make 219 = .ok (.iload 6, 2) := by decide +kernel
theorem dX13_make_221 : decode cX13_make 221 = .ok (.aload_n 0, 1) := by decide +kernel
theorem dX13_make_222 : decode cX13_make 222 = .ok (.getfield 10, 3) := by decide +kernel
theorem dX13_make_225 : decode cX13_make 225 = .ok (.iconst 0, 1) := by decide +kernel
theorem dX13_make_226 : decode cX13_make 226 = .ok (.iaload, 1) := by decide +kernel
theorem dX13_make_227 : decode cX13_make 227 = .ok (.if_icmp .ge 54, 3) := by decide +kernel
theorem dX13_make_230 : decode cX13_make 230 = .ok (.aload_n 0, 1) := by decide +kernel
theorem dX13_make_231 : decode cX13_make 231 = .ok (.getfield 29, 3) := by decide +kernel
theorem dX13_make_234 : decode cX13_make 234 = .ok (.iload 6, 2) := by decide +kernel
theorem dX13_make_236 : decode cX13_make 236 = .ok (.iaload, 1) := by decide +kernel
theorem dX13_make_237 : decode cX13_make 237 = .ok (.iconst 2, 1) := by decide +kernel
theorem dX13_make_238 : decode cX13_make 238 = .ok (.if_icmp .ne 37, 3) := by decide +kernel
theorem dX13_make_241 : decode cX13_make 241 = .ok (.iload 6, 2) := by decide +kernel
theorem dX13_make_243 : decode cX13_make 243 = .ok (.iload 4, 2) := by decide +kernel
theorem dX13_make_245 : decode cX13_make 245 = .ok (.if_icmp .eq 30, 3) := by decide +kernel
theorem dX13_make_248 : decode cX13_make 248 = .ok (.iload 6, 2) := by decide +kernel
theorem dX13_make_250 : decode cX13_make 250 = .ok (.iload 5, 2) := by decide +kernel
theorem dX13_make_252 : decode cX13_make 252 = .ok (.if_icmp .ne 6, 3) := by decide +kernel
theorem dX13_make_255 : decode cX13_make 255 = .ok (.goto 20, 3) := by decide +kernel
theorem dX13_make_258 : decode cX13_make 258 = .ok (.aload_n 0, 1) := by decide +kernel
theorem dX13_make_259 : decode cX13_make 259 = .ok (.iload 6, 2) := by decide +kernel
theorem dX13_make_261 : decode cX13_make 261 = .ok (.invokevirtual 342, 3) := by decide +kernel
theorem dX13_make_264 : decode cX13_make 264 = .ok (.aload_n 0, 1) := by decide +kernel
theorem dX13_make_265 : decode cX13_make 265 = .ok (.getfield 331, 3) := by decide +kernel
theorem dX13_make_268 : decode cX13_make 268 = .ok (.bipush 30, 2) := by decide +kernel
theorem dX13_make_270 : decode cX13_make 270 = .ok (.if_icmp .le 5, 3) := by decide +kernel
theorem dX13_make_273 : decode cX13_make 273 = .ok (.iconst 0, 1) := by decide +kernel
theorem dX13_make_274 : decode cX13_make 274 = .ok (.ireturn, 1) := by decide +kernel
theorem dX13_make_275 : decode cX13_make 275 = .ok (.iinc 6 1, 3) := by decide +kernel
theorem dX13_make_278 : decode cX13_make 278 = .ok (.goto (-59), 3) := by decide +kernel
theorem dX13_make_281 : decode cX13_make 281 = .ok (.aload_n 0, 1) := by decide +kernel
theorem dX13_make_282 : decode cX13_make 282 = .ok (.getfield 331, 3) := by decide +kernel
theorem dX13_make_285 : decode cX13_make 285 = .ok (.ifCond .le 7, 3) := by decide +kernel
theorem dX13_make_288 : decode cX13_make 288 = .ok (.iconst 1, 1) := by decide +kernel
theorem dX13_make_289 : decode cX13_make 289 = .ok (.goto 4, 3) := by decide +kernel
theorem dX13_make_292 : decode cX13_make 292 = .ok (.iconst 0, 1) := by decide +kernel
theorem dX13_make_293 : decode cX13_make 293 = .ok (.ireturn, 1) := by decide +kernel
theorem dX13_sound_0 : decode cX13_sound 0 = .ok (.aload_n 0, 1) := by decide +kernel
theorem dX13_sound_1 : decode cX13_sound 1 = .ok (.getfield 331, 3) := by decide +kernel
theorem dX13_sound_4 : decode cX13_sound 4 = .ok (.istore_n 2, 1) := by decide +kernel
theorem dX13_sound_5 : decode cX13_sound 5 = .ok (.iconst 0, 1) := by decide +kernel
theorem dX13_sound_6 : decode cX13_sound 6 = .ok (.istore_n 3, 1) := by decide +kernel
theorem dX13_sound_7 : decode cX13_sound 7 = .ok (.iload_n 3, 1) := by decide +kernel
theorem dX13_sound_8 : decode cX13_sound 8 = .ok (.iload_n 2, 1) := by decide +kernel
theorem dX13_sound_9 : decode cX13_sound 9 = .ok (.if_icmp .ge 21, 3) := by decide +kernel
theorem dX13_sound_12 : decode cX13_sound 12 = .ok (.aload_n 0, 1) := by decide +kernel
theorem dX13_sound_13 : decode cX13_sound 13 = .ok (.getfield 223, 3) := by decide +kernel
theorem dX13_sound_16 : decode cX13_sound 16 = .ok (.iload_n 3, 1) := by decide +kernel
theorem dX13_sound_17 : decode cX13_sound 17 = .ok (.aload_n 0, 1) := by decide +kernel
theorem dX13_sound_18 : decode cX13_sound 18 = .ok (.getfield 213, 3) := by decide +kernel
theorem dX13_sound_21 : decode cX13_sound 21 = .ok (.iload_n 3, 1) := by decide +kernel
theorem dX13_sound_22 : decode cX13_sound 22 = .ok (.baload, 1) := by decide +kernel
theorem dX13_sound_23 : decode cX13_sound 23 = .ok (.bastore, 1) := by decide +kernel
theorem dX13_sound_24 : decode cX13_sound 24 = .ok (.iinc 3 1, 3) := by decide +kernel
theorem dX13_sound_27 : decode cX13_sound 27 = .ok (.goto (-20), 3) := by decide +kernel
theorem dX13_sound_30 : decode cX13_sound 30 = .ok (.aload_n 0, 1) := by decide +kernel
theorem dX13_sound_31 : decode cX13_sound 31 = .ok (.getfield 47, 3) := by decide +kernel
theorem dX13_sound_34 : decode cX13_sound 34 = .ok (.iload_n 1, 1) := by decide +kernel
theorem dX13_sound_35 : decode cX13_sound 35 = .ok (.iaload, 1) := by decide +kernel
theorem dX13_sound_36 : decode cX13_sound 36 = .ok (.iconst 1, 1) := by decide +kernel
theorem dX13_sound_37 : decode cX13_sound 37 = .ok (.if_icmp .ne 41, 3) := by decide +kernel
theorem dX13_sound_40 : decode cX13_sound 40 = .ok (.aload_n 0, 1) := by decide +kernel
theorem dX13_sound_41 : decode cX13_sound 41 = .ok (.iload_n 1, 1) := by decide +kernel
theorem dX13_sound_42 : decode cX13_sound 42 = .ok (.aload_n 0, 1) := by decide +kernel
theorem dX13_sound_43 : decode cX13_sound 43 = .ok (.getfield 331, 3) := by decide +kernel
theorem dX13_sound_46 : decode cX13_sound 46 = .ok (.aload_n 0, 1) := by decide +kernel
theorem dX13_sound_47 : decode cX13_sound 47 = .ok (.getfield 41, 3) := by decide +kernel
theorem dX13_sound_50 : decode cX13_sound 50 = .ok (.iload_n 1, 1) := by decide +kernel
theorem dX13_sound_51 : decode cX13_sound 51 = .ok (.iaload, 1) := by decide +kernel
theorem dX13_sound_52 : decode cX13_sound 52 = .ok (.isub, 1) := by decide +kernel
theorem dX13_sound_53 : decode cX13_sound 53 = .ok (.invokevirtual 334, 3) := by decide +kernel
theorem dX13_sound_56 : decode cX13_sound 56 = .ok (.ifCond .eq 65, 3) := by decide +kernel
theorem dX13_sound_59 : decode cX13_sound 59 = .ok (.aload_n 0, 1) := by decide +kernel
theorem dX13_sound_60 : decode cX13_sound 60 = .ok (.iload_n 1, 1) := by decide +kernel
theorem dX13_sound_61 : decode cX13_sound 61 = .ok (.aload_n 0, 1) := by decide +kernel
theorem dX13_sound_62 : decode cX13_sound 62 = .ok (.getfield 331, 3) := by decide +kernel
theorem dX13_sound_65 : decode cX13_sound 65 = .ok (.aload_n 0, 1) := by decide +kernel
theorem dX13_sound_66 : decode cX13_sound 66 = .ok (.getfield 41, 3) := by decide +kernel
theorem dX13_sound_69 : decode cX13_sound 69 = .ok (.iload_n 1, 1) := by decide +kernel
theorem dX13_sound_70 : decode cX13_sound 70 = .ok (.iaload, 1) := by decide +kernel
theorem dX13_sound_71 : decode cX13_sound 71 = .ok (.isub, 1) := by decide +kernel
theorem dX13_sound_72 : decode cX13_sound 72 = .ok (.invokevirtual 338, 3) := by decide +kernel
theorem dX13_sound_75 : decode cX13_sound 75 = .ok (.goto 46, 3) := by decide +kernel
theorem dX13_sound_78 : decode cX13_sound 78 = .ok (.iconst 0, 1) := by decide +kernel
theorem dX13_sound_79 : decode cX13_sound 79 = .ok (.istore_n 3, 1) := by decide +kernel
theorem dX13_sound_80 : decode cX13_sound 80 = .ok (.iload_n 3, 1) := by decide +kernel
theorem dX13_sound_81 : decode cX13_sound 81 = .ok (.aload_n 0, 1) := by decide +kernel
theorem dX13_sound_82 : decode cX13_sound 82 = .ok (.getfield 331, 3) := by decide +kernel
theorem dX13_sound_85 : decode cX13_sound 85 = .ok (.if_icmp .ge 36, 3) := by decide +kernel
theorem dX13_sound_88 : decode cX13_sound 88 = .ok (.aload_n 0, 1) := by decide +kernel
theorem dX13_sound_89 : decode cX13_sound 89 = .ok (.iload_n 1, 1) := by decide +kernel
theorem dX13_sound_90 : decode cX13_sound 90 = .ok (.iload_n 3, 1) := by decide +kernel
theorem dX13_sound_91 : decode cX13_sound 91 = .ok (.invokevirtual 334, 3) := by decide +kernel
theorem dX13_sound_94 : decode cX13_sound 94 = .ok (.ifCond .ne 9, 3) := by decide +kernel
theorem dX13_sound_97 : decode cX13_sound 97 = .ok (.iinc 3 1, 3) := by decide +kernel
theorem dX13_sound_100 : decode cX13_sound 100 = .ok (.goto (-20), 3) := by decide +kernel
theorem dX13_sound_103 : decode cX13_sound 103 = .ok (.aload_n 0, 1) := by decide +kernel
theorem dX13_sound_104 : decode cX13_sound 104 = .ok (.iload_n 1, 1) := by decide +kernel
theorem dX13_sound_105 : decode cX13_sound 105 = .ok (.iload_n 3, 1) := by decide +kernel
theorem dX13_sound_106 : decode cX13_sound 106 = .ok (.invokevirtual 338, 3) := by decide +kernel
theorem dX13_sound_109 : decode cX13_sound 109 = .ok (.iload_n 3, 1) := by decide +kernel
theorem dX13_sound_110 : decode cX13_sound 110 = .ok (.aload_n 0, 1) := by decide +kernel
theorem dX13_sound_111 : decode cX13_sound 111 = .ok (.getfield 44, 3) := by decide +kernel
theorem dX13_sound_114 : decode cX13_sound 114 = .ok (.iload_n 1, 1) := by decide +kernel
theorem dX13_sound_115 : decode cX13_sound 115 = .ok (.iaload, 1) := by decide +kernel
theorem dX13_sound_116 : decode cX13_sound 116 = .ok (.iadd, 1) := by decide +kernel
theorem dX13_sound_117 : decode cX13_sound 117 = .ok (.istore_n 3, 1) := by decide +kernel
theorem dX13_sound_118 : decode cX13_sound 118 = .ok (.goto (-38), 3) := by decide +kernel
theorem dX13_sound_121 : decode cX13_sound 121 = .ok (.iload_n 2, 1) := by decide +kernel
theorem dX13_sound_122 : decode cX13_sound 122 = .ok (.aload_n 0, 1) := by decide +kernel
theorem dX13_sound_123 : decode cX13_sound 123 = .ok (.getfield 331, 3) := by decide +kernel
theorem dX13_sound_126 : decode cX13_sound 126 = .ok (.if_icmp .ne 7, 3) := by decide +kernel
theorem dX13_sound_129 : decode cX13_sound 129 = .ok (.iconst 1, 1) := by decide +kernel
theorem dX13_sound_130 : decode cX13_sound 130 = .ok (.goto 4, 3) := by decide +kernel
theorem dX13_sound_133 : decode cX13_sound 133 = .ok (.iconst 0, 1) := by decide +kernel
theorem dX13_sound_134 : decode cX13_sound 134 = .ok (.istore_n 3, 1) := by decide +kernel
theorem dX13_sound_135 : decode cX13_sound 135 = .ok (.iconst 0, 1) := by decide +kernel
theorem dX13_sound_136 : decode cX13_sound 136 = .ok (.istore 4, 2) := by decide +kernel
theorem dX13_sound_138 : decode cX13_sound 138 = .ok (.iload 4, 2) := by decide +kernel
theorem dX13_sound_140 : decode cX13_sound 140 = .ok (.iload_n 2, 1) := by decide +kernel
theorem dX13_sound_141 : decode cX13_sound 141 = .ok (.if_icmp .ge 36, 3) := by decide +kernel
theorem dX13_sound_144 : decode cX13_sound 144 = .ok (.iload_n 3, 1) := by decide +kernel
theorem dX13_sound_145 : decode cX13_sound 145 = .ok (.ifCond .eq 32, 3) := by decide +kernel
theorem dX13_sound_148 : decode cX13_sound 148 = .ok (.aload_n 0, 1) := by decide +kernel
theorem dX13_sound_149 : decode cX13_sound 149 = .ok (.getfield 223, 3) := by decide +kernel
theorem dX13_sound_152 : decode cX13_sound 152 = .ok (.iload 4, 2) := by decide +kernel
theorem dX13_sound_154 : decode cX13_sound 154 = .ok (.baload, 1) := by decide +kernel
theorem dX13_sound_155 : decode cX13_sound 155 = .ok (.aload_n 0, 1) := by decide +kernel
theorem dX13_sound_156 : decode cX13_sound 156 = .ok (.getfield 213, 3) := by decide +kernel
theorem dX13_sound_159 : decode cX13_sound 159 = .ok (.iload 4, 2) := by decide +kernel
theorem dX13_sound_161 : decode cX13_sound 161 = .ok (.baload, 1) := by decide +kernel
theorem dX13_sound_162 : decode cX13_sound 162 = .ok (.if_icmp .ne 7, 3) := by decide +kernel
theorem dX13_sound_165 : decode cX13_sound 165 = .ok (.iconst 1, 1) := by decide +kernel
theorem dX13_sound_166 : decode cX13_sound 166 = .ok (.goto 4, 3) := by decide +kernel
theorem dX13_sound_169 : decode cX13_sound 169 = .ok (.iconst 0, 1) := by decide +kernel
theorem dX13_sound_170 : decode cX13_sound 170 = .ok (.istore_n 3, 1) := by decide +kernel
theorem dX13_sound_171 : decode cX13_sound 171 = .ok (.iinc 4 1, 3) := by decide +kernel
theorem dX13_sound_174 : decode cX13_sound 174 = .ok (.goto (-36), 3) := by decide +kernel
theorem dX13_sound_177 : decode cX13_sound 177 = .ok (.aload_n 0, 1) := by decide +kernel
theorem dX13_sound_178 : decode cX13_sound 178 = .ok (.getfield 219, 3) := by decide +kernel
theorem dX13_sound_181 : decode cX13_sound 181 = .ok (.iload_n 1, 1) := by decide +kernel
theorem dX13_sound_182 : decode cX13_sound 182 = .ok (.iload_n 3, 1) := by decide +kernel
theorem dX13_sound_183 : decode cX13_sound 183 = .ok (.ifCond .ne 7, 3) := by decide +kernel
theorem dX13_sound_186 : decode cX13_sound 186 = .ok (.iconst 1, 1) := by decide +kernel
theorem dX13_sound_187 : decode cX13_sound 187 = .ok (.goto 4, 3) := by decide +kernel
theorem dX13_sound_190 : decode cX13_sound 190 = .ok (.iconst 0, 1) := by decide +kernel
theorem dX13_sound_191 : decode cX13_sound 191 = .ok (.bastore, 1) := by decide +kernel
theorem dX13_sound_192 : decode cX13_sound 192 = .ok (.return_, 1) := by decide +kernel
theorem dX13_beginForm_0 : decode cX13_beginForm 0 = .ok (.aload_n 0, 1) := by decide +kernel
theorem dX13_beginForm_1 : decode cX13_beginForm 1 = .ok (.getfield 235, 3) := by decide +kernel
theorem dX13_beginForm_4 : decode cX13_beginForm 4 = .ok (.aload_n 0, 1) := by decide +kernel
theorem dX13_beginForm_5 : decode cX13_beginForm 5 = .ok (.getfield 344, 3) := by decide +kernel
theorem dX13_beginForm_8 : decode cX13_beginForm 8 = .ok (.iconst 0, 1) := by decide +kernel
theorem dX13_beginForm_9 : decode cX13_beginForm 9 = .ok (.iastore, 1) := by decide +kernel
theorem dX13_beginForm_10 : decode cX13_beginForm 10 = .ok (.aload_n 0, 1) := by decide +kernel
theorem dX13_beginForm_11 : decode cX13_beginForm 11 = .ok (.getfield 241, 3) := by decide +kernel
theorem dX13_beginForm_14 : decode cX13_beginForm 14 = .ok (.aload_n 0, 1) := by decide +kernel
theorem dX13_beginForm_15 : decode cX13_beginForm 15 = .ok (.getfield 344, 3) := by decide +kernel
theorem dX13_beginForm_18 : decode cX13_beginForm 18 = .ok (.iconst 0, 1) := by decide +kernel
theorem dX13_beginForm_19 : decode cX13_beginForm 19 = .ok (.iastore, 1) := by decide +kernel
theorem dX13_beginForm_20 : decode cX13_beginForm 20 = .ok (.return_, 1) := by decide +kernel
theorem dX13_note_0 : decode cX13_note 0 = .ok (.aload_n 0, 1) := by decide +kernel
theorem dX13_note_1 : decode cX13_note 1 = .ok (.getfield 238, 3) := by decide +kernel
theorem dX13_note_4 : decode cX13_note 4 = .ok (.sipush 140, 3) := by decide +kernel
theorem dX13_note_7 : decode cX13_note 7 = .ok (.aload_n 0, 1) := by decide +kernel
theorem dX13_note_8 : decode cX13_note 8 = .ok (.getfield 344, 3) := by decide +kernel
theorem dX13_note_11 : decode cX13_note 11 = .ok (.imul, 1) := by decide +kernel
theorem dX13_note_12 : decode cX13_note 12 = .ok (.aload_n 0, 1) := by decide +kernel
theorem dX13_note_13 : decode cX13_note 13 = .ok (.getfield 241, 3) := by decide +kernel
theorem dX13_note_16 : decode cX13_note 16 = .ok (.aload_n 0, 1) := by decide +kernel
theorem dX13_note_17 : decode cX13_note 17 = .ok (.getfield 344, 3) := by decide +kernel
theorem dX13_note_20 : decode cX13_note 20 = .ok (.iaload, 1) := by decide +kernel
theorem dX13_note_21 : decode cX13_note 21 = .ok (.iadd, 1) := by decide +kernel
theorem dX13_note_22 : decode cX13_note 22 = .ok (.iload_n 1, 1) := by decide +kernel
theorem dX13_note_23 : decode cX13_note 23 = .ok (.iastore, 1) := by decide +kernel
theorem dX13_note_24 : decode cX13_note 24 = .ok (.aload_n 0, 1) := by decide +kernel
theorem dX13_note_25 : decode cX13_note 25 = .ok (.getfield 241, 3) := by decide +kernel
theorem dX13_note_28 : decode cX13_note 28 = .ok (.aload_n 0, 1) := by decide +kernel
theorem dX13_note_29 : decode cX13_note 29 = .ok (.getfield 344, 3) := by decide +kernel
theorem dX13_note_32 : decode cX13_note 32 = .ok (.dup2, 1) := by decide +kernel
theorem dX13_note_33 : decode cX13_note 33 = .ok (.iaload, 1) := by decide +kernel
theorem dX13_note_34 : decode cX13_note 34 = .ok (.iconst 1, 1) := by decide +kernel
theorem dX13_note_35 : decode cX13_note 35 = .ok (.iadd, 1) := by decide +kernel
theorem dX13_note_36 : decode cX13_note 36 = .ok (.iastore, 1) := by decide +kernel
theorem dX13_note_37 : decode cX13_note 37 = .ok (.return_, 1) := by decide +kernel
theorem dX13_say_0 : decode cX13_say 0 = .ok (.aload_n 0, 1) := by decide +kernel
theorem dX13_say_1 : decode cX13_say 1 = .ok (.getfield 226, 3) := by decide +kernel
theorem dX13_say_4 : decode cX13_say 4 = .ok (.bipush 61, 2) := by decide +kernel
theorem dX13_say_6 : decode cX13_say 6 = .ok (.aload_n 0, 1) := by decide +kernel
theorem dX13_say_7 : decode cX13_say 7 = .ok (.getfield 344, 3) := by decide +kernel
theorem dX13_say_10 : decode cX13_say 10 = .ok (.imul, 1) := by decide +kernel
theorem dX13_say_11 : decode cX13_say 11 = .ok (.aload_n 0, 1) := by decide +kernel
theorem dX13_say_12 : decode cX13_say 12 = .ok (.getfield 235, 3) := by decide +kernel
theorem dX13_say_15 : decode cX13_say 15 = .ok (.aload_n 0, 1) := by decide +kernel
theorem dX13_say_16 : decode cX13_say 16 = .ok (.getfield 344, 3) := by decide +kernel
theorem dX13_say_19 : decode cX13_say 19 = .ok (.iaload, 1) := by decide +kernel
theorem dX13_say_20 : decode cX13_say 20 = .ok (.iadd, 1) := by decide +kernel
theorem dX13_say_21 : decode cX13_say 21 = .ok (.iload_n 1, 1) := by decide +kernel
theorem dX13_say_22 : decode cX13_say 22 = .ok (.i2b, 1) := by decide +kernel
theorem dX13_say_23 : decode cX13_say 23 = .ok (.bastore, 1) := by decide +kernel
theorem dX13_say_24 : decode cX13_say 24 = .ok (.aload_n 0, 1) := by decide +kernel
theorem dX13_say_25 : decode cX13_say 25 = .ok (.getfield 235, 3) := by decide +kernel
theorem dX13_say_28 : decode cX13_say 28 = .ok (.aload_n 0, 1) := by decide +kernel
theorem dX13_say_29 : decode cX13_say 29 = .ok (.getfield 344, 3) := by decide +kernel
theorem dX13_say_32 : decode cX13_say 32 = .ok (.dup2, 1) := by decide +kernel
theorem dX13_say_33 : decode cX13_say 33 = .ok (.iaload, 1) := by decide +kernel
theorem dX13_say_34 : decode cX13_say 34 = .ok (.iconst 1, 1) := by decide +kernel
theorem dX13_say_35 : decode cX13_say 35 = .ok (.iadd, 1) := by decide +kernel
theorem dX13_say_36 : decode cX13_say 36 = .ok (.iastore, 1) := by decide +kernel
theorem dX13_say_37 : decode cX13_say 37 = .ok (.return_, 1) := by decide +kernel
theorem dX13_simple_0 : decode cX13_simple 0 = .ok (.aload_n 0, 1) := by decide +kernel
theorem dX13_simple_1 : decode cX13_simple 1 = .ok (.iconst 0, 1) := by decide +kernel
theorem dX13_simple_2 : decode cX13_simple 2 = .ok (.putfield 344, 3) := by decide +kernel
theorem dX13_simple_5 : decode cX13_simple 5 = .ok (.aload_n 0, 1) := by decide +kernel
theorem dX13_simple_6 : decode cX13_simple 6 = .ok (.iconst 5, 1) := by decide +kernel
theorem dX13_simple_7 : decode cX13_simple 7 = .ok (.iload_n 1, 1) := by decide +kernel
theorem dX13_simple_8 : decode cX13_simple 8 = .ok (.iload_n 2, 1) := by decide +kernel
theorem dX13_simple_9 : decode cX13_simple 9 = .ok (.iload_n 3, 1) := by decide +kernel
theorem dX13_simple_10 : decode cX13_simple 10 = .ok (.invokevirtual 347, 3) := by decide +kernel
theorem dX13_simple_13 : decode cX13_simple 13 = .ok (.iconst (-1), 1) := by decide +kernel
theorem dX13_simple_14 : decode cX13_simple 14 = .ok (.if_icmp .eq 4, 3) := by decide +kernel
theorem dX13_simple_17 : decode cX13_simple 17 = .ok (.return_, 1) := by decide +kernel
theorem dX13_simple_18 : decode cX13_simple 18 = .ok (.iconst 0, 1) := by decide +kernel
theorem dX13_simple_19 : decode cX13_simple 19 = .ok (.istore 4, 2) := by decide +kernel
theorem dX13_simple_21 : decode cX13_simple 21 = .ok (.iload 4, 2) := by decide +kernel
theorem dX13_simple_23 : decode cX13_simple 23 = .ok (.aload_n 0, 1) := by decide +kernel
theorem dX13_simple_24 : decode cX13_simple 24 = .ok (.getfield 10, 3) := by decide +kernel
theorem dX13_simple_27 : decode cX13_simple 27 = .ok (.iconst 0, 1) := by decide +kernel
theorem dX13_simple_28 : decode cX13_simple 28 = .ok (.iaload, 1) := by decide +kernel
theorem dX13_simple_29 : decode cX13_simple 29 = .ok (.if_icmp .ge 101, 3) := by decide +kernel
theorem dX13_simple_32 : decode cX13_simple 32 = .ok (.aload_n 0, 1) := by decide +kernel
theorem dX13_simple_33 : decode cX13_simple 33 = .ok (.getfield 344, 3) := by decide +kernel
theorem dX13_simple_36 : decode cX13_simple 36 = .ok (.iconst 2, 1) := by decide +kernel
theorem dX13_simple_37 : decode cX13_simple 37 = .ok (.if_icmp .ge 93, 3) := by decide +kernel
theorem dX13_simple_40 : decode cX13_simple 40 = .ok (.aload_n 0, 1) := by decide +kernel
theorem dX13_simple_41 : decode cX13_simple 41 = .ok (.getfield 29, 3) := by decide +kernel
theorem dX13_simple_44 : decode cX13_simple 44 = .ok (.iload 4, 2) := by decide +kernel
theorem dX13_simple_46 : decode cX13_simple 46 = .ok (.iaload, 1) := by decide +kernel
theorem dX13_simple_47 : decode cX13_simple 47 = .ok (.iconst 4, 1) := by decide +kernel
theorem dX13_simple_48 : decode cX13_simple 48 = .ok (.if_icmp .ne 76, 3) := by decide +kernel
theorem dX13_simple_51 : decode cX13_simple 51 = .ok (.aload_n 0, 1) := by decide +kernel
theorem dX13_simple_52 : decode cX13_simple 52 = .ok (.iload 4, 2) := by decide +kernel
theorem dX13_simple_54 : decode cX13_simple 54 = .ok (.iload_n 1, 1) := by decide +kernel
theorem dX13_simple_55 : decode cX13_simple 55 = .ok (.iload_n 2, 1) := by decide +kernel
theorem dX13_simple_56 : decode cX13_simple 56 = .ok (.iload_n 3, 1) := by decide +kernel
theorem dX13_simple_57 : decode cX13_simple 57 = .ok (.invokevirtual 327, 3) := by decide +kernel
theorem dX13_simple_60 : decode cX13_simple 60 = .ok (.ifCond .ne 6, 3) := by decide +kernel
theorem dX13_simple_63 : decode cX13_simple 63 = .ok (.goto 61, 3) := by decide +kernel
theorem dX13_simple_66 : decode cX13_simple 66 = .ok (.aload_n 0, 1) := by decide +kernel
theorem dX13_simple_67 : decode cX13_simple 67 = .ok (.invokevirtual 351, 3) := by decide +kernel
theorem dX13_simple_70 : decode cX13_simple 70 = .ok (.iconst 0, 1) := by decide +kernel
theorem dX13_simple_71 : decode cX13_simple 71 = .ok (.istore 5, 2) := by decide +kernel
theorem dX13_simple_73 : decode cX13_simple 73 = .ok (.iload 5, 2) := by decide +kernel
theorem dX13_simple_75 : decode cX13_simple 75 = .ok (.aload_n 0, 1) := by decide +kernel
theorem dX13_simple_76 : decode cX13_simple 76 = .ok (.getfield 41, 3) := by decide +kernel
theorem dX13_simple_79 : decode cX13_simple 79 = .ok (.iload 4, 2) := by decide +kernel
theorem dX13_simple_81 : decode cX13_simple 81 = .ok (.iaload, 1) := by decide +kernel
theorem dX13_simple_82 : decode cX13_simple 82 = .ok (.if_icmp .ge 26, 3) := by decide +kernel
theorem dX13_simple_85 : decode cX13_simple 85 = .ok (.aload_n 0, 1) := by decide +kernel
theorem dX13_simple_86 : decode cX13_simple 86 = .ok (.aload_n 0, 1) := by decide +kernel
theorem dX13_simple_87 : decode cX13_simple 87 = .ok (.getfield 23, 3) := by decide +kernel
theorem dX13_simple_90 : decode cX13_simple 90 = .ok (.bipush 8, 2) := by decide +kernel
theorem dX13_simple_92 : decode cX13_simple 92 = .ok (.iload 4, 2) := by decide +kernel
theorem dX13_simple_94 : decode cX13_simple 94 = .ok (.imul, 1) := by decide +kernel
theorem dX13_simple_95 : decode cX13_simple 95 = .ok (.iload 5, 2) := by decide +kernel
theorem dX13_simple_97 : decode cX13_simple 97 = .ok (.iadd, 1) := by decide +kernel
theorem dX13_simple_98 : decode cX13_simple 98 = .ok (.baload, 1) := by decide +kernel
theorem dX13_simple_99 : decode cX13_simple 99 = .ok (.invokevirtual 354, 3) := by decide +kernel
theorem dX13_simple_102 : decode cX13_simple 102 = .ok (.iinc 5 1, 3) := by decide +kernel
theorem dX13_simple_105 : decode cX13_simple 105 = .ok (.goto (-32), 3) := by decide +kernel
theorem dX13_simple_108 : decode cX13_simple 108 = .ok (.aload_n 0, 1) := by decide +kernel
theorem dX13_simple_109 : decode cX13_simple 109 = .ok (.iload 4, 2) := by decide +kernel
theorem dX13_simple_111 : decode cX13_simple 111 = .ok (.invokevirtual 357, 3) := by decide +kernel
theorem dX13_simple_114 : decode cX13_simple 114 = .ok (.aload_n 0, 1) := by decide +kernel
theorem dX13_simple_115 : decode cX13_simple 115 = .ok (.dup, 1) := by decide +kernel
theorem dX13_simple_116 : decode cX13_simple 116 = .ok (.getfield 344, 3) := by decide +kernel
theorem dX13_simple_119 : decode cX13_simple 119 = .ok (.iconst 1, 1) := by decide +kernel
theorem dX13_simple_120 : decode cX13_simple 120 = .ok (.iadd, 1) := by decide +kernel
theorem dX13_simple_121 : decode cX13_simple 121 = .ok (.putfield 344, 3) := by decide +kernel
theorem dX13_simple_124 : decode cX13_simple 124 = .ok (.iinc 4 1, 3) := by decide +kernel
theorem dX13_simple_127 : decode cX13_simple 127 = .ok (.goto (-106), 3) := by decide +kernel
theorem dX13_simple_130 : decode cX13_simple 130 = .ok (.aload_n 0, 1) := by decide +kernel
theorem dX13_simple_131 : decode cX13_simple 131 = .ok (.iconst 1, 1) := by decide +kernel
theorem dX13_simple_132 : decode cX13_simple 132 = .ok (.iload_n 1, 1) := by decide +kernel
theorem dX13_simple_133 : decode cX13_simple 133 = .ok (.iload_n 2, 1) := by decide +kernel
theorem dX13_simple_134 : decode cX13_simple 134 = .ok (.iload_n 3, 1) := by decide +kernel
theorem dX13_simple_135 : decode cX13_simple 135 = .ok (.invokevirtual 347, 3) := by decide +kernel
theorem dX13_simple_138 : decode cX13_simple 138 = .ok (.istore 4, 2) := by decide +kernel
theorem dX13_simple_140 : decode cX13_simple 140 = .ok (.aload_n 0, 1) := by decide +kernel
theorem dX13_simple_141 : decode cX13_simple 141 = .ok (.iconst 0, 1) := by decide +kernel
theorem dX13_simple_142 : decode cX13_simple 142 = .ok (.iload_n 1, 1) := by decide +kernel
theorem dX13_simple_143 : decode cX13_simple 143 = .ok (.iload_n 2, 1) := by decide +kernel
theorem dX13_simple_144 : decode cX13_simple 144 = .ok (.iload_n 3, 1) := by decide +kernel
theorem dX13_simple_145 : decode cX13_simple 145 = .ok (.invokevirtual 347, 3) := by decide +kernel
theorem dX13_simple_148 : decode cX13_simple 148 = .ok (.istore 5, 2) := by decide +kernel
theorem dX13_simple_150 : decode cX13_simple 150 = .ok (.aload_n 0, 1) := by decide +kernel
theorem dX13_simple_151 : decode cX13_simple 151 = .ok (.getfield 344, 3) := by decide +kernel
theorem dX13_simple_154 : decode cX13_simple 154 = .ok (.ifCond .gt 23, 3) := by decide +kernel
theorem dX13_simple_157 : decode cX13_simple 157 = .ok (.iload 4, 2) := by decide +kernel
theorem dX13_simple_159 : decode cX13_simple 159 = .ok (.iconst (-1), 1) := by decide +kernel
theorem dX13_simple_160 : decode cX13_simple 160 = .ok (.if_icmp .eq 17, 3) := by decide +kernel
theorem dX13_simple_163 : decode cX13_simple 163 = .ok (.aload_n 0, 1) := by decide +kernel
theorem dX13_simple_164 : decode cX13_simple 164 = .ok (.iload_n 1, 1) := by decide +kernel
theorem dX13_simple_165 : decode cX13_simple 165 = .ok (.iload 5, 2) := by decide +kernel
theorem dX13_simple_167 : decode cX13_simple 167 = .ok (.iload 4, 2) := by decide +kernel
theorem dX13_simple_169 : decode cX13_simple 169 = .ok (.iconst (-1), 1) := by decide +kernel
theorem dX13_simple_170 : decode cX13_simple 170 = .ok (.iconst (-1), 1) := by decide +kernel
theorem dX13_simple_171 : decode cX13_simple 171 = .ok (.invokevirtual 360, 3) := by decide +kernel
theorem dX13_simple_174 : decode cX13_simple 174 = .ok (.ifCond .ne 4, 3) := by decide +kernel
theorem dX13_simple_177 : decode cX13_simple 177 = .ok (.return_, 1) := by decide +kernel
theorem dX13_simple_178 : decode cX13_simple 178 = .ok (.aload_n 0, 1) := by decide +kernel
theorem dX13_simple_179 : decode cX13_simple 179 = .ok (.invokevirtual 351, 3) := by decide +kernel
theorem dX13_simple_182 : decode cX13_simple 182 = .ok (.iconst 0, 1) := by decide +kernel
theorem dX13_simple_183 : decode cX13_simple 183 = .ok (.istore 6, 2) := by decide +kernel
theorem dX13_simple_185 : decode cX13_simple 185 = .ok (.iload 6, 2) := by decide +kernel
theorem dX13_simple_187 : decode cX13_simple 187 = .ok (.aload_n 0, 1) := by decide +kernel
theorem dX13_simple_188 : decode cX13_simple 188 = .ok (.getfield 331, 3) := by decide +kernel
theorem dX13_simple_191 : decode cX13_simple 191 = .ok (.if_icmp .ge 20, 3) := by decide +kernel
theorem dX13_simple_194 : decode cX13_simple 194 = .ok (.aload_n 0, 1) := by decide +kernel
theorem dX13_simple_195 : decode cX13_simple 195 = .ok (.aload_n 0, 1) := by decide +kernel
theorem dX13_simple_196 : decode cX13_simple 196 = .ok (.getfield 213, 3) := by decide +kernel
theorem dX13_simple_199 : decode cX13_simple 199 = .ok (.iload 6, 2) := by decide +kernel
theorem dX13_simple_201 : decode cX13_simple 201 = .ok (.baload, 1) := by decide +kernel
theorem dX13_simple_202 : decode cX13_simple 202 = .ok (.invokevirtual 354, 3) := by decide +kernel
theorem dX13_simple_205 : decode cX13_simple 205 = .ok (.iinc 6 1, 3) := by decide +kernel
theorem dX13_simple_208 : decode cX13_simple 208 = .ok (.goto (-23), 3) := by decide +kernel
theorem dX13_simple_211 : decode cX13_simple 211 = .ok (.iload 5, 2) := by decide +kernel
theorem dX13_simple_213 : decode cX13_simple 213 = .ok (.iconst (-1), 1) := by decide +kernel
theorem dX13_simple_214 : decode cX13_simple 214 = .ok (.if_icmp .eq 19, 3) := by decide +kernel
theorem dX13_simple_217 : decode cX13_simple 217 = .ok (.aload_n 0, 1) := by decide +kernel
theorem dX13_simple_218 : decode cX13_simple 218 = .ok (.getfield 219, 3) := by decide +kernel
theorem dX13_simple_221 : decode cX13_simple 221 = .ok (.iload 5, 2) := by decide +kernel
theorem dX13_simple_223 : decode cX13_simple 223 = .ok (.baload, 1) := by decide +kernel
theorem dX13_simple_224 : decode cX13_simple 224 = .ok (.ifCond .eq 9, 3) := by decide +kernel
theorem dX13_simple_227 : decode cX13_simple 227 = .ok (.aload_n 0, 1) := by decide +kernel
theorem dX13_simple_228 : decode cX13_simple 228 = .ok (.iload 5, 2) := by decide +kernel
theorem dX13_simple_230 : decode cX13_simple 230 = .ok (.invokevirtual 357, 3) := by decide +kernel
theorem dX13_simple_233 : decode cX13_simple 233 = .ok (.aload_n 0, 1) := by decide +kernel
theorem dX13_simple_234 : decode cX13_simple 234 = .ok (.iload 4, 2) := by decide +kernel
theorem dX13_simple_236 : decode cX13_simple 236 = .ok (.invokevirtual 357, 3) := by decide +kernel
theorem dX13_simple_239 : decode cX13_simple 239 = .ok (.iconst 0, 1) := by decide +kernel
theorem dX13_simple_240 : decode cX13_simple 240 = .ok (.istore 6, 2) := by decide +kernel
theorem dX13_simple_242 : decode cX13_simple 242 = .ok (.iload 6, 2) := by decide +kernel
theorem dX13_simple_244 : decode cX13_simple 244 = .ok (.aload_n 0, 1) := by decide +kernel
theorem dX13_simple_245 : decode cX13_simple 245 = .ok (.getfield 10, 3) := by decide +kernel
theorem dX13_simple_248 : decode cX13_simple 248 = .ok (.iconst 0, 1) := by decide +kernel
theorem dX13_simple_249 : decode cX13_simple 249 = .ok (.iaload, 1) := by decide +kernel
theorem dX13_simple_250 : decode cX13_simple 250 = .ok (.if_icmp .ge 36, 3) := by decide +kernel
theorem dX13_simple_253 : decode cX13_simple 253 = .ok (.aload_n 0, 1) := by decide +kernel
theorem dX13_simple_254 : decode cX13_simple 254 = .ok (.getfield 29, 3) := by decide +kernel
theorem dX13_simple_257 : decode cX13_simple 257 = .ok (.iload 6, 2) := by decide +kernel
theorem dX13_simple_259 : decode cX13_simple 259 = .ok (.iaload, 1) := by decide +kernel
theorem dX13_simple_260 : decode cX13_simple 260 = .ok (.iconst 2, 1) := by decide +kernel
theorem dX13_simple_261 : decode cX13_simple 261 = .ok (.if_icmp .ne 19, 3) := by decide +kernel
theorem dX13_simple_264 : decode cX13_simple 264 = .ok (.aload_n 0, 1) := by decide +kernel
theorem dX13_simple_265 : decode cX13_simple 265 = .ok (.getfield 219, 3) := by decide +kernel
theorem dX13_simple_268 : decode cX13_simple 268 = .ok (.iload 6, 2) := by decide +kernel
theorem dX13_simple_270 : decode cX13_simple 270 = .ok (.baload, 1) := by decide +kernel
theorem dX13_simple_271 : decode cX13_simple 271 = .ok (.ifCond .eq 9, 3) := by decide +kernel
theorem dX13_simple_274 : decode cX13_simple 274 = .ok (.aload_n 0, 1) := by decide +kernel
theorem dX13_simple_275 : decode cX13_simple 275 = .ok (.iload 6, 2) := by decide +kernel
theorem dX13_simple_277 : decode cX13_simple 277 = .ok (.invokevirtual 357, 3) := by decide +kernel
theorem dX13_simple_280 : decode cX13_simple 280 = .ok (.iinc 6 1, 3) := by decide +kernel
theorem dX13_simple_283 : decode cX13_simple 283 = .ok (.goto (-41), 3) := by decide +kernel
theorem dX13_simple_286 : decode cX13_simple 286 = .ok (.aload_n 0, 1) := by decide +kernel
theorem dX13_simple_287 : decode cX13_simple 287 = .ok (.iconst 1, 1) := by decide +kernel
theorem dX13_simple_288 : decode cX13_simple 288 = .ok (.putfield 344, 3) := by decide +kernel
theorem dX13_simple_291 : decode cX13_simple 291 = .ok (.return_, 1) := by decide +kernel
theorem dX13_keep_0 : decode cX13_keep 0 = .ok (.iconst 0, 1) := by decide +kernel
theorem dX13_keep_1 : decode cX13_keep 1 = .ok (.istore 5, 2) := by decide +kernel
theorem dX13_keep_3 : decode cX13_keep 3 = .ok (.iload 5, 2) := by decide +kernel
theorem dX13_keep_5 : decode cX13_keep 5 = .ok (.aload_n 0, 1) := by decide +kernel
theorem dX13_keep_6 : decode cX13_keep 6 = .ok (.getfield 344, 3) := by decide +kernel
theorem dX13_keep_9 : decode cX13_keep 9 = .ok (.if_icmp .ge 122, 3) := by decide +kernel
theorem dX13_keep_12 : decode cX13_keep 12 = .ok (.aload_n 2, 1) := by decide +kernel
theorem dX13_keep_13 : decode cX13_keep 13 = .ok (.iload 5, 2) := by decide +kernel
theorem dX13_keep_15 : decode cX13_keep 15 = .ok (.aload_n 0, 1) := by decide +kernel
theorem dX13_keep_16 : decode cX13_keep 16 = .ok (.getfield 235, 3) := by decide +kernel
theorem dX13_keep_19 : decode cX13_keep 19 = .ok (.iload 5, 2) := by decide +kernel
theorem dX13_keep_21 : decode cX13_keep 21 = .ok (.iaload, 1) := by decide +kernel
theorem dX13_keep_22 : decode cX13_keep 22 = .ok (.iastore, 1) := by decide +kernel
theorem dX13_keep_23 : decode cX13_keep 23 = .ok (.aload 4, 2) := by decide +kernel
theorem dX13_keep_25 : decode cX13_keep 25 = .ok (.iload 5, 2) := by decide +kernel
theorem dX13_keep_27 : decode cX13_keep 27 = .ok (.aload_n 0, 1) := by decide +kernel
theorem dX13_keep_28 : decode cX13_keep 28 = .ok (.getfield 241, 3) := by decide +kernel
theorem dX13_keep_31 : decode cX13_keep 31 = .ok (.iload 5, 2) := by decide +kernel
theorem dX13_keep_33 : decode cX13_keep 33 = .ok (.iaload, 1) := by decide +kernel
theorem dX13_keep_34 : decode cX13_keep 34 = .ok (.iastore, 1) := by decide +kernel
theorem dX13_keep_35 : decode cX13_keep 35 = .ok (.iconst 0, 1) := by decide +kernel
theorem dX13_keep_36 : decode cX13_keep 36 = .ok (.istore 6, 2) := by decide +kernel
theorem dX13_keep_38 : decode cX13_keep 38 = .ok (.iload 6, 2) := by decide +kernel
theorem dX13_keep_40 : decode cX13_keep 40 = .ok (.aload_n 0, 1) := by decide +kernel
theorem dX13_keep_41 : decode cX13_keep 41 = .ok (.getfield 235, 3) := by decide +kernel
theorem dX13_keep_44 : decode cX13_keep 44 = .ok (.iload 5, 2) := by decide +kernel
theorem dX13_keep_46 : decode cX13_keep 46 = .ok (.iaload, 1) := by decide +kernel
theorem dX13_keep_47 : decode cX13_keep 47 = .ok (.if_icmp .ge 32, 3) := by decide +kernel
theorem dX13_keep_50 : decode cX13_keep 50 = .ok (.aload_n 1, 1) := by decide +kernel
theorem dX13_keep_51 : decode cX13_keep 51 = .ok (.bipush 61, 2) := by decide +kernel
theorem dX13_keep_53 : decode cX13_keep 53 = .ok (.iload 5, 2) := by decide +kernel
theorem dX13_keep_55 : decode cX13_keep 55 = .ok (.imul, 1) := by decide +kernel
theorem dX13_keep_56 : decode cX13_keep 56 = .ok (.iload 6, 2) := by decide +kernel
theorem dX13_keep_58 : decode cX13_keep 58 = .ok (.iadd, 1) := by decide +kernel
theorem dX13_keep_59 : decode cX13_keep 59 = .ok (.aload_n 0, 1) := by decide +kernel
theorem dX13_keep_60 : decode cX13_keep 60 = .ok (.getfield 226, 3) := by decide +kernel
theorem dX13_keep_63 : decode cX13_keep 63 = .ok (.bipush 61, 2) := by decide +kernel
theorem dX13_keep_65 : decode cX13_keep 65 = .ok (.iload 5, 2) := by decide +kernel
theorem dX13_keep_67 : decode cX13_keep 67 = .ok (.imul, 1) := by decide +kernel
theorem dX13_keep_68 : decode cX13_keep 68 = .ok (.iload 6, 2) := by decide +kernel
theorem dX13_keep_70 : decode cX13_keep 70 = .ok (.iadd, 1) := by decide +kernel
theorem dX13_keep_71 : decode cX13_keep 71 = .ok (.baload, 1) := by decide +kernel
theorem dX13_keep_72 : decode cX13_keep 72 = .ok (.bastore, 1) := by decide +kernel
theorem dX13_keep_73 : decode cX13_keep 73 = .ok (.iinc 6 1, 3) := by decide +kernel
theorem dX13_keep_76 : decode cX13_keep 76 = .ok (.goto (-38), 3) := by decide +kernel
theorem dX13_keep_79 : decode cX13_keep 79 = .ok (.iconst 0, 1) := by decide +kernel
theorem dX13_keep_80 : decode cX13_keep 80 = .ok (.istore 6, 2) := by decide +kernel
theorem dX13_keep_82 : decode cX13_keep 82 = .ok (.iload 6, 2) := by decide +kernel
theorem dX13_keep_84 : decode cX13_keep 84 = .ok (.aload_n 0, 1) := by decide +kernel
theorem dX13_keep_85 : decode cX13_keep 85 = .ok (.getfield 241, 3) := by decide +kernel
theorem dX13_keep_88 : decode cX13_keep 88 = .ok (.iload 5, 2) := by decide +kernel
theorem dX13_keep_90 : decode cX13_keep 90 = .ok (.iaload, 1) := by decide +kernel
theorem dX13_keep_91 : decode cX13_keep 91 = .ok (.if_icmp .ge 34, 3) := by decide +kernel
theorem dX13_keep_94 : decode cX13_keep 94 = .ok (.aload_n 3, 1) := by decide +kernel
theorem dX13_keep_95 : decode cX13_keep 95 = .ok (.sipush 140, 3) := by decide +kernel
theorem dX13_keep_98 : decode cX13_keep 98 = .ok (.iload 5, 2) := by decide +kernel
theorem dX13_keep_100 : decode cX13_keep 100 = .ok (.imul, 1) := by decide +kernel
theorem dX13_keep_101 : decode cX13_keep 101 = .ok (.iload 6, 2) := by decide +kernel
theorem dX13_keep_103 : decode cX13_keep 103 = .ok (.iadd, 1) := by decide +kernel
theorem dX13_keep_104 : decode cX13_keep 104 = .ok (.aload_n 0, 1) := by decide +kernel
theorem dX13_keep_105 : decode cX13_keep 105 = .ok (.getfield 238, 3) := by decide +kernel
theorem dX13_keep_108 : decode cX13_keep 108 = .ok (.sipush 140, 3) := by decide +kernel
theorem dX13_keep_111 : decode cX13_keep 111 = .ok (.iload 5, 2) := by decide +kernel
theorem dX13_keep_113 : decode cX13_keep 113 = .ok (.imul, 1) := by decide +kernel
theorem dX13_keep_114 : decode cX13_keep 114 = .ok (.iload 6, 2) := by decide +kernel
theorem dX13_keep_116 : decode cX13_keep 116 = .ok (.iadd, 1) := by decide +kernel
theorem dX13_keep_117 : decode cX13_keep 117 = .ok (.iaload, 1) := by decide +kernel
theorem dX13_keep_118 : decode cX13_keep 118 = .ok (.iastore, 1) := by decide +kernel
theorem dX13_keep_119 : decode cX13_keep 119 = .ok (.iinc 6 1, 3) := by decide +kernel
theorem dX13_keep_122 : decode cX13_keep 122 = .ok (.goto (-40), 3) := by decide +kernel
theorem dX13_keep_125 : decode cX13_keep 125 = .ok (.iinc 5 1, 3) := by decide +kernel
theorem dX13_keep_128 : decode cX13_keep 128 = .ok (.goto (-125), 3) := by decide +kernel
theorem dX13_keep_131 : decode cX13_keep 131 = .ok (.aload_n 0, 1) := by decide +kernel
theorem dX13_keep_132 : decode cX13_keep 132 = .ok (.getfield 344, 3) := by decide +kernel
theorem dX13_keep_135 : decode cX13_keep 135 = .ok (.ireturn, 1) := by decide +kernel
theorem dX13_compoundOf_0 : decode cX13_compoundOf 0 = .ok (.aload_n 0, 1) := by decide +kernel
theorem dX13_compoundOf_1 : decode cX13_compoundOf 1 = .ok (.iconst 5, 1) := by decide +kernel
theorem dX13_compoundOf_2 : decode cX13_compoundOf 2 = .ok (.iload_n 1, 1) := by decide +kernel
theorem dX13_compoundOf_3 : decode cX13_compoundOf 3 = .ok (.iload_n 2, 1) := by decide +kernel
theorem dX13_compoundOf_4 : decode cX13_compoundOf 4 = .ok (.iload_n 3, 1) := by decide +kernel
theorem dX13_compoundOf_5 : decode cX13_compoundOf 5 = .ok (.invokevirtual 347, 3) := by decide +kernel
theorem dX13_compoundOf_8 : decode cX13_compoundOf 8 = .ok (.iconst (-1), 1) := by decide +kernel
theorem dX13_compoundOf_9 : decode cX13_compoundOf 9 = .ok (.if_icmp .ne 15, 3) := by decide +kernel
theorem dX13_compoundOf_12 : decode cX13_compoundOf 12 = .ok (.aload_n 0, 1) := by decide +kernel
theorem dX13_compoundOf_13 : decode cX13_compoundOf 13 = .ok (.iconst 4, 1) := by decide +kernel
theorem dX13_compoundOf_14 : decode cX13_compoundOf 14 = .ok (.iload_n 1, 1) := by decide +kernel
theorem dX13_compoundOf_15 : decode cX13_compoundOf 15 = .ok (.iload_n 2, 1) := by decide +kernel
theorem dX13_compoundOf_16 : decode cX13_compoundOf 16 = .ok (.iload_n 3, 1) := by decide +kernel
theorem dX13_compoundOf_17 : decode cX13_compoundOf 17 = .ok (.invokevirtual 347, 3) := by decide +kernel
theorem dX13_compoundOf_20 : decode cX13_compoundOf 20 = .ok (.iconst (-1), 1) := by decide +kernel
theorem dX13_compoundOf_21 : decode cX13_compoundOf 21 = .ok (.if_icmp .eq 7, 3) := by decide +kernel
theorem dX13_compoundOf_24 : decode cX13_compoundOf 24 = .ok (.iconst (-1), 1) := by decide +kernel
theorem dX13_compoundOf_25 : decode cX13_compoundOf 25 = .ok (.goto 11, 3) := by decide +kernel
theorem dX13_compoundOf_28 : decode cX13_compoundOf 28 = .ok (.aload_n 0, 1) := by decide +kernel
theorem dX13_compoundOf_29 : decode cX13_compoundOf 29 = .ok (.iconst 3, 1) := by decide +kernel
theorem dX13_compoundOf_30 : decode cX13_compoundOf 30 = .ok (.iload_n 1, 1) := by decide +kernel
theorem dX13_compoundOf_31 : decode cX13_compoundOf 31 = .ok (.iload_n 2, 1) := by decide +kernel
theorem dX13_compoundOf_32 : decode cX13_compoundOf 32 = .ok (.iload_n 3, 1) := by decide +kernel
theorem dX13_compoundOf_33 : decode cX13_compoundOf 33 = .ok (.invokevirtual 347, 3) := by decide +kernel
theorem dX13_compoundOf_36 : decode cX13_compoundOf 36 = .ok (.ireturn, 1) := by decide +kernel
theorem dX13_all_0 : decode cX13_all 0 = .ok (.aload_n 0, 1) := by decide +kernel
theorem dX13_all_1 : decode cX13_all 1 = .ok (.iload_n 1, 1) := by decide +kernel
theorem dX13_all_2 : decode cX13_all 2 = .ok (.iload_n 2, 1) := by decide +kernel
theorem dX13_all_3 : decode cX13_all 3 = .ok (.iload_n 3, 1) := by decide +kernel
theorem dX13_all_4 : decode cX13_all 4 = .ok (.invokevirtual 364, 3) := by decide +kernel
theorem dX13_all_7 : decode cX13_all 7 = .ok (.istore 4, 2) := by decide +kernel
theorem dX13_all_9 : decode cX13_all 9 = .ok (.iload 4, 2) := by decide +kernel
theorem dX13_all_11 : decode cX13_all 11 = .ok (.iconst (-1), 1) := by decide +kernel
theorem dX13_all_12 : decode cX13_all 12 = .ok (.if_icmp .ne 11, 3) := by decide +kernel
theorem dX13_all_15 : decode cX13_all 15 = .ok (.aload_n 0, 1) := by decide +kernel
theorem dX13_all_16 : decode cX13_all 16 = .ok (.iload_n 1, 1) := by decide +kernel
theorem dX13_all_17 : decode cX13_all 17 = .ok (.iload_n 2, 1) := by decide +kernel
theorem dX13_all_18 : decode cX13_all 18 = .ok (.iload_n 3, 1) := by decide +kernel
theorem dX13_all_19 : decode cX13_all 19 = .ok (.invokevirtual 368, 3) := by decide +kernel
theorem dX13_all_22 : decode cX13_all 22 = .ok (.return_, 1) := by decide +kernel
theorem dX13_all_23 : decode cX13_all 23 = .ok (.aload_n 0, 1) := by decide +kernel
theorem dX13_all_24 : decode cX13_all 24 = .ok (.aload_n 0, 1) := by decide +kernel
theorem dX13_all_25 : decode cX13_all 25 = .ok (.getfield 47, 3) := by decide +kernel
theorem dX13_all_28 : decode cX13_all 28 = .ok (.iload 4, 2) := by decide +kernel
theorem dX13_all_30 : decode cX13_all 30 = .ok (.iaload, 1) := by decide +kernel
theorem dX13_all_31 : decode cX13_all 31 = .ok (.aload_n 0, 1) := by decide +kernel
theorem dX13_all_32 : decode cX13_all 32 = .ok (.getfield 50, 3) := by decide +kernel
theorem dX13_all_35 : decode cX13_all 35 = .ok (.iload 4, 2) := by decide +kernel
theorem dX13_all_37 : decode cX13_all 37 = .ok (.iaload, 1) := by decide +kernel
theorem dX13_all_38 : decode cX13_all 38 = .ok (.iload_n 3, 1) := by decide +kernel
theorem dX13_all_39 : decode cX13_all 39 = .ok (.invokevirtual 368, 3) := by decide +kernel
theorem dX13_all_42 : decode cX13_all 42 = .ok (.aload_n 0, 1) := by decide +kernel
theorem dX13_all_43 : decode cX13_all 43 = .ok (.aload_n 0, 1) := by decide +kernel
theorem dX13_all_44 : decode cX13_all 44 = .ok (.getfield 229, 3) := by decide +kernel
theorem dX13_all_47 : decode cX13_all 47 = .ok (.aload_n 0, 1) := by decide +kernel
theorem dX13_all_48 : decode cX13_all 48 = .ok (.getfield 244, 3) := by decide +kernel
theorem dX13_all_51 : decode cX13_all 51 = .ok (.aload_n 0, 1) := by decide +kernel
theorem dX13_all_52 : decode cX13_all 52 = .ok (.getfield 250, 3) := by decide +kernel
theorem dX13_all_55 : decode cX13_all 55 = .ok (.aload_n 0, 1) := by decide +kernel
theorem dX13_all_56 : decode cX13_all 56 = .ok (.getfield 256, 3) := by decide +kernel
theorem dX13_all_59 : decode cX13_all 59 = .ok (.invokevirtual 372, 3) := by decide +kernel
theorem dX13_all_62 : decode cX13_all 62 = .ok (.istore 5, 2) := by decide +kernel
theorem dX13_all_64 : decode cX13_all 64 = .ok (.aload_n 0, 1) := by decide +kernel
theorem dX13_all_65 : decode cX13_all 65 = .ok (.iload_n 1, 1) := by decide +kernel
theorem dX13_all_66 : decode cX13_all 66 = .ok (.aload_n 0, 1) := by decide +kernel
theorem dX13_all_67 : decode cX13_all 67 = .ok (.getfield 53, 3) := by decide +kernel
theorem dX13_all_70 : decode cX13_all 70 = .ok (.iload 4, 2) := by decide +kernel
theorem dX13_all_72 : decode cX13_all 72 = .ok (.iaload, 1) := by decide +kernel
theorem dX13_all_73 : decode cX13_all 73 = .ok (.iconst 0, 1) := by decide +kernel
theorem dX13_all_74 : decode cX13_all 74 = .ok (.invokevirtual 368, 3) := by decide +kernel
theorem dX13_all_77 : decode cX13_all 77 = .ok (.aload_n 0, 1) := by decide +kernel
theorem dX13_all_78 : decode cX13_all 78 = .ok (.aload_n 0, 1) := by decide +kernel
theorem dX13_all_79 : decode cX13_all 79 = .ok (.getfield 232, 3) := by decide +kernel
theorem dX13_all_82 : decode cX13_all 82 = .ok (.aload_n 0, 1) := by decide +kernel
theorem dX13_all_83 : decode cX13_all 83 = .ok (.getfield 247, 3) := by decide +kernel
theorem dX13_all_86 : decode cX13_all 86 = .ok (.aload_n 0, 1) := by decide +kernel
theorem dX13_all_87 : decode cX13_all 87 = .ok (.getfield 253, 3) := by decide +kernel
theorem dX13_all_90 : decode cX13_all 90 = .ok (.aload_n 0, 1) := by decide +kernel
theorem dX13_all_91 : decode cX13_all 91 = .ok (.getfield 259, 3) := by decide +kernel
theorem dX13_all_94 : decode cX13_all 94 = .ok (.invokevirtual 372, 3) := by decide +kernel
theorem dX13_all_97 : decode cX13_all 97 = .ok (.istore 6, 2) := by decide +kernel
theorem dX13_all_99 : decode cX13_all 99 = .ok (.aload_n 0, 1) := by decide +kernel
theorem dX13_all_100 : decode cX13_all 100 = .ok (.iconst 0, 1) := by decide +kernel
theorem dX13_all_101 : decode cX13_all 101 = .ok (.putfield 344, 3) := by decide +kernel
theorem dX13_all_104 : decode cX13_all 104 = .ok (.iconst 0, 1) := by decide +kernel
theorem dX13_all_105 : decode cX13_all 105 = .ok (.istore 7, 2) := by decide +kernel
theorem dX13_all_107 : decode cX13_all 107 = .ok (.iload 7, 2) := by decide +kernel
theorem dX13_all_109 : decode cX13_all 109 = .ok (.iload 5, 2) := by decide +kernel
theorem dX13_all_111 : decode cX13_all 111 = .ok (.if_icmp .ge 205, 3) := by decide +kernel
theorem dX13_all_114 : decode cX13_all 114 = .ok (.iconst 0, 1) := by decide +kernel
theorem dX13_all_115 : decode cX13_all 115 = .ok (.istore 8, 2) := by decide +kernel
theorem dX13_all_117 : decode cX13_all 117 = .ok (.iload 8, 2) := by decide +kernel
theorem dX13_all_119 : decode cX13_all 119 = .ok (.iload 6, 2) := by decide +kernel
theorem dX13_all_121 : decode cX13_all 121 = .ok (.if_icmp .ge 189, 3) := by decide +kernel
theorem dX13_all_124 : decode cX13_all 124 = .ok (.aload_n 0, 1) := by decide +kernel
theorem dX13_all_125 : decode cX13_all 125 = .ok (.invokevirtual 351, 3) := by decide +kernel
theorem dX13_all_128 : decode cX13_all 128 = .ok (.iconst 0, 1) := by decide +kernel
theorem dX13_all_129 : decode cX13_all 129 = .ok (.istore 9, 2) := by decide +kernel
theorem dX13_all_131 : decode cX13_all 131 = .ok (.iload 9, 2) := by decide +kernel
theorem dX13_all_133 : decode cX13_all 133 = .ok (.aload_n 0, 1) := by decide +kernel
theorem dX13_all_134 : decode cX13_all 134 = .ok (.getfield 244, 3) := by decide +kernel
theorem dX13_all_137 : decode cX13_all 137 = .ok (.iload 7, 2) := by decide +kernel
theorem dX13_all_139 : decode cX13_all 139 = .ok (.iaload, 1) := by decide +kernel
theorem dX13_all_140 : decode cX13_all 140 = .ok (.if_icmp .ge 26, 3) := by decide +kernel
theorem dX13_all_143 : decode cX13_all 143 = .ok (.aload_n 0, 1) := by decide +kernel
theorem dX13_all_144 : decode cX13_all 144 = .ok (.aload_n 0, 1) := by decide +kernel
theorem dX13_all_145 : decode cX13_all 145 = .ok (.getfield 229, 3) := by decide +kernel
theorem dX13_all_148 : decode cX13_all 148 = .ok (.bipush 61, 2) := by decide +kernel
theorem dX13_all_150 : decode cX13_all 150 = .ok (.iload 7, 2) := by decide +kernel
theorem dX13_all_152 : decode cX13_all 152 = .ok (.imul, 1) := by decide +kernel
theorem dX13_all_153 : decode cX13_all 153 = .ok (.iload 9, 2) := by decide +kernel
theorem dX13_all_155 : decode cX13_all 155 = .ok (.iadd, 1) := by decide +kernel
theorem dX13_all_156 : decode cX13_all 156 = .ok (.baload, 1) := by decide +kernel
theorem dX13_all_157 : decode cX13_all 157 = .ok (.invokevirtual 354, 3) := by decide +kernel
theorem dX13_all_160 : decode cX13_all 160 = .ok (.iinc 9 1, 3) := by decide +kernel
theorem dX13_all_163 : decode cX13_all 163 = .ok (.goto (-32), 3) := by decide +kernel
theorem dX13_all_166 : decode cX13_all 166 = .ok (.aload_n 0, 1) := by decide +kernel
theorem dX13_all_167 : decode cX13_all 167 = .ok (.bipush 32, 2) := by decide +kernel
theorem dX13_all_169 : decode cX13_all 169 = .ok (.invokevirtual 354, 3) := by decide +kernel
theorem dX13_all_172 : decode cX13_all 172 = .ok (.iconst 0, 1) := by decide +kernel
theorem dX13_all_173 : decode cX13_all 173 = .ok (.istore 9, 2) := by decide +kernel
theorem dX13_all_175 : decode cX13_all 175 = .ok (.iload 9, 2) := by decide +kernel
theorem dX13_all_177 : decode cX13_all 177 = .ok (.aload_n 0, 1) := by decide +kernel
theorem dX13_all_178 : decode cX13_all 178 = .ok (.getfield 247, 3) := by decide +kernel
theorem dX13_all_181 : decode cX13_all 181 = .ok (.iload 8, 2) := by decide +kernel
theorem dX13_all_183 : decode cX13_all 183 = .ok (.iaload, 1) := by decide +kernel
theorem dX13_all_184 : decode cX13_all 184 = .ok (.if_icmp .ge 26, 3) := by decide +kernel
theorem dX13_all_187 : decode cX13_all 187 = .ok (.aload_n 0, 1) := by decide +kernel
theorem dX13_all_188 : decode cX13_all 188 = .ok (.aload_n 0, 1) := by decide +kernel
theorem dX13_all_189 : decode cX13_all 189 = .ok (.getfield 232, 3) := by decide +kernel
theorem dX13_all_192 : decode cX13_all 192 = .ok (.bipush 61, 2) := by decide +kernel
theorem dX13_all_194 : decode cX13_all 194 = .ok (.iload 8, 2) := by decide +kernel
theorem dX13_all_196 : decode cX13_all 196 = .ok (.imul, 1) := by decide +kernel
theorem dX13_all_197 : decode cX13_all 197 = .ok (.iload 9, 2) := by decide +kernel
theorem dX13_all_199 : decode cX13_all 199 = .ok (.iadd, 1) := by decide +kernel
theorem dX13_all_200 : decode cX13_all 200 = .ok (.baload, 1) := by decide +kernel
theorem dX13_all_201 : decode cX13_all 201 = .ok (.invokevirtual 354, 3) := by decide +kernel
theorem dX13_all_204 : decode cX13_all 204 = .ok (.iinc 9 1, 3) := by decide +kernel
theorem dX13_all_207 : decode cX13_all 207 = .ok (.goto (-32), 3) := by decide +kernel
theorem dX13_all_210 : decode cX13_all 210 = .ok (.aload_n 0, 1) := by decide +kernel
theorem dX13_all_211 : decode cX13_all 211 = .ok (.iload 4, 2) := by decide +kernel
theorem dX13_all_213 : decode cX13_all 213 = .ok (.invokevirtual 357, 3) := by decide +kernel
theorem dX13_all_216 : decode cX13_all 216 = .ok (.iconst 0, 1) := by decide +kernel
theorem dX13_all_217 : decode cX13_all 217 = .ok (.istore 9, 2) := by decide +kernel
theorem dX13_all_219 : decode cX13_all 219 = .ok (.iload 9, 2) := by decide +kernel
theorem dX13_all_221 : decode cX13_all 221 = .ok (.aload_n 0, 1) := by decide +kernel
theorem dX13_all_222 : decode cX13_all 222 = .ok (.getfield 256, 3) := by decide +kernel
theorem dX13_all_225 : decode cX13_all 225 = .ok (.iload 7, 2) := by decide +kernel
theorem dX13_all_227 : decode cX13_all 227 = .ok (.iaload, 1) := by decide +kernel
theorem dX13_all_228 : decode cX13_all 228 = .ok (.if_icmp .ge 27, 3) := by decide +kernel
theorem dX13_all_231 : decode cX13_all 231 = .ok (.aload_n 0, 1) := by decide +kernel
theorem dX13_all_232 : decode cX13_all 232 = .ok (.aload_n 0, 1) := by decide +kernel
theorem dX13_all_233 : decode cX13_all 233 = .ok (.getfield 250, 3) := by decide +kernel
theorem dX13_all_236 : decode cX13_all 236 = .ok (.sipush 140, 3) := by decide +kernel
theorem dX13_all_239 : decode cX13_all 239 = .ok (.iload 7, 2) := by decide +kernel
theorem dX13_all_241 : decode cX13_all 241 = .ok (.imul, 1) := by decide +kernel
theorem dX13_all_242 : decode cX13_all 242 = .ok (.iload 9, 2) := by decide +kernel
theorem dX13_all_244 : decode cX13_all 244 = .ok (.iadd, 1) := by decide +kernel
theorem dX13_all_245 : decode cX13_all 245 = .ok (.iaload, 1) := by decide +kernel
theorem dX13_all_246 : decode cX13_all 246 = .ok (.invokevirtual 357, 3) := by decide +kernel
theorem dX13_all_249 : decode cX13_all 249 = .ok (.iinc 9 1, 3) := by decide +kernel
theorem dX13_all_252 : decode cX13_all 252 = .ok (.goto (-33), 3) := by decide +kernel
theorem dX13_all_255 : decode cX13_all 255 = .ok (.iconst 0, 1) := by decide +kernel
theorem dX13_all_256 : decode cX13_all 256 = .ok (.istore 9, 2) := by decide +kernel
theorem dX13_all_258 : decode cX13_all 258 = .ok (.iload 9, 2) := by decide +kernel
theorem dX13_all_260 : decode cX13_all 260 = .ok (.aload_n 0, 1) := by decide +kernel
theorem dX13_all_261 : decode cX13_all 261 = .ok (.getfield 259, 3) := by decide +kernel
theorem dX13_all_264 : decode cX13_all 264 = .ok (.iload 8, 2) := by decide +kernel
theorem dX13_all_266 : decode cX13_all 266 = .ok (.iaload, 1) := by decide +kernel
theorem dX13_all_267 : decode cX13_all 267 = .ok (.if_icmp .ge 27, 3) := by decide +kernel
theorem dX13_all_270 : decode cX13_all 270 = .ok (.aload_n 0, 1) := by decide +kernel
theorem dX13_all_271 : decode cX13_all 271 = .ok (.aload_n 0, 1) := by decide +kernel
theorem dX13_all_272 : decode cX13_all 272 = .ok (.getfield 253, 3) := by decide +kernel
theorem dX13_all_275 : decode cX13_all 275 = .ok (.sipush 140, 3) := by decide +kernel
theorem dX13_all_278 : decode cX13_all 278 = .ok (.iload 8, 2) := by decide +kernel
theorem dX13_all_280 : decode cX13_all 280 = .ok (.imul, 1) := by decide +kernel
theorem dX13_all_281 : decode cX13_all 281 = .ok (.iload 9, 2) := by decide +kernel
theorem dX13_all_283 : decode cX13_all 283 = .ok (.iadd, 1) := by decide +kernel
theorem dX13_all_284 : decode cX13_all 284 = .ok (.iaload, 1) := by decide +kernel
theorem dX13_all_285 : decode cX13_all 285 = .ok (.invokevirtual 357, 3) := by decide +kernel
theorem dX13_all_288 : decode cX13_all 288 = .ok (.iinc 9 1, 3) := by decide +kernel
theorem dX13_all_291 : decode cX13_all 291 = .ok (.goto (-33), 3) := by decide +kernel
theorem dX13_all_294 : decode cX13_all 294 = .ok (.aload_n 0, 1) := by decide +kernel
theorem dX13_all_295 : decode cX13_all 295 = .ok (.dup, 1) := by decide +kernel
theorem dX13_all_296 : decode cX13_all 296 = .ok (.getfield 344, 3) := by decide +kernel
theorem dX13_all_299 : decode cX13_all 299 = .ok (.iconst 1, 1) := by decide +kernel
theorem dX13_all_300 : decode cX13_all 300 = .ok (.iadd, 1) := by decide +kernel
theorem dX13_all_301 : decode cX13_all 301 = .ok (.putfield 344, 3) := by decide +kernel
theorem dX13_all_304 : decode cX13_all 304 = .ok (.iinc 8 1, 3) := by decide +kernel
theorem dX13_all_307 : decode cX13_all 307 = .ok (.goto (-190), 3) := by decide +kernel
theorem dX13_all_310 : decode cX13_all 310 = .ok (.iinc 7 1, 3) := by decide +kernel
theorem dX13_all_313 : decode cX13_all 313 = .ok (.goto (-206), 3) := by decide +kernel
theorem dX13_all_316 : decode cX13_all 316 = .ok (.return_, 1) := by decide +kernel
theorem dX13_formAsked_0 : decode cX13_formAsked 0 = .ok (.iconst 0, 1) := by decide +kernel
theorem dX13_formAsked_1 : decode cX13_formAsked 1 = .ok (.istore_n 1, 1) := by decide +kernel
theorem dX13_formAsked_2 : decode cX13_formAsked 2 = .ok (.iload_n 1, 1) := by decide +kernel
theorem dX13_formAsked_3 : decode cX13_formAsked 3 = .ok (.aload_n 0, 1) := by decide +kernel
theorem dX13_formAsked_4 : decode cX13_formAsked 4 = .ok (.getfield 344, 3) := by decide +kernel
theorem dX13_formAsked_7 : decode cX13_formAsked 7 = .ok (.if_icmp .ge 80, 3) := by decide +kernel
theorem dX13_formAsked_10 : decode cX13_formAsked 10 = .ok (.aload_n 0, 1) := by decide +kernel
theorem dX13_formAsked_11 : decode cX13_formAsked 11 = .ok (.getfield 235, 3) := by decide +kernel
theorem dX13_formAsked_14 : decode cX13_formAsked 14 = .ok (.iload_n 1, 1) := by decide +kernel
theorem dX13_formAsked_15 : decode cX13_formAsked 15 = .ok (.iaload, 1) := by decide +kernel
theorem dX13_formAsked_16 : decode cX13_formAsked 16 = .ok (.aload_n 0, 1) := by decide +kernel
theorem dX13_formAsked_17 : decode cX13_formAsked 17 = .ok (.getfield 389, 3) := by decide +kernel
theorem dX13_formAsked_20 : decode cX13_formAsked 20 = .ok (.if_icmp .ne 7, 3) := by decide +kernel
theorem dX13_formAsked_23 : decode cX13_formAsked 23 = .ok (.iconst 1, 1) := by decide +kernel
theorem dX13_formAsked_24 : decode cX13_formAsked 24 = .ok (.goto 4, 3) := by decide +kernel
theorem dX13_formAsked_27 : decode cX13_formAsked 27 = .ok (.iconst 0, 1) := by decide +kernel
theorem dX13_formAsked_28 : decode cX13_formAsked 28 = .ok (.istore_n 2, 1) := by decide +kernel
theorem dX13_formAsked_29 : decode cX13_formAsked 29 = .ok (.iconst 0, 1) := by decide +kernel
theorem dX13_formAsked_30 : decode cX13_formAsked 30 = .ok (.istore_n 3, 1) := by decide +kernel
theorem dX13_formAsked_31 : decode cX13_formAsked 31 = .ok (.iload_n 3, 1) := by decide +kernel
theorem dX13_formAsked_32 : decode cX13_formAsked 32 = .ok (.aload_n 0, 1) := by decide +kernel
theorem dX13_formAsked_33 : decode cX13_formAsked 33 = .ok (.getfield 389, 3) := by decide +kernel
theorem dX13_formAsked_36 : decode cX13_formAsked 36 = .ok (.if_icmp .ge 39, 3) := by decide +kernel
theorem dX13_formAsked_39 : decode cX13_formAsked 39 = .ok (.iload_n 2, 1) := by decide +kernel
theorem dX13_formAsked_40 : decode cX13_formAsked 40 = .ok (.ifCond .eq 35, 3) := by decide +kernel
theorem dX13_formAsked_43 : decode cX13_formAsked 43 = .ok (.aload_n 0, 1) := by decide +kernel
theorem dX13_formAsked_44 : decode cX13_formAsked 44 = .ok (.getfield 226, 3) := by decide +kernel
theorem dX13_formAsked_47 : decode cX13_formAsked 47 = .ok (.bipush 61, 2) := by decide +kernel
theorem dX13_formAsked_49 : decode cX13_formAsked 49 = .ok (.iload_n 1, 1) := by decide +kernel
theorem dX13_formAsked_50 : decode cX13_formAsked 50 = .ok (.imul, 1) := by decide +kernel
theorem dX13_formAsked_51 : decode cX13_formAsked 51 = .ok (.iload_n 3, 1) := by decide +kernel
theorem dX13_formAsked_52 : decode cX13_formAsked 52 = .ok (.iadd, 1) := by decide +kernel
theorem dX13_formAsked_53 : decode cX13_formAsked 53 = .ok (.baload, 1) := by decide +kernel
theorem dX13_formAsked_54 : decode cX13_formAsked 54 = .ok (.aload_n 0, 1) := by decide +kernel
theorem dX13_formAsked_55 : decode cX13_formAsked 55 = .ok (.getfield 262, 3) := by decide +kernel
theorem dX13_formAsked_58 : decode cX13_formAsked 58 = .ok (.iload_n 3, 1) := by decide +kernel
theorem dX13_formAsked_59 : decode cX13_formAsked 59 = .ok (.baload, 1) := by decide +kernel
theorem dX13_formAsked_60 : decode cX13_formAsked 60 = .ok (.if_icmp .ne 7, 3) := by decide +kernel
theorem dX13_formAsked_63 : decode cX13_formAsked 63 = .ok (.iconst 1, 1) := by decide +kernel
theorem dX13_formAsked_64 : decode cX13_formAsked 64 = .ok (.goto 4, 3) := by decide +kernel
theorem dX13_formAsked_67 : decode cX13_formAsked 67 = .ok (.iconst 0, 1) := by decide +kernel
theorem dX13_formAsked_68 : decode cX13_formAsked 68 = .ok (.istore_n 2, 1) := by decide +kernel
theorem dX13_formAsked_69 : decode cX13_formAsked 69 = .ok (.iinc 3 1, 3) := by decide +kernel
theorem dX13_formAsked_72 : decode cX13_formAsked 72 = .ok (.goto (-41), 3) := by decide +kernel
theorem dX13_formAsked_75 : decode cX13_formAsked 75 = .ok (.iload_n 2, 1) := by decide +kernel
theorem dX13_formAsked_76 : decode cX13_formAsked 76 = .ok (.ifCond .eq 5, 3) := by decide +kernel
theorem dX13_formAsked_79 : decode cX13_formAsked 79 = .ok (.iload_n 1, 1) := by decide +kernel
theorem dX13_formAsked_80 : decode cX13_formAsked 80 = .ok (.ireturn, 1) := by decide +kernel
theorem dX13_formAsked_81 : decode cX13_formAsked 81 = .ok (.iinc 1 1, 3) := by decide +kernel
theorem dX13_formAsked_84 : decode cX13_formAsked 84 = .ok (.goto (-82), 3) := by decide +kernel
theorem dX13_formAsked_87 : decode cX13_formAsked 87 = .ok (.iconst (-1), 1) := by decide +kernel
theorem dX13_formAsked_88 : decode cX13_formAsked 88 = .ok (.ireturn, 1) := by decide +kernel
theorem dX13_look_0 : decode cX13_look 0 = .ok (.aload_n 0, 1) := by decide +kernel
theorem dX13_look_1 : decode cX13_look 1 = .ok (.iload_n 1, 1) := by decide +kernel
theorem dX13_look_2 : decode cX13_look 2 = .ok (.iload_n 2, 1) := by decide +kernel
theorem dX13_look_3 : decode cX13_look 3 = .ok (.iload_n 3, 1) := by decide +kernel
theorem dX13_look_4 : decode cX13_look 4 = .ok (.invokevirtual 384, 3) := by decide +kernel
theorem dX13_look_7 : decode cX13_look 7 = .ok (.aload_n 0, 1) := by decide +kernel
theorem dX13_look_8 : decode cX13_look 8 = .ok (.invokevirtual 398, 3) := by decide +kernel
theorem dX13_look_11 : decode cX13_look 11 = .ok (.iconst (-1), 1) := by decide +kernel
theorem dX13_look_12 : decode cX13_look 12 = .ok (.if_icmp .ne 4, 3) := by decide +kernel
theorem dX13_look_15 : decode cX13_look 15 = .ok (.return_, 1) := by decide +kernel

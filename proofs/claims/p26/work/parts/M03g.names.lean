theorem dL_row_195 : decode cL_row 195 = .ok (.iload_n 2, 1) := by decide +kernel
theorem dL_row_196 : decode cL_row 196 = .ok (.iastore, 1) := by decide +kernel
theorem dL_row_197 : decode cL_row 197 = .ok (.aload 7, 2) := by decide +kernel
theorem dL_row_199 : decode cL_row 199 = .ok (.iload 8, 2) := by decide +kernel
theorem dL_row_201 : decode cL_row 201 = .ok (.iconst 1, 1) := by decide +kernel
theorem dL_row_202 : decode cL_row 202 = .ok (.iadd, 1) := by decide +kernel
theorem dL_row_203 : decode cL_row 203 = .ok (.iload 10, 2) := by decide +kernel
theorem dL_row_205 : decode cL_row 205 = .ok (.iastore, 1) := by decide +kernel
theorem dL_row_206 : decode cL_row 206 = .ok (.aload 7, 2) := by decide +kernel
theorem dL_row_208 : decode cL_row 208 = .ok (.iload 8, 2) := by decide +kernel
theorem dL_row_210 : decode cL_row 210 = .ok (.iconst 3, 1) := by decide +kernel
theorem dL_row_211 : decode cL_row 211 = .ok (.iadd, 1) := by decide +kernel
theorem dL_row_212 : decode cL_row 212 = .ok (.iload 11, 2) := by decide +kernel
theorem dL_row_214 : decode cL_row 214 = .ok (.ifCond .ne 7, 3) := by decide +kernel
theorem dL_row_217 : decode cL_row 217 = .ok (.iconst 0, 1) := by decide +kernel
theorem dL_row_218 : decode cL_row 218 = .ok (.goto 17, 3) := by decide +kernel
theorem dL_row_221 : decode cL_row 221 = .ok (.iload 12, 2) := by decide +kernel
theorem dL_row_223 : decode cL_row 223 = .ok (.iload 13, 2) := by decide +kernel
theorem dL_row_225 : decode cL_row 225 = .ok (.if_icmp .le 8, 3) := by decide +kernel
theorem dL_row_228 : decode cL_row 228 = .ok (.iload 13, 2) := by decide +kernel
theorem dL_row_230 : decode cL_row 230 = .ok (.goto 5, 3) := by decide +kernel
theorem dL_row_233 : decode cL_row 233 = .ok (.iload 12, 2) := by decide +kernel
theorem dL_row_235 : decode cL_row 235 = .ok (.iastore, 1) := by decide +kernel
theorem dL_row_236 : decode cL_row 236 = .ok (.aload 7, 2) := by decide +kernel
theorem dL_row_238 : decode cL_row 238 = .ok (.iload 8, 2) := by decide +kernel
theorem dL_row_240 : decode cL_row 240 = .ok (.iconst 2, 1) := by decide +kernel
theorem dL_row_241 : decode cL_row 241 = .ok (.iadd, 1) := by decide +kernel
theorem dL_row_242 : decode cL_row 242 = .ok (.iload 11, 2) := by decide +kernel
theorem dL_row_244 : decode cL_row 244 = .ok (.ifCond .eq 16, 3) := by decide +kernel
theorem dL_row_247 : decode cL_row 247 = .ok (.iload 12, 2) := by decide +kernel
theorem dL_row_249 : decode cL_row 249 = .ok (.aload 7, 2) := by decide +kernel
theorem dL_row_251 : decode cL_row 251 = .ok (.iload 8, 2) := by decide +kernel
theorem dL_row_253 : decode cL_row 253 = .ok (.iconst 3, 1) := by decide +kernel
theorem dL_row_254 : decode cL_row 254 = .ok (.iadd, 1) := by decide +kernel
theorem dL_row_255 : decode cL_row 255 = .ok (.iaload, 1) := by decide +kernel
theorem dL_row_256 : decode cL_row 256 = .ok (.isub, 1) := by decide +kernel
theorem dL_row_257 : decode cL_row 257 = .ok (.goto 4, 3) := by decide +kernel
theorem dL_row_260 : decode cL_row 260 = .ok (.iconst 0, 1) := by decide +kernel
theorem dL_row_261 : decode cL_row 261 = .ok (.iastore, 1) := by decide +kernel
theorem dL_row_262 : decode cL_row 262 = .ok (.aload 7, 2) := by decide +kernel
theorem dL_row_264 : decode cL_row 264 = .ok (.iload 8, 2) := by decide +kernel
theorem dL_row_266 : decode cL_row 266 = .ok (.iconst 4, 1) := by decide +kernel
theorem dL_row_267 : decode cL_row 267 = .ok (.iadd, 1) := by decide +kernel
theorem dL_row_268 : decode cL_row 268 = .ok (.iload 9, 2) := by decide +kernel
theorem dL_row_270 : decode cL_row 270 = .ok (.iastore, 1) := by decide +kernel
theorem dL_row_271 : decode cL_row 271 = .ok (.aload 7, 2) := by decide +kernel
theorem dL_row_273 : decode cL_row 273 = .ok (.iload 8, 2) := by decide +kernel
theorem dL_row_275 : decode cL_row 275 = .ok (.iconst 5, 1) := by decide +kernel
theorem dL_row_276 : decode cL_row 276 = .ok (.iadd, 1) := by decide +kernel
theorem dL_row_277 : decode cL_row 277 = .ok (.iload 11, 2) := by decide +kernel
theorem dL_row_279 : decode cL_row 279 = .ok (.ifCond .eq 7, 3) := by decide +kernel
theorem dL_row_282 : decode cL_row 282 = .ok (.iconst 0, 1) := by decide +kernel
theorem dL_row_283 : decode cL_row 283 = .ok (.goto 4, 3) := by decide +kernel
theorem dL_row_286 : decode cL_row 286 = .ok (.iconst 1, 1) := by decide +kernel
theorem dL_row_287 : decode cL_row 287 = .ok (.iastore, 1) := by decide +kernel
theorem dL_row_288 : decode cL_row 288 = .ok (.iload 10, 2) := by decide +kernel
theorem dL_row_290 : decode cL_row 290 = .ok (.ireturn, 1) := by decide +kernel
set_option maxRecDepth 20000 in
theorem ggL_lay_L_row : GoodIn wsL_lay wsL_row := goodIn_r _ [5, 6, 7, 4, 8, 9, 10, 11, 12, 13, 14, 15, 16, 17, 18, 19, 20] (by decide +kernel) (by decide +kernel)
set_option maxRecDepth 20000 in
theorem gL_lay_L_row : GoodIn wsL_lay (va_wsS RL 30 yL_row wsL_row) := goodIn_app (goodIn_of _ (by decide +kernel)) ggL_lay_L_row
set_option maxRecDepth 20000 in
theorem ggL_lay_L_closes : GoodIn wsL_lay wsL_closes := goodIn_r _ [8] (by decide +kernel) (by decide +kernel)
set_option maxRecDepth 20000 in
theorem gL_lay_L_closes : GoodIn wsL_lay (va_wsS RL 19 yL_closes wsL_closes) := goodIn_app (goodIn_of _ (by decide +kernel)) ggL_lay_L_closes
theorem dL_lay_0 : decode cL_lay 0 = .ok (.bipush 6, 2) := by decide +kernel
theorem dL_lay_2 : decode cL_lay 2 = .ok (.newarray .int, 2) := by decide +kernel
theorem dL_lay_4 : decode cL_lay 4 = .ok (.astore 6, 2) := by decide +kernel
theorem dL_lay_6 : decode cL_lay 6 = .ok (.iconst 0, 1) := by decide +kernel
theorem dL_lay_7 : decode cL_lay 7 = .ok (.istore 7, 2) := by decide +kernel
theorem dL_lay_9 : decode cL_lay 9 = .ok (.iconst 0, 1) := by decide +kernel
theorem dL_lay_10 : decode cL_lay 10 = .ok (.istore 8, 2) := by decide +kernel
theorem dL_lay_12 : decode cL_lay 12 = .ok (.iconst 0, 1) := by decide +kernel
theorem dL_lay_13 : decode cL_lay 13 = .ok (.istore 9, 2) := by decide +kernel
theorem dL_lay_15 : decode cL_lay 15 = .ok (.aload 5, 2) := by decide +kernel
theorem dL_lay_17 : decode cL_lay 17 = .ok (.iconst 0, 1) := by decide +kernel
theorem dL_lay_18 : decode cL_lay 18 = .ok (.iconst 0, 1) := by decide +kernel
theorem dL_lay_19 : decode cL_lay 19 = .ok (.iastore, 1) := by decide +kernel
theorem dL_lay_20 : decode cL_lay 20 = .ok (.aload 5, 2) := by decide +kernel
theorem dL_lay_22 : decode cL_lay 22 = .ok (.iconst 1, 1) := by decide +kernel
theorem dL_lay_23 : decode cL_lay 23 = .ok (.iconst 0, 1) := by decide +kernel
theorem dL_lay_24 : decode cL_lay 24 = .ok (.iastore, 1) := by decide +kernel
theorem dL_lay_25 : decode cL_lay 25 = .ok (.iload 7, 2) := by decide +kernel
theorem dL_lay_27 : decode cL_lay 27 = .ok (.aload_n 0, 1) := by decide +kernel
theorem dL_lay_28 : decode cL_lay 28 = .ok (.bipush 14, 2) := by decide +kernel
theorem dL_lay_30 : decode cL_lay 30 = .ok (.iaload, 1) := by decide +kernel
theorem dL_lay_31 : decode cL_lay 31 = .ok (.if_icmp .ge 252, 3) := by decide +kernel
theorem dL_lay_34 : decode cL_lay 34 = .ok (.bipush 6, 2) := by decide +kernel
theorem dL_lay_36 : decode cL_lay 36 = .ok (.aload 5, 2) := by decide +kernel
theorem dL_lay_38 : decode cL_lay 38 = .ok (.iconst 0, 1) := by decide +kernel
theorem dL_lay_39 : decode cL_lay 39 = .ok (.iaload, 1) := by decide +kernel
theorem dL_lay_40 : decode cL_lay 40 = .ok (.imul, 1) := by decide +kernel
theorem dL_lay_41 : decode cL_lay 41 = .ok (.istore 10, 2) := by decide +kernel
theorem dL_lay_43 : decode cL_lay 43 = .ok (.iload 7, 2) := by decide +kernel
theorem dL_lay_45 : decode cL_lay 45 = .ok (.aload_n 0, 1) := by decide +kernel
theorem dL_lay_46 : decode cL_lay 46 = .ok (.aload_n 1, 1) := by decide +kernel
theorem dL_lay_47 : decode cL_lay 47 = .ok (.iload 7, 2) := by decide +kernel
theorem dL_lay_49 : decode cL_lay 49 = .ok (.iload_n 2, 1) := by decide +kernel
theorem dL_lay_50 : decode cL_lay 50 = .ok (.iload_n 3, 1) := by decide +kernel
theorem dL_lay_51 : decode cL_lay 51 = .ok (.iload 8, 2) := by decide +kernel
theorem dL_lay_53 : decode cL_lay 53 = .ok (.aload_n 0, 1) := by decide +kernel
theorem dL_lay_54 : decode cL_lay 54 = .ok (.iconst 1, 1) := by decide +kernel
theorem dL_lay_55 : decode cL_lay 55 = .ok (.iaload, 1) := by decide +kernel
theorem dL_lay_56 : decode cL_lay 56 = .ok (.iload 9, 2) := by decide +kernel
theorem dL_lay_58 : decode cL_lay 58 = .ok (.isub, 1) := by decide +kernel
theorem dL_lay_59 : decode cL_lay 59 = .ok (.iconst 1, 1) := by decide +kernel
theorem dL_lay_60 : decode cL_lay 60 = .ok (.isub, 1) := by decide +kernel
theorem dL_lay_61 : decode cL_lay 61 = .ok (.aload 4, 2) := by decide +kernel
theorem dL_lay_63 : decode cL_lay 63 = .ok (.iload 10, 2) := by decide +kernel
theorem dL_lay_65 : decode cL_lay 65 = .ok (.invokestatic 30, 3) := by decide +kernel
theorem dL_lay_68 : decode cL_lay 68 = .ok (.iadd, 1) := by decide +kernel
theorem dL_lay_69 : decode cL_lay 69 = .ok (.istore 7, 2) := by decide +kernel
theorem dL_lay_71 : decode cL_lay 71 = .ok (.iload 8, 2) := by decide +kernel
theorem dL_lay_73 : decode cL_lay 73 = .ok (.aload 4, 2) := by decide +kernel
theorem dL_lay_75 : decode cL_lay 75 = .ok (.iload 10, 2) := by decide +kernel
theorem dL_lay_77 : decode cL_lay 77 = .ok (.iconst 2, 1) := by decide +kernel
theorem dL_lay_78 : decode cL_lay 78 = .ok (.iadd, 1) := by decide +kernel
theorem dL_lay_79 : decode cL_lay 79 = .ok (.iaload, 1) := by decide +kernel
theorem dL_lay_80 : decode cL_lay 80 = .ok (.aload 4, 2) := by decide +kernel
theorem dL_lay_82 : decode cL_lay 82 = .ok (.iload 10, 2) := by decide +kernel
theorem dL_lay_84 : decode cL_lay 84 = .ok (.iconst 3, 1) := by decide +kernel
theorem dL_lay_85 : decode cL_lay 85 = .ok (.iadd, 1) := by decide +kernel
theorem dL_lay_86 : decode cL_lay 86 = .ok (.iaload, 1) := by decide +kernel
theorem dL_lay_87 : decode cL_lay 87 = .ok (.iadd, 1) := by decide +kernel
theorem dL_lay_88 : decode cL_lay 88 = .ok (.aload 4, 2) := by decide +kernel
theorem dL_lay_90 : decode cL_lay 90 = .ok (.iload 10, 2) := by decide +kernel
theorem dL_lay_92 : decode cL_lay 92 = .ok (.iconst 4, 1) := by decide +kernel
theorem dL_lay_93 : decode cL_lay 93 = .ok (.iadd, 1) := by decide +kernel
theorem dL_lay_94 : decode cL_lay 94 = .ok (.iaload, 1) := by decide +kernel
theorem dL_lay_95 : decode cL_lay 95 = .ok (.isub, 1) := by decide +kernel
theorem dL_lay_96 : decode cL_lay 96 = .ok (.iadd, 1) := by decide +kernel
theorem dL_lay_97 : decode cL_lay 97 = .ok (.istore 8, 2) := by decide +kernel
theorem dL_lay_99 : decode cL_lay 99 = .ok (.aload 5, 2) := by decide +kernel
theorem dL_lay_101 : decode cL_lay 101 = .ok (.iconst 2, 1) := by decide +kernel
theorem dL_lay_102 : decode cL_lay 102 = .ok (.aload 5, 2) := by decide +kernel
theorem dL_lay_104 : decode cL_lay 104 = .ok (.iconst 0, 1) := by decide +kernel
theorem dL_lay_105 : decode cL_lay 105 = .ok (.iaload, 1) := by decide +kernel
theorem dL_lay_106 : decode cL_lay 106 = .ok (.iadd, 1) := by decide +kernel
theorem dL_lay_107 : decode cL_lay 107 = .ok (.aload 5, 2) := by decide +kernel
theorem dL_lay_109 : decode cL_lay 109 = .ok (.iconst 1, 1) := by decide +kernel
theorem dL_lay_110 : decode cL_lay 110 = .ok (.iaload, 1) := by decide +kernel
theorem dL_lay_111 : decode cL_lay 111 = .ok (.iastore, 1) := by decide +kernel
theorem dL_lay_112 : decode cL_lay 112 = .ok (.aload 5, 2) := by decide +kernel
theorem dL_lay_114 : decode cL_lay 114 = .ok (.iconst 0, 1) := by decide +kernel
theorem dL_lay_115 : decode cL_lay 115 = .ok (.dup2, 1) := by decide +kernel
theorem dL_lay_116 : decode cL_lay 116 = .ok (.iaload, 1) := by decide +kernel
theorem dL_lay_117 : decode cL_lay 117 = .ok (.iconst 1, 1) := by decide +kernel
theorem dL_lay_118 : decode cL_lay 118 = .ok (.iadd, 1) := by decide +kernel
theorem dL_lay_119 : decode cL_lay 119 = .ok (.iastore, 1) := by decide +kernel
theorem dL_lay_120 : decode cL_lay 120 = .ok (.iinc 9 1, 3) := by decide +kernel
theorem dL_lay_123 : decode cL_lay 123 = .ok (.iload 9, 2) := by decide +kernel
theorem dL_lay_125 : decode cL_lay 125 = .ok (.aload_n 0, 1) := by decide +kernel
theorem dL_lay_126 : decode cL_lay 126 = .ok (.iconst 1, 1) := by decide +kernel
theorem dL_lay_127 : decode cL_lay 127 = .ok (.iaload, 1) := by decide +kernel
theorem dL_lay_128 : decode cL_lay 128 = .ok (.if_icmp .eq 12, 3) := by decide +kernel
theorem dL_lay_131 : decode cL_lay 131 = .ok (.iload 7, 2) := by decide +kernel
theorem dL_lay_133 : decode cL_lay 133 = .ok (.aload_n 0, 1) := by decide +kernel
theorem dL_lay_134 : decode cL_lay 134 = .ok (.bipush 14, 2) := by decide +kernel
theorem dL_lay_136 : decode cL_lay 136 = .ok (.iaload, 1) := by decide +kernel
theorem dL_lay_137 : decode cL_lay 137 = .ok (.if_icmp .ne 143, 3) := by decide +kernel
theorem dL_lay_140 : decode cL_lay 140 = .ok (.aload 5, 2) := by decide +kernel
theorem dL_lay_142 : decode cL_lay 142 = .ok (.bipush 12, 2) := by decide +kernel
theorem dL_lay_144 : decode cL_lay 144 = .ok (.aload 5, 2) := by decide +kernel
theorem dL_lay_146 : decode cL_lay 146 = .ok (.iconst 1, 1) := by decide +kernel
theorem dL_lay_147 : decode cL_lay 147 = .ok (.iaload, 1) := by decide +kernel
theorem dL_lay_148 : decode cL_lay 148 = .ok (.iadd, 1) := by decide +kernel
theorem dL_lay_149 : decode cL_lay 149 = .ok (.iconst 0, 1) := by decide +kernel
theorem dL_lay_150 : decode cL_lay 150 = .ok (.iastore, 1) := by decide +kernel
theorem dL_lay_151 : decode cL_lay 151 = .ok (.iload 9, 2) := by decide +kernel
theorem dL_lay_153 : decode cL_lay 153 = .ok (.aload_n 0, 1) := by decide +kernel
theorem dL_lay_154 : decode cL_lay 154 = .ok (.iconst 1, 1) := by decide +kernel
theorem dL_lay_155 : decode cL_lay 155 = .ok (.iaload, 1) := by decide +kernel
theorem dL_lay_156 : decode cL_lay 156 = .ok (.if_icmp .ne 81, 3) := by decide +kernel
theorem dL_lay_159 : decode cL_lay 159 = .ok (.iload 7, 2) := by decide +kernel
theorem dL_lay_161 : decode cL_lay 161 = .ok (.aload_n 0, 1) := by decide +kernel
theorem dL_lay_162 : decode cL_lay 162 = .ok (.bipush 14, 2) := by decide +kernel
theorem dL_lay_164 : decode cL_lay 164 = .ok (.iaload, 1) := by decide +kernel
theorem dL_lay_165 : decode cL_lay 165 = .ok (.if_icmp .ge 72, 3) := by decide +kernel
theorem dL_lay_168 : decode cL_lay 168 = .ok (.aload_n 0, 1) := by decide +kernel
theorem dL_lay_169 : decode cL_lay 169 = .ok (.iconst 5, 1) := by decide +kernel
theorem dL_lay_170 : decode cL_lay 170 = .ok (.iaload, 1) := by decide +kernel
theorem dL_lay_171 : decode cL_lay 171 = .ok (.iconst 1, 1) := by decide +kernel
theorem dL_lay_172 : decode cL_lay 172 = .ok (.if_icmp .ne 65, 3) := by decide +kernel
theorem dL_lay_175 : decode cL_lay 175 = .ok (.aload_n 0, 1) := by decide +kernel
theorem dL_lay_176 : decode cL_lay 176 = .ok (.aload_n 1, 1) := by decide +kernel
theorem dL_lay_177 : decode cL_lay 177 = .ok (.iload 7, 2) := by decide +kernel
theorem dL_lay_179 : decode cL_lay 179 = .ok (.iconst 1, 1) := by decide +kernel
theorem dL_lay_180 : decode cL_lay 180 = .ok (.isub, 1) := by decide +kernel
theorem dL_lay_181 : decode cL_lay 181 = .ok (.invokestatic 19, 3) := by decide +kernel
theorem dL_lay_184 : decode cL_lay 184 = .ok (.ifCond .ne 53, 3) := by decide +kernel
theorem dL_lay_187 : decode cL_lay 187 = .ok (.aload_n 0, 1) := by decide +kernel
theorem dL_lay_188 : decode cL_lay 188 = .ok (.aload_n 1, 1) := by decide +kernel
theorem dL_lay_189 : decode cL_lay 189 = .ok (.iload 7, 2) := by decide +kernel
theorem dL_lay_191 : decode cL_lay 191 = .ok (.iload_n 2, 1) := by decide +kernel
theorem dL_lay_192 : decode cL_lay 192 = .ok (.iload_n 3, 1) := by decide +kernel
theorem dL_lay_193 : decode cL_lay 193 = .ok (.iconst 0, 1) := by decide +kernel
theorem dL_lay_194 : decode cL_lay 194 = .ok (.aload_n 0, 1) := by decide +kernel
theorem dL_lay_195 : decode cL_lay 195 = .ok (.iconst 1, 1) := by decide +kernel
theorem dL_lay_196 : decode cL_lay 196 = .ok (.iaload, 1) := by decide +kernel
theorem dL_lay_197 : decode cL_lay 197 = .ok (.iconst 1, 1) := by decide +kernel
theorem dL_lay_198 : decode cL_lay 198 = .ok (.isub, 1) := by decide +kernel
theorem dL_lay_199 : decode cL_lay 199 = .ok (.aload 6, 2) := by decide +kernel
theorem dL_lay_201 : decode cL_lay 201 = .ok (.iconst 0, 1) := by decide +kernel
theorem dL_lay_202 : decode cL_lay 202 = .ok (.invokestatic 30, 3) := by decide +kernel
theorem dL_lay_205 : decode cL_lay 205 = .ok (.istore 11, 2) := by decide +kernel
theorem dL_lay_207 : decode cL_lay 207 = .ok (.aload 5, 2) := by decide +kernel
theorem dL_lay_209 : decode cL_lay 209 = .ok (.bipush 12, 2) := by decide +kernel
theorem dL_lay_211 : decode cL_lay 211 = .ok (.aload 5, 2) := by decide +kernel
theorem dL_lay_213 : decode cL_lay 213 = .ok (.iconst 1, 1) := by decide +kernel
theorem dL_lay_214 : decode cL_lay 214 = .ok (.iaload, 1) := by decide +kernel
theorem dL_lay_215 : decode cL_lay 215 = .ok (.iadd, 1) := by decide +kernel
theorem dL_lay_216 : decode cL_lay 216 = .ok (.aload_n 0, 1) := by decide +kernel
theorem dL_lay_217 : decode cL_lay 217 = .ok (.aload_n 1, 1) := by decide +kernel
theorem dL_lay_218 : decode cL_lay 218 = .ok (.iload 7, 2) := by decide +kernel
theorem dL_lay_220 : decode cL_lay 220 = .ok (.iload 11, 2) := by decide +kernel
theorem dL_lay_222 : decode cL_lay 222 = .ok (.iadd, 1) := by decide +kernel
theorem dL_lay_223 : decode cL_lay 223 = .ok (.iconst 1, 1) := by decide +kernel
theorem dL_lay_224 : decode cL_lay 224 = .ok (.isub, 1) := by decide +kernel
theorem dL_lay_225 : decode cL_lay 225 = .ok (.invokestatic 19, 3) := by decide +kernel
theorem dL_lay_228 : decode cL_lay 228 = .ok (.ifCond .eq 7, 3) := by decide +kernel
theorem dL_lay_231 : decode cL_lay 231 = .ok (.iconst 1, 1) := by decide +kernel
theorem dL_lay_232 : decode cL_lay 232 = .ok (.goto 4, 3) := by decide +kernel
theorem dL_lay_235 : decode cL_lay 235 = .ok (.iconst 0, 1) := by decide +kernel
theorem dL_lay_236 : decode cL_lay 236 = .ok (.iastore, 1) := by decide +kernel
theorem dL_lay_237 : decode cL_lay 237 = .ok (.aload 5, 2) := by decide +kernel
theorem dL_lay_239 : decode cL_lay 239 = .ok (.bipush 12, 2) := by decide +kernel
theorem dL_lay_241 : decode cL_lay 241 = .ok (.aload 5, 2) := by decide +kernel
theorem dL_lay_243 : decode cL_lay 243 = .ok (.iconst 1, 1) := by decide +kernel
theorem dL_lay_244 : decode cL_lay 244 = .ok (.iaload, 1) := by decide +kernel
theorem dL_lay_245 : decode cL_lay 245 = .ok (.iadd, 1) := by decide +kernel
theorem dL_lay_246 : decode cL_lay 246 = .ok (.iaload, 1) := by decide +kernel
theorem dL_lay_247 : decode cL_lay 247 = .ok (.iconst 1, 1) := by decide +kernel
theorem dL_lay_248 : decode cL_lay 248 = .ok (.if_icmp .ne 18, 3) := by decide +kernel
theorem dL_lay_251 : decode cL_lay 251 = .ok (.aload 5, 2) := by decide +kernel
theorem dL_lay_253 : decode cL_lay 253 = .ok (.iconst 0, 1) := by decide +kernel
theorem dL_lay_254 : decode cL_lay 254 = .ok (.dup2, 1) := by decide +kernel
theorem dL_lay_255 : decode cL_lay 255 = .ok (.iaload, 1) := by decide +kernel
theorem dL_lay_256 : decode cL_lay 256 = .ok (.iconst 1, 1) := by decide +kernel
theorem dL_lay_257 : decode cL_lay 257 = .ok (.isub, 1) := by decide +kernel
theorem dL_lay_258 : decode cL_lay 258 = .ok (.iastore, 1) := by decide +kernel
theorem dL_lay_259 : decode cL_lay 259 = .ok (.aload 4, 2) := by decide +kernel
theorem dL_lay_261 : decode cL_lay 261 = .ok (.iload 10, 2) := by decide +kernel
theorem dL_lay_263 : decode cL_lay 263 = .ok (.iaload, 1) := by decide +kernel
theorem dL_lay_264 : decode cL_lay 264 = .ok (.istore 7, 2) := by decide +kernel
theorem dL_lay_266 : decode cL_lay 266 = .ok (.aload 5, 2) := by decide +kernel
theorem dL_lay_268 : decode cL_lay 268 = .ok (.iconst 1, 1) := by decide +kernel
theorem dL_lay_269 : decode cL_lay 269 = .ok (.dup2, 1) := by decide +kernel
theorem dL_lay_270 : decode cL_lay 270 = .ok (.iaload, 1) := by decide +kernel
theorem dL_lay_271 : decode cL_lay 271 = .ok (.iconst 1, 1) := by decide +kernel
theorem dL_lay_272 : decode cL_lay 272 = .ok (.iadd, 1) := by decide +kernel
theorem dL_lay_273 : decode cL_lay 273 = .ok (.iastore, 1) := by decide +kernel
theorem dL_lay_274 : decode cL_lay 274 = .ok (.iconst 0, 1) := by decide +kernel
theorem dL_lay_275 : decode cL_lay 275 = .ok (.istore 9, 2) := by decide +kernel
theorem dL_lay_277 : decode cL_lay 277 = .ok (.iconst 0, 1) := by decide +kernel
theorem dL_lay_278 : decode cL_lay 278 = .ok (.istore 8, 2) := by decide +kernel
theorem dL_lay_280 : decode cL_lay 280 = .ok (.goto (-255), 3) := by decide +kernel
theorem dL_lay_283 : decode cL_lay 283 = .ok (.return_, 1) := by decide +kernel
set_option maxRecDepth 20000 in
theorem ggL_empty_L_natural : GoodIn wsL_empty wsL_natural := goodIn_r _ [4, 5, 6, 3, 7, 8, 9, 10] (by decide +kernel) (by decide +kernel)
set_option maxRecDepth 20000 in
theorem gL_empty_L_natural : GoodIn wsL_empty (va_wsS RL 23 yL_natural wsL_natural) := goodIn_app (goodIn_of _ (by decide +kernel)) ggL_empty_L_natural
theorem dL_empty_0 : decode cL_empty 0 = .ok (.bipush 6, 2) := by decide +kernel
theorem dL_empty_2 : decode cL_empty 2 = .ok (.iload 4, 2) := by decide +kernel
theorem dL_empty_4 : decode cL_empty 4 = .ok (.imul, 1) := by decide +kernel
theorem dL_empty_5 : decode cL_empty 5 = .ok (.istore 5, 2) := by decide +kernel
theorem dL_empty_7 : decode cL_empty 7 = .ok (.aload_n 3, 1) := by decide +kernel
theorem dL_empty_8 : decode cL_empty 8 = .ok (.iload 5, 2) := by decide +kernel
theorem dL_empty_10 : decode cL_empty 10 = .ok (.iconst 5, 1) := by decide +kernel
theorem dL_empty_11 : decode cL_empty 11 = .ok (.iadd, 1) := by decide +kernel
theorem dL_empty_12 : decode cL_empty 12 = .ok (.iaload, 1) := by decide +kernel
theorem dL_empty_13 : decode cL_empty 13 = .ok (.iconst 1, 1) := by decide +kernel
theorem dL_empty_14 : decode cL_empty 14 = .ok (.if_icmp .ne 7, 3) := by decide +kernel
theorem dL_empty_17 : decode cL_empty 17 = .ok (.iconst 0, 1) := by decide +kernel
theorem dL_empty_18 : decode cL_empty 18 = .ok (.goto 40, 3) := by decide +kernel
theorem dL_empty_21 : decode cL_empty 21 = .ok (.iload_n 2, 1) := by decide +kernel
theorem dL_empty_22 : decode cL_empty 22 = .ok (.aload_n 3, 1) := by decide +kernel
theorem dL_empty_23 : decode cL_empty 23 = .ok (.iload 5, 2) := by decide +kernel
theorem dL_empty_25 : decode cL_empty 25 = .ok (.iconst 4, 1) := by decide +kernel
theorem dL_empty_26 : decode cL_empty 26 = .ok (.iadd, 1) := by decide +kernel
theorem dL_empty_27 : decode cL_empty 27 = .ok (.iaload, 1) := by decide +kernel
theorem dL_empty_28 : decode cL_empty 28 = .ok (.isub, 1) := by decide +kernel
theorem dL_empty_29 : decode cL_empty 29 = .ok (.aload_n 3, 1) := by decide +kernel
theorem dL_empty_30 : decode cL_empty 30 = .ok (.iload 5, 2) := by decide +kernel
theorem dL_empty_32 : decode cL_empty 32 = .ok (.iconst 2, 1) := by decide +kernel
theorem dL_empty_33 : decode cL_empty 33 = .ok (.iadd, 1) := by decide +kernel
theorem dL_empty_34 : decode cL_empty 34 = .ok (.iaload, 1) := by decide +kernel
theorem dL_empty_35 : decode cL_empty 35 = .ok (.iadd, 1) := by decide +kernel
theorem dL_empty_36 : decode cL_empty 36 = .ok (.aload_n 3, 1) := by decide +kernel
theorem dL_empty_37 : decode cL_empty 37 = .ok (.iload 5, 2) := by decide +kernel
theorem dL_empty_39 : decode cL_empty 39 = .ok (.iconst 3, 1) := by decide +kernel
theorem dL_empty_40 : decode cL_empty 40 = .ok (.iadd, 1) := by decide +kernel
theorem dL_empty_41 : decode cL_empty 41 = .ok (.iaload, 1) := by decide +kernel
theorem dL_empty_42 : decode cL_empty 42 = .ok (.iadd, 1) := by decide +kernel
theorem dL_empty_43 : decode cL_empty 43 = .ok (.aload_n 1, 1) := by decide +kernel
theorem dL_empty_44 : decode cL_empty 44 = .ok (.aload_n 3, 1) := by decide +kernel
theorem dL_empty_45 : decode cL_empty 45 = .ok (.iload 5, 2) := by decide +kernel
theorem dL_empty_47 : decode cL_empty 47 = .ok (.iaload, 1) := by decide +kernel
theorem dL_empty_48 : decode cL_empty 48 = .ok (.aload_n 3, 1) := by decide +kernel
theorem dL_empty_49 : decode cL_empty 49 = .ok (.iload 5, 2) := by decide +kernel
theorem dL_empty_51 : decode cL_empty 51 = .ok (.iconst 1, 1) := by decide +kernel
theorem dL_empty_52 : decode cL_empty 52 = .ok (.iadd, 1) := by decide +kernel
theorem dL_empty_53 : decode cL_empty 53 = .ok (.iaload, 1) := by decide +kernel
theorem dL_empty_54 : decode cL_empty 54 = .ok (.invokestatic 23, 3) := by decide +kernel
theorem dL_empty_57 : decode cL_empty 57 = .ok (.isub, 1) := by decide +kernel
theorem dL_empty_58 : decode cL_empty 58 = .ok (.ireturn, 1) := by decide +kernel
set_option maxRecDepth 20000 in
theorem ggL_uneven_L_empty : GoodIn wsL_uneven wsL_empty := goodIn_r _ [4, 5, 6, 3, 7, 8, 9, 10, 11, 12, 13] (by decide +kernel) (by decide +kernel)
set_option maxRecDepth 20000 in
theorem gL_uneven_L_empty : GoodIn wsL_uneven (va_wsS RL 34 yL_empty wsL_empty) := goodIn_app (goodIn_of _ (by decide +kernel)) ggL_uneven_L_empty
set_option maxRecDepth 20000 in
theorem ggL_uneven_L_closes : GoodIn wsL_uneven wsL_closes := goodIn_r _ [16] (by decide +kernel) (by decide +kernel)
set_option maxRecDepth 20000 in
theorem gL_uneven_L_closes : GoodIn wsL_uneven (va_wsS RL 19 yL_closes wsL_closes) := goodIn_app (goodIn_of _ (by decide +kernel)) ggL_uneven_L_closes
theorem dL_uneven_0 : decode cL_uneven 0 = .ok (.iconst 0, 1) := by decide +kernel
theorem dL_uneven_1 : decode cL_uneven 1 = .ok (.istore 5, 2) := by decide +kernel
theorem dL_uneven_3 : decode cL_uneven 3 = .ok (.iconst 0, 1) := by decide +kernel
theorem dL_uneven_4 : decode cL_uneven 4 = .ok (.istore 6, 2) := by decide +kernel
theorem dL_uneven_6 : decode cL_uneven 6 = .ok (.iload 6, 2) := by decide +kernel
theorem dL_uneven_8 : decode cL_uneven 8 = .ok (.aload 4, 2) := by decide +kernel
theorem dL_uneven_10 : decode cL_uneven 10 = .ok (.iconst 0, 1) := by decide +kernel
theorem dL_uneven_11 : decode cL_uneven 11 = .ok (.iaload, 1) := by decide +kernel
theorem dL_uneven_12 : decode cL_uneven 12 = .ok (.if_icmp .ge 61, 3) := by decide +kernel
theorem dL_uneven_15 : decode cL_uneven 15 = .ok (.aload_n 0, 1) := by decide +kernel
theorem dL_uneven_16 : decode cL_uneven 16 = .ok (.aload_n 1, 1) := by decide +kernel
theorem dL_uneven_17 : decode cL_uneven 17 = .ok (.iload_n 2, 1) := by decide +kernel
theorem dL_uneven_18 : decode cL_uneven 18 = .ok (.aload_n 3, 1) := by decide +kernel
theorem dL_uneven_19 : decode cL_uneven 19 = .ok (.iload 6, 2) := by decide +kernel
theorem dL_uneven_21 : decode cL_uneven 21 = .ok (.invokestatic 34, 3) := by decide +kernel
theorem dL_uneven_24 : decode cL_uneven 24 = .ok (.istore 7, 2) := by decide +kernel
theorem dL_uneven_26 : decode cL_uneven 26 = .ok (.iload 5, 2) := by decide +kernel
theorem dL_uneven_28 : decode cL_uneven 28 = .ok (.aload_n 0, 1) := by decide +kernel
theorem dL_uneven_29 : decode cL_uneven 29 = .ok (.aload_n 1, 1) := by decide +kernel
theorem dL_uneven_30 : decode cL_uneven 30 = .ok (.aload_n 3, 1) := by decide +kernel
theorem dL_uneven_31 : decode cL_uneven 31 = .ok (.bipush 6, 2) := by decide +kernel
theorem dL_uneven_33 : decode cL_uneven 33 = .ok (.iload 6, 2) := by decide +kernel
theorem dL_uneven_35 : decode cL_uneven 35 = .ok (.imul, 1) := by decide +kernel
theorem dL_uneven_36 : decode cL_uneven 36 = .ok (.iaload, 1) := by decide +kernel
theorem dL_uneven_37 : decode cL_uneven 37 = .ok (.aload_n 3, 1) := by decide +kernel
theorem dL_uneven_38 : decode cL_uneven 38 = .ok (.bipush 6, 2) := by decide +kernel
theorem dL_uneven_40 : decode cL_uneven 40 = .ok (.iload 6, 2) := by decide +kernel
theorem dL_uneven_42 : decode cL_uneven 42 = .ok (.imul, 1) := by decide +kernel
theorem dL_uneven_43 : decode cL_uneven 43 = .ok (.iconst 1, 1) := by decide +kernel
theorem dL_uneven_44 : decode cL_uneven 44 = .ok (.iadd, 1) := by decide +kernel
theorem dL_uneven_45 : decode cL_uneven 45 = .ok (.iaload, 1) := by decide +kernel
theorem dL_uneven_46 : decode cL_uneven 46 = .ok (.iadd, 1) := by decide +kernel
theorem dL_uneven_47 : decode cL_uneven 47 = .ok (.iconst 1, 1) := by decide +kernel
theorem dL_uneven_48 : decode cL_uneven 48 = .ok (.isub, 1) := by decide +kernel
theorem dL_uneven_49 : decode cL_uneven 49 = .ok (.invokestatic 19, 3) := by decide +kernel
theorem dL_uneven_52 : decode cL_uneven 52 = .ok (.ifCond .eq 7, 3) := by decide +kernel
theorem dL_uneven_55 : decode cL_uneven 55 = .ok (.iconst 0, 1) := by decide +kernel
theorem dL_uneven_56 : decode cL_uneven 56 = .ok (.goto 8, 3) := by decide +kernel
theorem dL_uneven_59 : decode cL_uneven 59 = .ok (.iload 7, 2) := by decide +kernel
theorem dL_uneven_61 : decode cL_uneven 61 = .ok (.iload 7, 2) := by decide +kernel
theorem dL_uneven_63 : decode cL_uneven 63 = .ok (.imul, 1) := by decide +kernel
theorem dL_uneven_64 : decode cL_uneven 64 = .ok (.iadd, 1) := by decide +kernel
theorem dL_uneven_65 : decode cL_uneven 65 = .ok (.istore 5, 2) := by decide +kernel
theorem dL_uneven_67 : decode cL_uneven 67 = .ok (.iinc 6 1, 3) := by decide +kernel
theorem dL_uneven_70 : decode cL_uneven 70 = .ok (.goto (-64), 3) := by decide +kernel
theorem dL_uneven_73 : decode cL_uneven 73 = .ok (.iload 5, 2) := by decide +kernel
theorem dL_uneven_75 : decode cL_uneven 75 = .ok (.ireturn, 1) := by decide +kernel
set_option maxRecDepth 20000 in
theorem ggL_acts_L_low : GoodIn wsL_acts wsL_low := goodIn_r _ [7, 8] (by decide +kernel) (by decide +kernel)
set_option maxRecDepth 20000 in
theorem gL_acts_L_low : GoodIn wsL_acts (va_wsS RL 39 yL_low wsL_low) := goodIn_app (goodIn_of _ (by decide +kernel)) ggL_acts_L_low

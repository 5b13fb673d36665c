set_option maxRecDepth 20000 in
theorem gL_isSo_L_wordOf : GoodIn wsL_isSo (va_wsS RL 126 yL_wordOf wsL_wordOf) := goodIn_app (goodIn_of _ (by decide +kernel)) ggL_isSo_L_wordOf
set_option maxRecDepth 20000 in
theorem ggL_isSo_L_width : GoodIn wsL_isSo wsL_width := goodIn_r _ [18, 19, 20, 4, 21] (by decide +kernel) (by decide +kernel)
set_option maxRecDepth 20000 in
theorem gL_isSo_L_width : GoodIn wsL_isSo (va_wsS RL 15 yL_width wsL_width) := goodIn_app (goodIn_of _ (by decide +kernel)) ggL_isSo_L_width
set_option maxRecDepth 20000 in
theorem ggL_isSo_L_pageOf : GoodIn wsL_isSo wsL_pageOf := goodIn_ca (goodIn_ca (goodIn_r _ [168, 93, 28, 1, 29, 169, 170, 171, 33, 172, 46, 48, 98, 99, 100, 101, 102, 35, 36, 37, 38, 39, 173, 174, 175, 69, 176, 177, 193, 194, 195, 196, 197, 198, 208, 209, 210, 211, 212, 213, 214] (by decide +kernel) (by decide +kernel)) (goodIn_sub (fun _ h => List.mem_cons_of_mem _ (List.mem_append_right _ h)) (by decide +kernel))) (goodIn_sub (fun _ h => List.mem_cons_of_mem _ (List.mem_append_left _ (List.mem_append_right _ h))) (by decide +kernel))
set_option maxRecDepth 20000 in
theorem gL_isSo_L_pageOf : GoodIn wsL_isSo (va_wsS RL 129 yL_pageOf wsL_pageOf) := goodIn_app (goodIn_of _ (by decide +kernel)) ggL_isSo_L_pageOf
set_option maxRecDepth 20000 in
theorem ggL_isSo_X5_unevenness : GoodIn wsL_isSo wsX5_unevenness := goodIn_r _ [181, 46, 182, 183, 184, 69, 185, 71, 76, 77, 78, 79, 80, 193, 194, 195, 196, 197, 198, 208, 209, 210, 211, 212, 213, 214] (by decide +kernel) (by decide +kernel)
set_option maxRecDepth 20000 in
theorem gL_isSo_X5_unevenness : GoodIn wsL_isSo (wsV RL 132 RX5 yX5_unevenness wsX5_unevenness) := goodIn_app (goodIn_of _ (by decide +kernel)) ggL_isSo_X5_unevenness
set_option maxRecDepth 20000 in
theorem ggL_isSo_L_uneven : GoodIn wsL_isSo wsL_uneven := goodIn_r _ [188, 116, 117, 4, 118, 13, 14, 15, 16, 17, 18, 19, 20, 21, 10, 11, 12] (by decide +kernel) (by decide +kernel)
set_option maxRecDepth 20000 in
theorem gL_isSo_L_uneven : GoodIn wsL_isSo (va_wsS RL 136 yL_uneven wsL_uneven) := goodIn_app (goodIn_of _ (by decide +kernel)) ggL_isSo_L_uneven
set_option maxRecDepth 20000 in
theorem ggL_isSo_X5_meanEmpty : GoodIn wsL_isSo wsX5_meanEmpty := goodIn_r _ [192, 46, 47, 81, 82, 83, 69, 84, 71, 76, 77, 78, 79, 80, 193, 194, 195, 196, 197, 198, 208, 209, 210, 211, 212, 213, 214] (by decide +kernel) (by decide +kernel)
set_option maxRecDepth 20000 in
theorem gL_isSo_X5_meanEmpty : GoodIn wsL_isSo (wsV RL 140 RX5 yX5_meanEmpty wsX5_meanEmpty) := goodIn_app (goodIn_of _ (by decide +kernel)) ggL_isSo_X5_meanEmpty
theorem dL_isSo_0 : decode cL_isSo 0 = .ok (.aload_n 1, 1) := by decide +kernel
theorem dL_isSo_1 : decode cL_isSo 1 = .ok (.aload_n 2, 1) := by decide +kernel
theorem dL_isSo_2 : decode cL_isSo 2 = .ok (.aload_n 1, 1) := by decide +kernel
theorem dL_isSo_3 : decode cL_isSo 3 = .ok (.iconst 0, 1) := by decide +kernel
theorem dL_isSo_4 : decode cL_isSo 4 = .ok (.iaload, 1) := by decide +kernel
theorem dL_isSo_5 : decode cL_isSo 5 = .ok (.iconst 1, 1) := by decide +kernel
theorem dL_isSo_6 : decode cL_isSo 6 = .ok (.aload_n 3, 1) := by decide +kernel
theorem dL_isSo_7 : decode cL_isSo 7 = .ok (.aload 4, 2) := by decide +kernel
theorem dL_isSo_9 : decode cL_isSo 9 = .ok (.invokestatic 113, 3) := by decide +kernel
theorem dL_isSo_12 : decode cL_isSo 12 = .ok (.aload_n 1, 1) := by decide +kernel
theorem dL_isSo_13 : decode cL_isSo 13 = .ok (.bipush 14, 2) := by decide +kernel
theorem dL_isSo_15 : decode cL_isSo 15 = .ok (.iaload, 1) := by decide +kernel
theorem dL_isSo_16 : decode cL_isSo 16 = .ok (.istore 5, 2) := by decide +kernel
theorem dL_isSo_18 : decode cL_isSo 18 = .ok (.iconst 0, 1) := by decide +kernel
theorem dL_isSo_19 : decode cL_isSo 19 = .ok (.istore 6, 2) := by decide +kernel
theorem dL_isSo_21 : decode cL_isSo 21 = .ok (.iconst 0, 1) := by decide +kernel
theorem dL_isSo_22 : decode cL_isSo 22 = .ok (.istore 7, 2) := by decide +kernel
theorem dL_isSo_24 : decode cL_isSo 24 = .ok (.iconst 0, 1) := by decide +kernel
theorem dL_isSo_25 : decode cL_isSo 25 = .ok (.istore 8, 2) := by decide +kernel
theorem dL_isSo_27 : decode cL_isSo 27 = .ok (.iconst 0, 1) := by decide +kernel
theorem dL_isSo_28 : decode cL_isSo 28 = .ok (.istore 9, 2) := by decide +kernel
theorem dL_isSo_30 : decode cL_isSo 30 = .ok (.iconst 0, 1) := by decide +kernel
theorem dL_isSo_31 : decode cL_isSo 31 = .ok (.istore 10, 2) := by decide +kernel
theorem dL_isSo_33 : decode cL_isSo 33 = .ok (.aload_n 0, 1) := by decide +kernel
theorem dL_isSo_34 : decode cL_isSo 34 = .ok (.iconst 0, 1) := by decide +kernel
theorem dL_isSo_35 : decode cL_isSo 35 = .ok (.invokestatic 117, 3) := by decide +kernel
theorem dL_isSo_38 : decode cL_isSo 38 = .ok (.iload 5, 2) := by decide +kernel
theorem dL_isSo_40 : decode cL_isSo 40 = .ok (.if_icmp .ne 40, 3) := by decide +kernel
theorem dL_isSo_43 : decode cL_isSo 43 = .ok (.aload_n 0, 1) := by decide +kernel
theorem dL_isSo_44 : decode cL_isSo 44 = .ok (.iconst 1, 1) := by decide +kernel
theorem dL_isSo_45 : decode cL_isSo 45 = .ok (.invokestatic 117, 3) := by decide +kernel
theorem dL_isSo_48 : decode cL_isSo 48 = .ok (.aload 4, 2) := by decide +kernel
theorem dL_isSo_50 : decode cL_isSo 50 = .ok (.iconst 0, 1) := by decide +kernel
theorem dL_isSo_51 : decode cL_isSo 51 = .ok (.iaload, 1) := by decide +kernel
theorem dL_isSo_52 : decode cL_isSo 52 = .ok (.if_icmp .ne 28, 3) := by decide +kernel
theorem dL_isSo_55 : decode cL_isSo 55 = .ok (.aload_n 0, 1) := by decide +kernel
theorem dL_isSo_56 : decode cL_isSo 56 = .ok (.iconst 2, 1) := by decide +kernel
theorem dL_isSo_57 : decode cL_isSo 57 = .ok (.invokestatic 117, 3) := by decide +kernel
theorem dL_isSo_60 : decode cL_isSo 60 = .ok (.aload 4, 2) := by decide +kernel
theorem dL_isSo_62 : decode cL_isSo 62 = .ok (.iconst 1, 1) := by decide +kernel
theorem dL_isSo_63 : decode cL_isSo 63 = .ok (.iaload, 1) := by decide +kernel
theorem dL_isSo_64 : decode cL_isSo 64 = .ok (.if_icmp .ne 16, 3) := by decide +kernel
theorem dL_isSo_67 : decode cL_isSo 67 = .ok (.aload_n 0, 1) := by decide +kernel
theorem dL_isSo_68 : decode cL_isSo 68 = .ok (.bipush 13, 2) := by decide +kernel
theorem dL_isSo_70 : decode cL_isSo 70 = .ok (.invokestatic 117, 3) := by decide +kernel
theorem dL_isSo_73 : decode cL_isSo 73 = .ok (.ifCond .ne 7, 3) := by decide +kernel
theorem dL_isSo_76 : decode cL_isSo 76 = .ok (.iconst 1, 1) := by decide +kernel
theorem dL_isSo_77 : decode cL_isSo 77 = .ok (.goto 4, 3) := by decide +kernel
theorem dL_isSo_80 : decode cL_isSo 80 = .ok (.iconst 0, 1) := by decide +kernel
theorem dL_isSo_81 : decode cL_isSo 81 = .ok (.istore 11, 2) := by decide +kernel
theorem dL_isSo_83 : decode cL_isSo 83 = .ok (.iconst 0, 1) := by decide +kernel
theorem dL_isSo_84 : decode cL_isSo 84 = .ok (.istore 12, 2) := by decide +kernel
theorem dL_isSo_86 : decode cL_isSo 86 = .ok (.iload 12, 2) := by decide +kernel
theorem dL_isSo_88 : decode cL_isSo 88 = .ok (.bipush 8, 2) := by decide +kernel
theorem dL_isSo_90 : decode cL_isSo 90 = .ok (.if_icmp .ge 58, 3) := by decide +kernel
theorem dL_isSo_93 : decode cL_isSo 93 = .ok (.iload 11, 2) := by decide +kernel
theorem dL_isSo_95 : decode cL_isSo 95 = .ok (.ifCond .eq 44, 3) := by decide +kernel
theorem dL_isSo_98 : decode cL_isSo 98 = .ok (.aload_n 0, 1) := by decide +kernel
theorem dL_isSo_99 : decode cL_isSo 99 = .ok (.iload 12, 2) := by decide +kernel
theorem dL_isSo_101 : decode cL_isSo 101 = .ok (.invokestatic 120, 3) := by decide +kernel
theorem dL_isSo_104 : decode cL_isSo 104 = .ok (.aload_n 1, 1) := by decide +kernel
theorem dL_isSo_105 : decode cL_isSo 105 = .ok (.bipush 6, 2) := by decide +kernel
theorem dL_isSo_107 : decode cL_isSo 107 = .ok (.iload 12, 2) := by decide +kernel
theorem dL_isSo_109 : decode cL_isSo 109 = .ok (.iadd, 1) := by decide +kernel
theorem dL_isSo_110 : decode cL_isSo 110 = .ok (.iaload, 1) := by decide +kernel
theorem dL_isSo_111 : decode cL_isSo 111 = .ok (.if_icmp .ne 28, 3) := by decide +kernel
theorem dL_isSo_114 : decode cL_isSo 114 = .ok (.iload 12, 2) := by decide +kernel
theorem dL_isSo_116 : decode cL_isSo 116 = .ok (.iconst 5, 1) := by decide +kernel
theorem dL_isSo_117 : decode cL_isSo 117 = .ok (.if_icmp .gt 18, 3) := by decide +kernel
theorem dL_isSo_120 : decode cL_isSo 120 = .ok (.aload_n 0, 1) := by decide +kernel
theorem dL_isSo_121 : decode cL_isSo 121 = .ok (.iconst 4, 1) := by decide +kernel
theorem dL_isSo_122 : decode cL_isSo 122 = .ok (.iload 12, 2) := by decide +kernel
theorem dL_isSo_124 : decode cL_isSo 124 = .ok (.iadd, 1) := by decide +kernel
theorem dL_isSo_125 : decode cL_isSo 125 = .ok (.invokestatic 117, 3) := by decide +kernel
theorem dL_isSo_128 : decode cL_isSo 128 = .ok (.aload_n 1, 1) := by decide +kernel
theorem dL_isSo_129 : decode cL_isSo 129 = .ok (.iload 12, 2) := by decide +kernel
theorem dL_isSo_131 : decode cL_isSo 131 = .ok (.iaload, 1) := by decide +kernel
theorem dL_isSo_132 : decode cL_isSo 132 = .ok (.if_icmp .ne 7, 3) := by decide +kernel
theorem dL_isSo_135 : decode cL_isSo 135 = .ok (.iconst 1, 1) := by decide +kernel
theorem dL_isSo_136 : decode cL_isSo 136 = .ok (.goto 4, 3) := by decide +kernel
theorem dL_isSo_139 : decode cL_isSo 139 = .ok (.iconst 0, 1) := by decide +kernel
theorem dL_isSo_140 : decode cL_isSo 140 = .ok (.istore 11, 2) := by decide +kernel
theorem dL_isSo_142 : decode cL_isSo 142 = .ok (.iinc 12 1, 3) := by decide +kernel
theorem dL_isSo_145 : decode cL_isSo 145 = .ok (.goto (-59), 3) := by decide +kernel
theorem dL_isSo_148 : decode cL_isSo 148 = .ok (.iconst 0, 1) := by decide +kernel
theorem dL_isSo_149 : decode cL_isSo 149 = .ok (.istore 12, 2) := by decide +kernel
theorem dL_isSo_151 : decode cL_isSo 151 = .ok (.iconst 0, 1) := by decide +kernel
theorem dL_isSo_152 : decode cL_isSo 152 = .ok (.istore 13, 2) := by decide +kernel
theorem dL_isSo_154 : decode cL_isSo 154 = .ok (.iload 13, 2) := by decide +kernel
theorem dL_isSo_156 : decode cL_isSo 156 = .ok (.aload 4, 2) := by decide +kernel
theorem dL_isSo_158 : decode cL_isSo 158 = .ok (.iconst 0, 1) := by decide +kernel
theorem dL_isSo_159 : decode cL_isSo 159 = .ok (.iaload, 1) := by decide +kernel
theorem dL_isSo_160 : decode cL_isSo 160 = .ok (.if_icmp .ge 611, 3) := by decide +kernel
theorem dL_isSo_163 : decode cL_isSo 163 = .ok (.iload 11, 2) := by decide +kernel
theorem dL_isSo_165 : decode cL_isSo 165 = .ok (.ifCond .eq 606, 3) := by decide +kernel
theorem dL_isSo_168 : decode cL_isSo 168 = .ok (.bipush 6, 2) := by decide +kernel
theorem dL_isSo_170 : decode cL_isSo 170 = .ok (.iload 13, 2) := by decide +kernel
theorem dL_isSo_172 : decode cL_isSo 172 = .ok (.imul, 1) := by decide +kernel
theorem dL_isSo_173 : decode cL_isSo 173 = .ok (.istore 14, 2) := by decide +kernel
theorem dL_isSo_175 : decode cL_isSo 175 = .ok (.aload 4, 2) := by decide +kernel
theorem dL_isSo_177 : decode cL_isSo 177 = .ok (.iconst 2, 1) := by decide +kernel
theorem dL_isSo_178 : decode cL_isSo 178 = .ok (.iload 13, 2) := by decide +kernel
theorem dL_isSo_180 : decode cL_isSo 180 = .ok (.iadd, 1) := by decide +kernel
theorem dL_isSo_181 : decode cL_isSo 181 = .ok (.iaload, 1) := by decide +kernel
theorem dL_isSo_182 : decode cL_isSo 182 = .ok (.istore 15, 2) := by decide +kernel
theorem dL_isSo_184 : decode cL_isSo 184 = .ok (.aload_n 3, 1) := by decide +kernel
theorem dL_isSo_185 : decode cL_isSo 185 = .ok (.iload 14, 2) := by decide +kernel
theorem dL_isSo_187 : decode cL_isSo 187 = .ok (.iaload, 1) := by decide +kernel
theorem dL_isSo_188 : decode cL_isSo 188 = .ok (.istore 16, 2) := by decide +kernel
theorem dL_isSo_190 : decode cL_isSo 190 = .ok (.aload_n 3, 1) := by decide +kernel
theorem dL_isSo_191 : decode cL_isSo 191 = .ok (.iload 14, 2) := by decide +kernel
theorem dL_isSo_193 : decode cL_isSo 193 = .ok (.iconst 1, 1) := by decide +kernel
theorem dL_isSo_194 : decode cL_isSo 194 = .ok (.iadd, 1) := by decide +kernel
theorem dL_isSo_195 : decode cL_isSo 195 = .ok (.iaload, 1) := by decide +kernel
theorem dL_isSo_196 : decode cL_isSo 196 = .ok (.istore 17, 2) := by decide +kernel
theorem dL_isSo_198 : decode cL_isSo 198 = .ok (.aload_n 1, 1) := by decide +kernel
theorem dL_isSo_199 : decode cL_isSo 199 = .ok (.iconst 0, 1) := by decide +kernel
theorem dL_isSo_200 : decode cL_isSo 200 = .ok (.iaload, 1) := by decide +kernel
theorem dL_isSo_201 : decode cL_isSo 201 = .ok (.aload_n 3, 1) := by decide +kernel
theorem dL_isSo_202 : decode cL_isSo 202 = .ok (.iload 14, 2) := by decide +kernel
theorem dL_isSo_204 : decode cL_isSo 204 = .ok (.iconst 4, 1) := by decide +kernel
theorem dL_isSo_205 : decode cL_isSo 205 = .ok (.iadd, 1) := by decide +kernel
theorem dL_isSo_206 : decode cL_isSo 206 = .ok (.iaload, 1) := by decide +kernel
theorem dL_isSo_207 : decode cL_isSo 207 = .ok (.isub, 1) := by decide +kernel
theorem dL_isSo_208 : decode cL_isSo 208 = .ok (.istore 18, 2) := by decide +kernel
theorem dL_isSo_210 : decode cL_isSo 210 = .ok (.iload 13, 2) := by decide +kernel
theorem dL_isSo_212 : decode cL_isSo 212 = .ok (.ifCond .eq 15, 3) := by decide +kernel
theorem dL_isSo_215 : decode cL_isSo 215 = .ok (.aload 4, 2) := by decide +kernel
theorem dL_isSo_217 : decode cL_isSo 217 = .ok (.iconst 1, 1) := by decide +kernel
theorem dL_isSo_218 : decode cL_isSo 218 = .ok (.iload 13, 2) := by decide +kernel
theorem dL_isSo_220 : decode cL_isSo 220 = .ok (.iadd, 1) := by decide +kernel
theorem dL_isSo_221 : decode cL_isSo 221 = .ok (.iaload, 1) := by decide +kernel
theorem dL_isSo_222 : decode cL_isSo 222 = .ok (.iload 15, 2) := by decide +kernel
theorem dL_isSo_224 : decode cL_isSo 224 = .ok (.if_icmp .eq 7, 3) := by decide +kernel
theorem dL_isSo_227 : decode cL_isSo 227 = .ok (.iconst 1, 1) := by decide +kernel
theorem dL_isSo_228 : decode cL_isSo 228 = .ok (.goto 4, 3) := by decide +kernel
theorem dL_isSo_231 : decode cL_isSo 231 = .ok (.iconst 0, 1) := by decide +kernel
theorem dL_isSo_232 : decode cL_isSo 232 = .ok (.istore 19, 2) := by decide +kernel
theorem dL_isSo_234 : decode cL_isSo 234 = .ok (.iload 19, 2) := by decide +kernel
theorem dL_isSo_236 : decode cL_isSo 236 = .ok (.ifCond .eq 7, 3) := by decide +kernel
theorem dL_isSo_239 : decode cL_isSo 239 = .ok (.iconst 0, 1) := by decide +kernel
theorem dL_isSo_240 : decode cL_isSo 240 = .ok (.goto 5, 3) := by decide +kernel
theorem dL_isSo_243 : decode cL_isSo 243 = .ok (.iload 12, 2) := by decide +kernel
theorem dL_isSo_245 : decode cL_isSo 245 = .ok (.aload_n 3, 1) := by decide +kernel
theorem dL_isSo_246 : decode cL_isSo 246 = .ok (.iload 14, 2) := by decide +kernel
theorem dL_isSo_248 : decode cL_isSo 248 = .ok (.iconst 2, 1) := by decide +kernel
theorem dL_isSo_249 : decode cL_isSo 249 = .ok (.iadd, 1) := by decide +kernel
theorem dL_isSo_250 : decode cL_isSo 250 = .ok (.iaload, 1) := by decide +kernel
theorem dL_isSo_251 : decode cL_isSo 251 = .ok (.iadd, 1) := by decide +kernel
theorem dL_isSo_252 : decode cL_isSo 252 = .ok (.aload_n 3, 1) := by decide +kernel
theorem dL_isSo_253 : decode cL_isSo 253 = .ok (.iload 14, 2) := by decide +kernel
theorem dL_isSo_255 : decode cL_isSo 255 = .ok (.iconst 3, 1) := by decide +kernel
theorem dL_isSo_256 : decode cL_isSo 256 = .ok (.iadd, 1) := by decide +kernel
theorem dL_isSo_257 : decode cL_isSo 257 = .ok (.iaload, 1) := by decide +kernel
theorem dL_isSo_258 : decode cL_isSo 258 = .ok (.iadd, 1) := by decide +kernel
theorem dL_isSo_259 : decode cL_isSo 259 = .ok (.aload_n 3, 1) := by decide +kernel
theorem dL_isSo_260 : decode cL_isSo 260 = .ok (.iload 14, 2) := by decide +kernel
theorem dL_isSo_262 : decode cL_isSo 262 = .ok (.iconst 4, 1) := by decide +kernel
theorem dL_isSo_263 : decode cL_isSo 263 = .ok (.iadd, 1) := by decide +kernel
theorem dL_isSo_264 : decode cL_isSo 264 = .ok (.iaload, 1) := by decide +kernel
theorem dL_isSo_265 : decode cL_isSo 265 = .ok (.isub, 1) := by decide +kernel
theorem dL_isSo_266 : decode cL_isSo 266 = .ok (.istore 12, 2) := by decide +kernel
theorem dL_isSo_268 : decode cL_isSo 268 = .ok (.aload_n 1, 1) := by decide +kernel
theorem dL_isSo_269 : decode cL_isSo 269 = .ok (.aload_n 2, 1) := by decide +kernel
theorem dL_isSo_270 : decode cL_isSo 270 = .ok (.iload 16, 2) := by decide +kernel
theorem dL_isSo_272 : decode cL_isSo 272 = .ok (.iload 17, 2) := by decide +kernel
theorem dL_isSo_274 : decode cL_isSo 274 = .ok (.iadd, 1) := by decide +kernel
theorem dL_isSo_275 : decode cL_isSo 275 = .ok (.iconst 1, 1) := by decide +kernel
theorem dL_isSo_276 : decode cL_isSo 276 = .ok (.isub, 1) := by decide +kernel
theorem dL_isSo_277 : decode cL_isSo 277 = .ok (.invokestatic 19, 3) := by decide +kernel
theorem dL_isSo_280 : decode cL_isSo 280 = .ok (.istore 20, 2) := by decide +kernel
theorem dL_isSo_282 : decode cL_isSo 282 = .ok (.aload_n 0, 1) := by decide +kernel
theorem dL_isSo_283 : decode cL_isSo 283 = .ok (.iload 13, 2) := by decide +kernel
theorem dL_isSo_285 : decode cL_isSo 285 = .ok (.iconst 0, 1) := by decide +kernel
theorem dL_isSo_286 : decode cL_isSo 286 = .ok (.invokestatic 123, 3) := by decide +kernel
theorem dL_isSo_289 : decode cL_isSo 289 = .ok (.iload 15, 2) := by decide +kernel
theorem dL_isSo_291 : decode cL_isSo 291 = .ok (.if_icmp .ne 184, 3) := by decide +kernel
theorem dL_isSo_294 : decode cL_isSo 294 = .ok (.aload_n 0, 1) := by decide +kernel
theorem dL_isSo_295 : decode cL_isSo 295 = .ok (.iload 13, 2) := by decide +kernel
theorem dL_isSo_297 : decode cL_isSo 297 = .ok (.iconst 1, 1) := by decide +kernel
theorem dL_isSo_298 : decode cL_isSo 298 = .ok (.invokestatic 123, 3) := by decide +kernel
theorem dL_isSo_301 : decode cL_isSo 301 = .ok (.iload 16, 2) := by decide +kernel
theorem dL_isSo_303 : decode cL_isSo 303 = .ok (.if_icmp .ne 172, 3) := by decide +kernel
theorem dL_isSo_306 : decode cL_isSo 306 = .ok (.aload_n 0, 1) := by decide +kernel
theorem dL_isSo_307 : decode cL_isSo 307 = .ok (.iload 13, 2) := by decide +kernel
theorem dL_isSo_309 : decode cL_isSo 309 = .ok (.iconst 2, 1) := by decide +kernel
theorem dL_isSo_310 : decode cL_isSo 310 = .ok (.invokestatic 123, 3) := by decide +kernel
theorem dL_isSo_313 : decode cL_isSo 313 = .ok (.iload 17, 2) := by decide +kernel
theorem dL_isSo_315 : decode cL_isSo 315 = .ok (.if_icmp .ne 160, 3) := by decide +kernel
theorem dL_isSo_318 : decode cL_isSo 318 = .ok (.aload_n 0, 1) := by decide +kernel
theorem dL_isSo_319 : decode cL_isSo 319 = .ok (.iload 13, 2) := by decide +kernel
theorem dL_isSo_321 : decode cL_isSo 321 = .ok (.iconst 3, 1) := by decide +kernel
theorem dL_isSo_322 : decode cL_isSo 322 = .ok (.invokestatic 123, 3) := by decide +kernel
theorem dL_isSo_325 : decode cL_isSo 325 = .ok (.aload_n 2, 1) := by decide +kernel
theorem dL_isSo_326 : decode cL_isSo 326 = .ok (.iload 16, 2) := by decide +kernel
theorem dL_isSo_328 : decode cL_isSo 328 = .ok (.iload 17, 2) := by decide +kernel
theorem dL_isSo_330 : decode cL_isSo 330 = .ok (.invokestatic 23, 3) := by decide +kernel
theorem dL_isSo_333 : decode cL_isSo 333 = .ok (.if_icmp .ne 142, 3) := by decide +kernel
theorem dL_isSo_336 : decode cL_isSo 336 = .ok (.aload_n 0, 1) := by decide +kernel
theorem dL_isSo_337 : decode cL_isSo 337 = .ok (.iload 13, 2) := by decide +kernel
theorem dL_isSo_339 : decode cL_isSo 339 = .ok (.iconst 4, 1) := by decide +kernel
theorem dL_isSo_340 : decode cL_isSo 340 = .ok (.invokestatic 123, 3) := by decide +kernel
theorem dL_isSo_343 : decode cL_isSo 343 = .ok (.iload 18, 2) := by decide +kernel
theorem dL_isSo_345 : decode cL_isSo 345 = .ok (.if_icmp .ne 130, 3) := by decide +kernel
theorem dL_isSo_348 : decode cL_isSo 348 = .ok (.aload_n 0, 1) := by decide +kernel
theorem dL_isSo_349 : decode cL_isSo 349 = .ok (.iload 13, 2) := by decide +kernel
theorem dL_isSo_351 : decode cL_isSo 351 = .ok (.iconst 5, 1) := by decide +kernel
theorem dL_isSo_352 : decode cL_isSo 352 = .ok (.invokestatic 123, 3) := by decide +kernel
theorem dL_isSo_355 : decode cL_isSo 355 = .ok (.aload_n 3, 1) := by decide +kernel
theorem dL_isSo_356 : decode cL_isSo 356 = .ok (.iload 14, 2) := by decide +kernel
theorem dL_isSo_358 : decode cL_isSo 358 = .ok (.iconst 2, 1) := by decide +kernel
theorem dL_isSo_359 : decode cL_isSo 359 = .ok (.iadd, 1) := by decide +kernel
theorem dL_isSo_360 : decode cL_isSo 360 = .ok (.iaload, 1) := by decide +kernel
theorem dL_isSo_361 : decode cL_isSo 361 = .ok (.if_icmp .ne 114, 3) := by decide +kernel
theorem dL_isSo_364 : decode cL_isSo 364 = .ok (.aload_n 0, 1) := by decide +kernel
theorem dL_isSo_365 : decode cL_isSo 365 = .ok (.iload 13, 2) := by decide +kernel
theorem dL_isSo_367 : decode cL_isSo 367 = .ok (.bipush 6, 2) := by decide +kernel
theorem dL_isSo_369 : decode cL_isSo 369 = .ok (.invokestatic 123, 3) := by decide +kernel
theorem dL_isSo_372 : decode cL_isSo 372 = .ok (.aload_n 3, 1) := by decide +kernel
theorem dL_isSo_373 : decode cL_isSo 373 = .ok (.iload 14, 2) := by decide +kernel
theorem dL_isSo_375 : decode cL_isSo 375 = .ok (.iconst 3, 1) := by decide +kernel
theorem dL_isSo_376 : decode cL_isSo 376 = .ok (.iadd, 1) := by decide +kernel
theorem dL_isSo_377 : decode cL_isSo 377 = .ok (.iaload, 1) := by decide +kernel
theorem dL_isSo_378 : decode cL_isSo 378 = .ok (.if_icmp .ne 97, 3) := by decide +kernel
theorem dL_isSo_381 : decode cL_isSo 381 = .ok (.aload_n 0, 1) := by decide +kernel
theorem dL_isSo_382 : decode cL_isSo 382 = .ok (.iload 13, 2) := by decide +kernel
theorem dL_isSo_384 : decode cL_isSo 384 = .ok (.bipush 7, 2) := by decide +kernel
theorem dL_isSo_386 : decode cL_isSo 386 = .ok (.invokestatic 123, 3) := by decide +kernel
theorem dL_isSo_389 : decode cL_isSo 389 = .ok (.aload_n 3, 1) := by decide +kernel
theorem dL_isSo_390 : decode cL_isSo 390 = .ok (.iload 14, 2) := by decide +kernel
theorem dL_isSo_392 : decode cL_isSo 392 = .ok (.iconst 4, 1) := by decide +kernel
theorem dL_isSo_393 : decode cL_isSo 393 = .ok (.iadd, 1) := by decide +kernel
theorem dL_isSo_394 : decode cL_isSo 394 = .ok (.iaload, 1) := by decide +kernel
theorem dL_isSo_395 : decode cL_isSo 395 = .ok (.if_icmp .ne 80, 3) := by decide +kernel
theorem dL_isSo_398 : decode cL_isSo 398 = .ok (.aload_n 0, 1) := by decide +kernel
theorem dL_isSo_399 : decode cL_isSo 399 = .ok (.iload 13, 2) := by decide +kernel
theorem dL_isSo_401 : decode cL_isSo 401 = .ok (.bipush 8, 2) := by decide +kernel
theorem dL_isSo_403 : decode cL_isSo 403 = .ok (.invokestatic 123, 3) := by decide +kernel
theorem dL_isSo_406 : decode cL_isSo 406 = .ok (.iload 12, 2) := by decide +kernel
theorem dL_isSo_408 : decode cL_isSo 408 = .ok (.if_icmp .ne 67, 3) := by decide +kernel
theorem dL_isSo_411 : decode cL_isSo 411 = .ok (.aload_n 0, 1) := by decide +kernel
theorem dL_isSo_412 : decode cL_isSo 412 = .ok (.iload 13, 2) := by decide +kernel
theorem dL_isSo_414 : decode cL_isSo 414 = .ok (.bipush 9, 2) := by decide +kernel
theorem dL_isSo_416 : decode cL_isSo 416 = .ok (.invokestatic 123, 3) := by decide +kernel
theorem dL_isSo_419 : decode cL_isSo 419 = .ok (.aload_n 3, 1) := by decide +kernel
theorem dL_isSo_420 : decode cL_isSo 420 = .ok (.iload 14, 2) := by decide +kernel
theorem dL_isSo_422 : decode cL_isSo 422 = .ok (.iconst 5, 1) := by decide +kernel
theorem dL_isSo_423 : decode cL_isSo 423 = .ok (.iadd, 1) := by decide +kernel
theorem dL_isSo_424 : decode cL_isSo 424 = .ok (.iaload, 1) := by decide +kernel
theorem dL_isSo_425 : decode cL_isSo 425 = .ok (.if_icmp .ne 50, 3) := by decide +kernel
theorem dL_isSo_428 : decode cL_isSo 428 = .ok (.aload_n 0, 1) := by decide +kernel
theorem dL_isSo_429 : decode cL_isSo 429 = .ok (.iload 13, 2) := by decide +kernel
theorem dL_isSo_431 : decode cL_isSo 431 = .ok (.bipush 10, 2) := by decide +kernel
theorem dL_isSo_433 : decode cL_isSo 433 = .ok (.invokestatic 123, 3) := by decide +kernel
theorem dL_isSo_436 : decode cL_isSo 436 = .ok (.iload 20, 2) := by decide +kernel
theorem dL_isSo_438 : decode cL_isSo 438 = .ok (.ifCond .eq 7, 3) := by decide +kernel
theorem dL_isSo_441 : decode cL_isSo 441 = .ok (.iconst 1, 1) := by decide +kernel
theorem dL_isSo_442 : decode cL_isSo 442 = .ok (.goto 4, 3) := by decide +kernel
theorem dL_isSo_445 : decode cL_isSo 445 = .ok (.iconst 0, 1) := by decide +kernel
theorem dL_isSo_446 : decode cL_isSo 446 = .ok (.if_icmp .ne 29, 3) := by decide +kernel
theorem dL_isSo_449 : decode cL_isSo 449 = .ok (.aload_n 0, 1) := by decide +kernel
theorem dL_isSo_450 : decode cL_isSo 450 = .ok (.iload 13, 2) := by decide +kernel
theorem dL_isSo_452 : decode cL_isSo 452 = .ok (.bipush 11, 2) := by decide +kernel
theorem dL_isSo_454 : decode cL_isSo 454 = .ok (.invokestatic 123, 3) := by decide +kernel
theorem dL_isSo_457 : decode cL_isSo 457 = .ok (.aload_n 1, 1) := by decide +kernel
theorem dL_isSo_458 : decode cL_isSo 458 = .ok (.aload_n 2, 1) := by decide +kernel
theorem dL_isSo_459 : decode cL_isSo 459 = .ok (.aload_n 1, 1) := by decide +kernel
theorem dL_isSo_460 : decode cL_isSo 460 = .ok (.iconst 0, 1) := by decide +kernel
theorem dL_isSo_461 : decode cL_isSo 461 = .ok (.iaload, 1) := by decide +kernel
theorem dL_isSo_462 : decode cL_isSo 462 = .ok (.aload_n 3, 1) := by decide +kernel
theorem dL_isSo_463 : decode cL_isSo 463 = .ok (.iload 13, 2) := by decide +kernel
theorem dL_isSo_465 : decode cL_isSo 465 = .ok (.invokestatic 34, 3) := by decide +kernel
theorem dL_isSo_468 : decode cL_isSo 468 = .ok (.if_icmp .ne 7, 3) := by decide +kernel
theorem dL_isSo_471 : decode cL_isSo 471 = .ok (.iconst 1, 1) := by decide +kernel
theorem dL_isSo_472 : decode cL_isSo 472 = .ok (.goto 4, 3) := by decide +kernel
theorem dL_isSo_475 : decode cL_isSo 475 = .ok (.iconst 0, 1) := by decide +kernel
theorem dL_isSo_476 : decode cL_isSo 476 = .ok (.istore 11, 2) := by decide +kernel
theorem dL_isSo_478 : decode cL_isSo 478 = .ok (.iload 7, 2) := by decide +kernel
theorem dL_isSo_480 : decode cL_isSo 480 = .ok (.aload_n 3, 1) := by decide +kernel
theorem dL_isSo_481 : decode cL_isSo 481 = .ok (.iload 14, 2) := by decide +kernel
theorem dL_isSo_483 : decode cL_isSo 483 = .ok (.iconst 2, 1) := by decide +kernel
theorem dL_isSo_484 : decode cL_isSo 484 = .ok (.iadd, 1) := by decide +kernel
theorem dL_isSo_485 : decode cL_isSo 485 = .ok (.iaload, 1) := by decide +kernel
theorem dL_isSo_486 : decode cL_isSo 486 = .ok (.aload_n 3, 1) := by decide +kernel
theorem dL_isSo_487 : decode cL_isSo 487 = .ok (.iload 14, 2) := by decide +kernel
theorem dL_isSo_489 : decode cL_isSo 489 = .ok (.iconst 3, 1) := by decide +kernel
theorem dL_isSo_490 : decode cL_isSo 490 = .ok (.iadd, 1) := by decide +kernel
theorem dL_isSo_491 : decode cL_isSo 491 = .ok (.iaload, 1) := by decide +kernel
theorem dL_isSo_492 : decode cL_isSo 492 = .ok (.iadd, 1) := by decide +kernel
theorem dL_isSo_493 : decode cL_isSo 493 = .ok (.ifCond .le 7, 3) := by decide +kernel
theorem dL_isSo_496 : decode cL_isSo 496 = .ok (.iconst 1, 1) := by decide +kernel
theorem dL_isSo_497 : decode cL_isSo 497 = .ok (.goto 4, 3) := by decide +kernel
theorem dL_isSo_500 : decode cL_isSo 500 = .ok (.iconst 0, 1) := by decide +kernel
theorem dL_isSo_501 : decode cL_isSo 501 = .ok (.iadd, 1) := by decide +kernel
theorem dL_isSo_502 : decode cL_isSo 502 = .ok (.istore 7, 2) := by decide +kernel
theorem dL_isSo_504 : decode cL_isSo 504 = .ok (.iload 8, 2) := by decide +kernel
theorem dL_isSo_506 : decode cL_isSo 506 = .ok (.aload_n 3, 1) := by decide +kernel
theorem dL_isSo_507 : decode cL_isSo 507 = .ok (.iload 14, 2) := by decide +kernel
theorem dL_isSo_509 : decode cL_isSo 509 = .ok (.iconst 5, 1) := by decide +kernel
theorem dL_isSo_510 : decode cL_isSo 510 = .ok (.iadd, 1) := by decide +kernel
theorem dL_isSo_511 : decode cL_isSo 511 = .ok (.iaload, 1) := by decide +kernel
theorem dL_isSo_512 : decode cL_isSo 512 = .ok (.iadd, 1) := by decide +kernel
theorem dL_isSo_513 : decode cL_isSo 513 = .ok (.istore 8, 2) := by decide +kernel
theorem dL_isSo_515 : decode cL_isSo 515 = .ok (.iload 9, 2) := by decide +kernel
theorem dL_isSo_517 : decode cL_isSo 517 = .ok (.aload_n 3, 1) := by decide +kernel
theorem dL_isSo_518 : decode cL_isSo 518 = .ok (.iload 14, 2) := by decide +kernel
theorem dL_isSo_520 : decode cL_isSo 520 = .ok (.iconst 2, 1) := by decide +kernel
theorem dL_isSo_521 : decode cL_isSo 521 = .ok (.iadd, 1) := by decide +kernel
theorem dL_isSo_522 : decode cL_isSo 522 = .ok (.iaload, 1) := by decide +kernel
theorem dL_isSo_523 : decode cL_isSo 523 = .ok (.aload_n 3, 1) := by decide +kernel
theorem dL_isSo_524 : decode cL_isSo 524 = .ok (.iload 14, 2) := by decide +kernel
theorem dL_isSo_526 : decode cL_isSo 526 = .ok (.iconst 3, 1) := by decide +kernel
theorem dL_isSo_527 : decode cL_isSo 527 = .ok (.iadd, 1) := by decide +kernel
theorem dL_isSo_528 : decode cL_isSo 528 = .ok (.iaload, 1) := by decide +kernel
theorem dL_isSo_529 : decode cL_isSo 529 = .ok (.iadd, 1) := by decide +kernel
theorem dL_isSo_530 : decode cL_isSo 530 = .ok (.iadd, 1) := by decide +kernel
theorem dL_isSo_531 : decode cL_isSo 531 = .ok (.istore 9, 2) := by decide +kernel
theorem dL_isSo_533 : decode cL_isSo 533 = .ok (.iload 10, 2) := by decide +kernel
theorem dL_isSo_535 : decode cL_isSo 535 = .ok (.aload_n 1, 1) := by decide +kernel
theorem dL_isSo_536 : decode cL_isSo 536 = .ok (.aload_n 2, 1) := by decide +kernel
theorem dL_isSo_537 : decode cL_isSo 537 = .ok (.aload_n 1, 1) := by decide +kernel
theorem dL_isSo_538 : decode cL_isSo 538 = .ok (.iconst 0, 1) := by decide +kernel
theorem dL_isSo_539 : decode cL_isSo 539 = .ok (.iaload, 1) := by decide +kernel
theorem dL_isSo_540 : decode cL_isSo 540 = .ok (.aload_n 3, 1) := by decide +kernel
theorem dL_isSo_541 : decode cL_isSo 541 = .ok (.iload 13, 2) := by decide +kernel
theorem dL_isSo_543 : decode cL_isSo 543 = .ok (.invokestatic 34, 3) := by decide +kernel
theorem dL_isSo_546 : decode cL_isSo 546 = .ok (.iadd, 1) := by decide +kernel
theorem dL_isSo_547 : decode cL_isSo 547 = .ok (.istore 10, 2) := by decide +kernel
theorem dL_isSo_549 : decode cL_isSo 549 = .ok (.aload_n 3, 1) := by decide +kernel
theorem dL_isSo_550 : decode cL_isSo 550 = .ok (.iload 14, 2) := by decide +kernel
theorem dL_isSo_552 : decode cL_isSo 552 = .ok (.iconst 2, 1) := by decide +kernel
theorem dL_isSo_553 : decode cL_isSo 553 = .ok (.iadd, 1) := by decide +kernel
theorem dL_isSo_554 : decode cL_isSo 554 = .ok (.iaload, 1) := by decide +kernel
theorem dL_isSo_555 : decode cL_isSo 555 = .ok (.ineg, 1) := by decide +kernel
theorem dL_isSo_556 : decode cL_isSo 556 = .ok (.istore 21, 2) := by decide +kernel
theorem dL_isSo_558 : decode cL_isSo 558 = .ok (.iload 16, 2) := by decide +kernel
theorem dL_isSo_560 : decode cL_isSo 560 = .ok (.istore 22, 2) := by decide +kernel
theorem dL_isSo_562 : decode cL_isSo 562 = .ok (.iload 22, 2) := by decide +kernel
theorem dL_isSo_564 : decode cL_isSo 564 = .ok (.iload 16, 2) := by decide +kernel
theorem dL_isSo_566 : decode cL_isSo 566 = .ok (.iload 17, 2) := by decide +kernel
theorem dL_isSo_568 : decode cL_isSo 568 = .ok (.iadd, 1) := by decide +kernel
theorem dL_isSo_569 : decode cL_isSo 569 = .ok (.if_icmp .ge 196, 3) := by decide +kernel
theorem dL_isSo_572 : decode cL_isSo 572 = .ok (.iload 11, 2) := by decide +kernel
theorem dL_isSo_574 : decode cL_isSo 574 = .ok (.ifCond .eq 191, 3) := by decide +kernel
theorem dL_isSo_577 : decode cL_isSo 577 = .ok (.aload_n 0, 1) := by decide +kernel
theorem dL_isSo_578 : decode cL_isSo 578 = .ok (.iload 22, 2) := by decide +kernel
theorem dL_isSo_580 : decode cL_isSo 580 = .ok (.iconst 0, 1) := by decide +kernel
theorem dL_isSo_581 : decode cL_isSo 581 = .ok (.invokestatic 126, 3) := by decide +kernel
theorem dL_isSo_584 : decode cL_isSo 584 = .ok (.aload_n 2, 1) := by decide +kernel
theorem dL_isSo_585 : decode cL_isSo 585 = .ok (.iconst 5, 1) := by decide +kernel
theorem dL_isSo_586 : decode cL_isSo 586 = .ok (.iload 22, 2) := by decide +kernel
theorem dL_isSo_588 : decode cL_isSo 588 = .ok (.imul, 1) := by decide +kernel
theorem dL_isSo_589 : decode cL_isSo 589 = .ok (.iconst 1, 1) := by decide +kernel
theorem dL_isSo_590 : decode cL_isSo 590 = .ok (.iadd, 1) := by decide +kernel
theorem dL_isSo_591 : decode cL_isSo 591 = .ok (.iaload, 1) := by decide +kernel
theorem dL_isSo_592 : decode cL_isSo 592 = .ok (.if_icmp .ne 131, 3) := by decide +kernel
theorem dL_isSo_595 : decode cL_isSo 595 = .ok (.aload_n 0, 1) := by decide +kernel
theorem dL_isSo_596 : decode cL_isSo 596 = .ok (.iload 22, 2) := by decide +kernel
theorem dL_isSo_598 : decode cL_isSo 598 = .ok (.iconst 1, 1) := by decide +kernel
theorem dL_isSo_599 : decode cL_isSo 599 = .ok (.invokestatic 126, 3) := by decide +kernel
theorem dL_isSo_602 : decode cL_isSo 602 = .ok (.aload_n 2, 1) := by decide +kernel
theorem dL_isSo_603 : decode cL_isSo 603 = .ok (.iload 22, 2) := by decide +kernel
theorem dL_isSo_605 : decode cL_isSo 605 = .ok (.invokestatic 15, 3) := by decide +kernel
theorem dL_isSo_608 : decode cL_isSo 608 = .ok (.if_icmp .ne 115, 3) := by decide +kernel
theorem dL_isSo_611 : decode cL_isSo 611 = .ok (.aload_n 0, 1) := by decide +kernel
theorem dL_isSo_612 : decode cL_isSo 612 = .ok (.iload 22, 2) := by decide +kernel
theorem dL_isSo_614 : decode cL_isSo 614 = .ok (.iconst 2, 1) := by decide +kernel
theorem dL_isSo_615 : decode cL_isSo 615 = .ok (.invokestatic 126, 3) := by decide +kernel
theorem dL_isSo_618 : decode cL_isSo 618 = .ok (.aload_n 2, 1) := by decide +kernel
theorem dL_isSo_619 : decode cL_isSo 619 = .ok (.iconst 5, 1) := by decide +kernel
theorem dL_isSo_620 : decode cL_isSo 620 = .ok (.iload 22, 2) := by decide +kernel
theorem dL_isSo_622 : decode cL_isSo 622 = .ok (.imul, 1) := by decide +kernel
theorem dL_isSo_623 : decode cL_isSo 623 = .ok (.iconst 2, 1) := by decide +kernel
theorem dL_isSo_624 : decode cL_isSo 624 = .ok (.iadd, 1) := by decide +kernel
theorem dL_isSo_625 : decode cL_isSo 625 = .ok (.iaload, 1) := by decide +kernel
theorem dL_isSo_626 : decode cL_isSo 626 = .ok (.if_icmp .ne 97, 3) := by decide +kernel
theorem dL_isSo_629 : decode cL_isSo 629 = .ok (.aload_n 0, 1) := by decide +kernel
theorem dL_isSo_630 : decode cL_isSo 630 = .ok (.iload 22, 2) := by decide +kernel
theorem dL_isSo_632 : decode cL_isSo 632 = .ok (.iconst 3, 1) := by decide +kernel
theorem dL_isSo_633 : decode cL_isSo 633 = .ok (.invokestatic 126, 3) := by decide +kernel
theorem dL_isSo_636 : decode cL_isSo 636 = .ok (.aload_n 2, 1) := by decide +kernel
theorem dL_isSo_637 : decode cL_isSo 637 = .ok (.iconst 5, 1) := by decide +kernel
theorem dL_isSo_638 : decode cL_isSo 638 = .ok (.iload 22, 2) := by decide +kernel
theorem dL_isSo_640 : decode cL_isSo 640 = .ok (.imul, 1) := by decide +kernel
theorem dL_isSo_641 : decode cL_isSo 641 = .ok (.iconst 3, 1) := by decide +kernel
theorem dL_isSo_642 : decode cL_isSo 642 = .ok (.iadd, 1) := by decide +kernel
theorem dL_isSo_643 : decode cL_isSo 643 = .ok (.iaload, 1) := by decide +kernel
theorem dL_isSo_644 : decode cL_isSo 644 = .ok (.if_icmp .ne 79, 3) := by decide +kernel
theorem dL_isSo_647 : decode cL_isSo 647 = .ok (.aload_n 0, 1) := by decide +kernel
theorem dL_isSo_648 : decode cL_isSo 648 = .ok (.iload 22, 2) := by decide +kernel
theorem dL_isSo_650 : decode cL_isSo 650 = .ok (.iconst 4, 1) := by decide +kernel
theorem dL_isSo_651 : decode cL_isSo 651 = .ok (.invokestatic 126, 3) := by decide +kernel
theorem dL_isSo_654 : decode cL_isSo 654 = .ok (.aload_n 2, 1) := by decide +kernel
theorem dL_isSo_655 : decode cL_isSo 655 = .ok (.iconst 5, 1) := by decide +kernel
theorem dL_isSo_656 : decode cL_isSo 656 = .ok (.iload 22, 2) := by decide +kernel
theorem dL_isSo_658 : decode cL_isSo 658 = .ok (.imul, 1) := by decide +kernel
theorem dL_isSo_659 : decode cL_isSo 659 = .ok (.iconst 4, 1) := by decide +kernel
theorem dL_isSo_660 : decode cL_isSo 660 = .ok (.iadd, 1) := by decide +kernel
theorem dL_isSo_661 : decode cL_isSo 661 = .ok (.iaload, 1) := by decide +kernel
theorem dL_isSo_662 : decode cL_isSo 662 = .ok (.if_icmp .ne 61, 3) := by decide +kernel
theorem dL_isSo_665 : decode cL_isSo 665 = .ok (.aload_n 0, 1) := by decide +kernel
theorem dL_isSo_666 : decode cL_isSo 666 = .ok (.iload 22, 2) := by decide +kernel
theorem dL_isSo_668 : decode cL_isSo 668 = .ok (.iconst 5, 1) := by decide +kernel
theorem dL_isSo_669 : decode cL_isSo 669 = .ok (.invokestatic 126, 3) := by decide +kernel
theorem dL_isSo_672 : decode cL_isSo 672 = .ok (.iload 13, 2) := by decide +kernel
theorem dL_isSo_674 : decode cL_isSo 674 = .ok (.if_icmp .ne 49, 3) := by decide +kernel
theorem dL_isSo_677 : decode cL_isSo 677 = .ok (.aload_n 0, 1) := by decide +kernel
theorem dL_isSo_678 : decode cL_isSo 678 = .ok (.iload 22, 2) := by decide +kernel
theorem dL_isSo_680 : decode cL_isSo 680 = .ok (.bipush 6, 2) := by decide +kernel
theorem dL_isSo_682 : decode cL_isSo 682 = .ok (.invokestatic 126, 3) := by decide +kernel
theorem dL_isSo_685 : decode cL_isSo 685 = .ok (.iload 22, 2) := by decide +kernel
theorem dL_isSo_687 : decode cL_isSo 687 = .ok (.iload 16, 2) := by decide +kernel
theorem dL_isSo_689 : decode cL_isSo 689 = .ok (.isub, 1) := by decide +kernel
theorem dL_isSo_690 : decode cL_isSo 690 = .ok (.if_icmp .ne 33, 3) := by decide +kernel
theorem dL_isSo_693 : decode cL_isSo 693 = .ok (.aload_n 0, 1) := by decide +kernel
theorem dL_isSo_694 : decode cL_isSo 694 = .ok (.iload 22, 2) := by decide +kernel
theorem dL_isSo_696 : decode cL_isSo 696 = .ok (.bipush 7, 2) := by decide +kernel
theorem dL_isSo_698 : decode cL_isSo 698 = .ok (.invokestatic 126, 3) := by decide +kernel
theorem dL_isSo_701 : decode cL_isSo 701 = .ok (.iload 15, 2) := by decide +kernel
theorem dL_isSo_703 : decode cL_isSo 703 = .ok (.if_icmp .ne 20, 3) := by decide +kernel
theorem dL_isSo_706 : decode cL_isSo 706 = .ok (.aload_n 0, 1) := by decide +kernel
theorem dL_isSo_707 : decode cL_isSo 707 = .ok (.iload 22, 2) := by decide +kernel
theorem dL_isSo_709 : decode cL_isSo 709 = .ok (.bipush 8, 2) := by decide +kernel
theorem dL_isSo_711 : decode cL_isSo 711 = .ok (.invokestatic 126, 3) := by decide +kernel
theorem dL_isSo_714 : decode cL_isSo 714 = .ok (.iload 21, 2) := by decide +kernel
theorem dL_isSo_716 : decode cL_isSo 716 = .ok (.if_icmp .ne 7, 3) := by decide +kernel
theorem dL_isSo_719 : decode cL_isSo 719 = .ok (.iconst 1, 1) := by decide +kernel
theorem dL_isSo_720 : decode cL_isSo 720 = .ok (.goto 4, 3) := by decide +kernel

theorem dX1_addLine_98 : decode cX1_addLine 98 = .ok (.iastore, 1) := by decide +kernel
theorem dX1_addLine_99 : decode cX1_addLine 99 = .ok (.aload_n 0, 1) := by decide +kernel
theorem dX1_addLine_100 : decode cX1_addLine 100 = .ok (.getfield 9, 3) := by decide +kernel
theorem dX1_addLine_103 : decode cX1_addLine 103 = .ok (.iload_n 3, 1) := by decide +kernel
theorem dX1_addLine_104 : decode cX1_addLine 104 = .ok (.bipush 6, 2) := by decide +kernel
theorem dX1_addLine_106 : decode cX1_addLine 106 = .ok (.iadd, 1) := by decide +kernel
theorem dX1_addLine_107 : decode cX1_addLine 107 = .ok (.aload_n 0, 1) := by decide +kernel
theorem dX1_addLine_108 : decode cX1_addLine 108 = .ok (.getfield 27, 3) := by decide +kernel
theorem dX1_addLine_111 : decode cX1_addLine 111 = .ok (.getfield 91, 3) := by decide +kernel
theorem dX1_addLine_114 : decode cX1_addLine 114 = .ok (.iastore, 1) := by decide +kernel
theorem dX1_addLine_115 : decode cX1_addLine 115 = .ok (.aload_n 0, 1) := by decide +kernel
theorem dX1_addLine_116 : decode cX1_addLine 116 = .ok (.getfield 9, 3) := by decide +kernel
theorem dX1_addLine_119 : decode cX1_addLine 119 = .ok (.iload_n 3, 1) := by decide +kernel
theorem dX1_addLine_120 : decode cX1_addLine 120 = .ok (.bipush 7, 2) := by decide +kernel
theorem dX1_addLine_122 : decode cX1_addLine 122 = .ok (.iadd, 1) := by decide +kernel
theorem dX1_addLine_123 : decode cX1_addLine 123 = .ok (.aload_n 0, 1) := by decide +kernel
theorem dX1_addLine_124 : decode cX1_addLine 124 = .ok (.getfield 27, 3) := by decide +kernel
theorem dX1_addLine_127 : decode cX1_addLine 127 = .ok (.getfield 94, 3) := by decide +kernel
theorem dX1_addLine_130 : decode cX1_addLine 130 = .ok (.iastore, 1) := by decide +kernel
theorem dX1_addLine_131 : decode cX1_addLine 131 = .ok (.aload_n 0, 1) := by decide +kernel
theorem dX1_addLine_132 : decode cX1_addLine 132 = .ok (.getfield 9, 3) := by decide +kernel
theorem dX1_addLine_135 : decode cX1_addLine 135 = .ok (.iload_n 3, 1) := by decide +kernel
theorem dX1_addLine_136 : decode cX1_addLine 136 = .ok (.bipush 8, 2) := by decide +kernel
theorem dX1_addLine_138 : decode cX1_addLine 138 = .ok (.iadd, 1) := by decide +kernel
theorem dX1_addLine_139 : decode cX1_addLine 139 = .ok (.aload_n 0, 1) := by decide +kernel
theorem dX1_addLine_140 : decode cX1_addLine 140 = .ok (.getfield 27, 3) := by decide +kernel
theorem dX1_addLine_143 : decode cX1_addLine 143 = .ok (.getfield 69, 3) := by decide +kernel
theorem dX1_addLine_146 : decode cX1_addLine 146 = .ok (.iastore, 1) := by decide +kernel
theorem dX1_addLine_147 : decode cX1_addLine 147 = .ok (.aload_n 0, 1) := by decide +kernel
theorem dX1_addLine_148 : decode cX1_addLine 148 = .ok (.getfield 9, 3) := by decide +kernel
theorem dX1_addLine_151 : decode cX1_addLine 151 = .ok (.iload_n 3, 1) := by decide +kernel
theorem dX1_addLine_152 : decode cX1_addLine 152 = .ok (.bipush 9, 2) := by decide +kernel
theorem dX1_addLine_154 : decode cX1_addLine 154 = .ok (.iadd, 1) := by decide +kernel
theorem dX1_addLine_155 : decode cX1_addLine 155 = .ok (.aload_n 0, 1) := by decide +kernel
theorem dX1_addLine_156 : decode cX1_addLine 156 = .ok (.getfield 27, 3) := by decide +kernel
theorem dX1_addLine_159 : decode cX1_addLine 159 = .ok (.getfield 97, 3) := by decide +kernel
theorem dX1_addLine_162 : decode cX1_addLine 162 = .ok (.ifCond .eq 7, 3) := by decide +kernel
theorem dX1_addLine_165 : decode cX1_addLine 165 = .ok (.iconst 1, 1) := by decide +kernel
theorem dX1_addLine_166 : decode cX1_addLine 166 = .ok (.goto 4, 3) := by decide +kernel
theorem dX1_addLine_169 : decode cX1_addLine 169 = .ok (.iconst 0, 1) := by decide +kernel
theorem dX1_addLine_170 : decode cX1_addLine 170 = .ok (.iastore, 1) := by decide +kernel
theorem dX1_addLine_171 : decode cX1_addLine 171 = .ok (.aload_n 0, 1) := by decide +kernel
theorem dX1_addLine_172 : decode cX1_addLine 172 = .ok (.getfield 9, 3) := by decide +kernel
theorem dX1_addLine_175 : decode cX1_addLine 175 = .ok (.iload_n 3, 1) := by decide +kernel
theorem dX1_addLine_176 : decode cX1_addLine 176 = .ok (.bipush 10, 2) := by decide +kernel
theorem dX1_addLine_178 : decode cX1_addLine 178 = .ok (.iadd, 1) := by decide +kernel
theorem dX1_addLine_179 : decode cX1_addLine 179 = .ok (.iload_n 2, 1) := by decide +kernel
theorem dX1_addLine_180 : decode cX1_addLine 180 = .ok (.ifCond .eq 7, 3) := by decide +kernel
theorem dX1_addLine_183 : decode cX1_addLine 183 = .ok (.iconst 1, 1) := by decide +kernel
theorem dX1_addLine_184 : decode cX1_addLine 184 = .ok (.goto 4, 3) := by decide +kernel
theorem dX1_addLine_187 : decode cX1_addLine 187 = .ok (.iconst 0, 1) := by decide +kernel
theorem dX1_addLine_188 : decode cX1_addLine 188 = .ok (.iastore, 1) := by decide +kernel
theorem dX1_addLine_189 : decode cX1_addLine 189 = .ok (.aload_n 0, 1) := by decide +kernel
theorem dX1_addLine_190 : decode cX1_addLine 190 = .ok (.getfield 9, 3) := by decide +kernel
theorem dX1_addLine_193 : decode cX1_addLine 193 = .ok (.iload_n 3, 1) := by decide +kernel
theorem dX1_addLine_194 : decode cX1_addLine 194 = .ok (.bipush 11, 2) := by decide +kernel
theorem dX1_addLine_196 : decode cX1_addLine 196 = .ok (.iadd, 1) := by decide +kernel
theorem dX1_addLine_197 : decode cX1_addLine 197 = .ok (.aload_n 0, 1) := by decide +kernel
theorem dX1_addLine_198 : decode cX1_addLine 198 = .ok (.getfield 27, 3) := by decide +kernel
theorem dX1_addLine_201 : decode cX1_addLine 201 = .ok (.invokevirtual 101, 3) := by decide +kernel
theorem dX1_addLine_204 : decode cX1_addLine 204 = .ok (.iastore, 1) := by decide +kernel
theorem dX1_addLine_205 : decode cX1_addLine 205 = .ok (.iconst 0, 1) := by decide +kernel
theorem dX1_addLine_206 : decode cX1_addLine 206 = .ok (.iload_n 1, 1) := by decide +kernel
theorem dX1_addLine_207 : decode cX1_addLine 207 = .ok (.invokestatic 105, 3) := by decide +kernel
theorem dX1_addLine_210 : decode cX1_addLine 210 = .ok (.istore 4, 2) := by decide +kernel
theorem dX1_addLine_212 : decode cX1_addLine 212 = .ok (.iload 4, 2) := by decide +kernel
theorem dX1_addLine_214 : decode cX1_addLine 214 = .ok (.iload_n 1, 1) := by decide +kernel
theorem dX1_addLine_215 : decode cX1_addLine 215 = .ok (.aload_n 0, 1) := by decide +kernel
theorem dX1_addLine_216 : decode cX1_addLine 216 = .ok (.getfield 27, 3) := by decide +kernel
theorem dX1_addLine_219 : decode cX1_addLine 219 = .ok (.getfield 58, 3) := by decide +kernel
theorem dX1_addLine_222 : decode cX1_addLine 222 = .ok (.iadd, 1) := by decide +kernel
theorem dX1_addLine_223 : decode cX1_addLine 223 = .ok (.if_icmp .ge 27, 3) := by decide +kernel
theorem dX1_addLine_226 : decode cX1_addLine 226 = .ok (.iload 4, 2) := by decide +kernel
theorem dX1_addLine_228 : decode cX1_addLine 228 = .ok (.bipush 60, 2) := by decide +kernel
theorem dX1_addLine_230 : decode cX1_addLine 230 = .ok (.if_icmp .ge 20, 3) := by decide +kernel
theorem dX1_addLine_233 : decode cX1_addLine 233 = .ok (.aload_n 0, 1) := by decide +kernel
theorem dX1_addLine_234 : decode cX1_addLine 234 = .ok (.getfield 18, 3) := by decide +kernel
theorem dX1_addLine_237 : decode cX1_addLine 237 = .ok (.iload 4, 2) := by decide +kernel
theorem dX1_addLine_239 : decode cX1_addLine 239 = .ok (.aload_n 0, 1) := by decide +kernel
theorem dX1_addLine_240 : decode cX1_addLine 240 = .ok (.getfield 40, 3) := by decide +kernel
theorem dX1_addLine_243 : decode cX1_addLine 243 = .ok (.iastore, 1) := by decide +kernel
theorem dX1_addLine_244 : decode cX1_addLine 244 = .ok (.iinc 4 1, 3) := by decide +kernel
theorem dX1_addLine_247 : decode cX1_addLine 247 = .ok (.goto (-35), 3) := by decide +kernel
theorem dX1_addLine_250 : decode cX1_addLine 250 = .ok (.aload_n 0, 1) := by decide +kernel
theorem dX1_addLine_251 : decode cX1_addLine 251 = .ok (.dup, 1) := by decide +kernel
theorem dX1_addLine_252 : decode cX1_addLine 252 = .ok (.getfield 40, 3) := by decide +kernel
theorem dX1_addLine_255 : decode cX1_addLine 255 = .ok (.iconst 1, 1) := by decide +kernel
theorem dX1_addLine_256 : decode cX1_addLine 256 = .ok (.iadd, 1) := by decide +kernel
theorem dX1_addLine_257 : decode cX1_addLine 257 = .ok (.putfield 40, 3) := by decide +kernel
theorem dX1_addLine_260 : decode cX1_addLine 260 = .ok (.return_, 1) := by decide +kernel
set_option maxRecDepth 20000 in
theorem ggX1_addPage_X1_lentTo : GoodIn wsX1_addPage wsX1_lentTo := goodIn_r _ [8, 9, 10, 11, 7, 12, 13, 14, 15, 16, 17, 18, 19, 20] (by decide +kernel) (by decide +kernel)
set_option maxRecDepth 20000 in
theorem gX1_addPage_X1_lentTo : GoodIn wsX1_addPage (wsV RX1 110 RX1 yX1_lentTo wsX1_lentTo) := goodIn_app (goodIn_of _ (by decide +kernel)) ggX1_addPage_X1_lentTo
set_option maxRecDepth 20000 in
theorem ggX1_addPage_X1_lineValue : GoodIn wsX1_addPage wsX1_lineValue := goodIn_r _ [12, 13, 14, 15, 16, 17, 18, 19, 20] (by decide +kernel) (by decide +kernel)
set_option maxRecDepth 20000 in
theorem gX1_addPage_X1_lineValue : GoodIn wsX1_addPage (wsV RX1 75 RX1 yX1_lineValue wsX1_lineValue) := goodIn_app (goodIn_of _ (by decide +kernel)) ggX1_addPage_X1_lineValue
theorem dX1_addPage_0 : decode cX1_addPage 0 = .ok (.aload_n 0, 1) := by decide +kernel
theorem dX1_addPage_1 : decode cX1_addPage 1 = .ok (.getfield 44, 3) := by decide +kernel
theorem dX1_addPage_4 : decode cX1_addPage 4 = .ok (.bipush 60, 2) := by decide +kernel
theorem dX1_addPage_6 : decode cX1_addPage 6 = .ok (.if_icmp .lt 4, 3) := by decide +kernel
theorem dX1_addPage_9 : decode cX1_addPage 9 = .ok (.return_, 1) := by decide +kernel
theorem dX1_addPage_10 : decode cX1_addPage 10 = .ok (.iconst 0, 1) := by decide +kernel
theorem dX1_addPage_11 : decode cX1_addPage 11 = .ok (.istore_n 3, 1) := by decide +kernel
theorem dX1_addPage_12 : decode cX1_addPage 12 = .ok (.iconst 0, 1) := by decide +kernel
theorem dX1_addPage_13 : decode cX1_addPage 13 = .ok (.istore 4, 2) := by decide +kernel
theorem dX1_addPage_15 : decode cX1_addPage 15 = .ok (.iload_n 1, 1) := by decide +kernel
theorem dX1_addPage_16 : decode cX1_addPage 16 = .ok (.istore 5, 2) := by decide +kernel
theorem dX1_addPage_18 : decode cX1_addPage 18 = .ok (.iload 5, 2) := by decide +kernel
theorem dX1_addPage_20 : decode cX1_addPage 20 = .ok (.aload_n 0, 1) := by decide +kernel
theorem dX1_addPage_21 : decode cX1_addPage 21 = .ok (.getfield 40, 3) := by decide +kernel
theorem dX1_addPage_24 : decode cX1_addPage 24 = .ok (.if_icmp .ge 31, 3) := by decide +kernel
theorem dX1_addPage_27 : decode cX1_addPage 27 = .ok (.iload_n 3, 1) := by decide +kernel
theorem dX1_addPage_28 : decode cX1_addPage 28 = .ok (.aload_n 0, 1) := by decide +kernel
theorem dX1_addPage_29 : decode cX1_addPage 29 = .ok (.iload 5, 2) := by decide +kernel
theorem dX1_addPage_31 : decode cX1_addPage 31 = .ok (.invokevirtual 110, 3) := by decide +kernel
theorem dX1_addPage_34 : decode cX1_addPage 34 = .ok (.iadd, 1) := by decide +kernel
theorem dX1_addPage_35 : decode cX1_addPage 35 = .ok (.istore_n 3, 1) := by decide +kernel
theorem dX1_addPage_36 : decode cX1_addPage 36 = .ok (.iload 4, 2) := by decide +kernel
theorem dX1_addPage_38 : decode cX1_addPage 38 = .ok (.aload_n 0, 1) := by decide +kernel
theorem dX1_addPage_39 : decode cX1_addPage 39 = .ok (.iload 5, 2) := by decide +kernel
theorem dX1_addPage_41 : decode cX1_addPage 41 = .ok (.bipush 7, 2) := by decide +kernel
theorem dX1_addPage_43 : decode cX1_addPage 43 = .ok (.invokevirtual 75, 3) := by decide +kernel
theorem dX1_addPage_46 : decode cX1_addPage 46 = .ok (.iadd, 1) := by decide +kernel
theorem dX1_addPage_47 : decode cX1_addPage 47 = .ok (.istore 4, 2) := by decide +kernel
theorem dX1_addPage_49 : decode cX1_addPage 49 = .ok (.iinc 5 1, 3) := by decide +kernel
theorem dX1_addPage_52 : decode cX1_addPage 52 = .ok (.goto (-34), 3) := by decide +kernel
theorem dX1_addPage_55 : decode cX1_addPage 55 = .ok (.aload_n 0, 1) := by decide +kernel
theorem dX1_addPage_56 : decode cX1_addPage 56 = .ok (.getfield 44, 3) := by decide +kernel
theorem dX1_addPage_59 : decode cX1_addPage 59 = .ok (.bipush 6, 2) := by decide +kernel
theorem dX1_addPage_61 : decode cX1_addPage 61 = .ok (.imul, 1) := by decide +kernel
theorem dX1_addPage_62 : decode cX1_addPage 62 = .ok (.istore 5, 2) := by decide +kernel
theorem dX1_addPage_64 : decode cX1_addPage 64 = .ok (.aload_n 0, 1) := by decide +kernel
theorem dX1_addPage_65 : decode cX1_addPage 65 = .ok (.getfield 15, 3) := by decide +kernel
theorem dX1_addPage_68 : decode cX1_addPage 68 = .ok (.iload 5, 2) := by decide +kernel
theorem dX1_addPage_70 : decode cX1_addPage 70 = .ok (.iconst 0, 1) := by decide +kernel
theorem dX1_addPage_71 : decode cX1_addPage 71 = .ok (.iadd, 1) := by decide +kernel
theorem dX1_addPage_72 : decode cX1_addPage 72 = .ok (.iload_n 1, 1) := by decide +kernel
theorem dX1_addPage_73 : decode cX1_addPage 73 = .ok (.iastore, 1) := by decide +kernel
theorem dX1_addPage_74 : decode cX1_addPage 74 = .ok (.aload_n 0, 1) := by decide +kernel
theorem dX1_addPage_75 : decode cX1_addPage 75 = .ok (.getfield 15, 3) := by decide +kernel
theorem dX1_addPage_78 : decode cX1_addPage 78 = .ok (.iload 5, 2) := by decide +kernel
theorem dX1_addPage_80 : decode cX1_addPage 80 = .ok (.iconst 1, 1) := by decide +kernel
theorem dX1_addPage_81 : decode cX1_addPage 81 = .ok (.iadd, 1) := by decide +kernel
theorem dX1_addPage_82 : decode cX1_addPage 82 = .ok (.aload_n 0, 1) := by decide +kernel
theorem dX1_addPage_83 : decode cX1_addPage 83 = .ok (.getfield 40, 3) := by decide +kernel
theorem dX1_addPage_86 : decode cX1_addPage 86 = .ok (.iload_n 1, 1) := by decide +kernel
theorem dX1_addPage_87 : decode cX1_addPage 87 = .ok (.isub, 1) := by decide +kernel
theorem dX1_addPage_88 : decode cX1_addPage 88 = .ok (.iastore, 1) := by decide +kernel
theorem dX1_addPage_89 : decode cX1_addPage 89 = .ok (.aload_n 0, 1) := by decide +kernel
theorem dX1_addPage_90 : decode cX1_addPage 90 = .ok (.getfield 15, 3) := by decide +kernel
theorem dX1_addPage_93 : decode cX1_addPage 93 = .ok (.iload 5, 2) := by decide +kernel
theorem dX1_addPage_95 : decode cX1_addPage 95 = .ok (.iconst 2, 1) := by decide +kernel
theorem dX1_addPage_96 : decode cX1_addPage 96 = .ok (.iadd, 1) := by decide +kernel
theorem dX1_addPage_97 : decode cX1_addPage 97 = .ok (.iload_n 3, 1) := by decide +kernel
theorem dX1_addPage_98 : decode cX1_addPage 98 = .ok (.iastore, 1) := by decide +kernel
theorem dX1_addPage_99 : decode cX1_addPage 99 = .ok (.aload_n 0, 1) := by decide +kernel
theorem dX1_addPage_100 : decode cX1_addPage 100 = .ok (.getfield 15, 3) := by decide +kernel
theorem dX1_addPage_103 : decode cX1_addPage 103 = .ok (.iload 5, 2) := by decide +kernel
theorem dX1_addPage_105 : decode cX1_addPage 105 = .ok (.iconst 3, 1) := by decide +kernel
theorem dX1_addPage_106 : decode cX1_addPage 106 = .ok (.iadd, 1) := by decide +kernel
theorem dX1_addPage_107 : decode cX1_addPage 107 = .ok (.iload 4, 2) := by decide +kernel
theorem dX1_addPage_109 : decode cX1_addPage 109 = .ok (.iastore, 1) := by decide +kernel
theorem dX1_addPage_110 : decode cX1_addPage 110 = .ok (.aload_n 0, 1) := by decide +kernel
theorem dX1_addPage_111 : decode cX1_addPage 111 = .ok (.getfield 15, 3) := by decide +kernel
theorem dX1_addPage_114 : decode cX1_addPage 114 = .ok (.iload 5, 2) := by decide +kernel
theorem dX1_addPage_116 : decode cX1_addPage 116 = .ok (.iconst 4, 1) := by decide +kernel
theorem dX1_addPage_117 : decode cX1_addPage 117 = .ok (.iadd, 1) := by decide +kernel
theorem dX1_addPage_118 : decode cX1_addPage 118 = .ok (.aload_n 0, 1) := by decide +kernel
theorem dX1_addPage_119 : decode cX1_addPage 119 = .ok (.aload_n 0, 1) := by decide +kernel
theorem dX1_addPage_120 : decode cX1_addPage 120 = .ok (.getfield 40, 3) := by decide +kernel
theorem dX1_addPage_123 : decode cX1_addPage 123 = .ok (.iconst 1, 1) := by decide +kernel
theorem dX1_addPage_124 : decode cX1_addPage 124 = .ok (.isub, 1) := by decide +kernel
theorem dX1_addPage_125 : decode cX1_addPage 125 = .ok (.bipush 8, 2) := by decide +kernel
theorem dX1_addPage_127 : decode cX1_addPage 127 = .ok (.invokevirtual 75, 3) := by decide +kernel
theorem dX1_addPage_130 : decode cX1_addPage 130 = .ok (.iastore, 1) := by decide +kernel
theorem dX1_addPage_131 : decode cX1_addPage 131 = .ok (.aload_n 0, 1) := by decide +kernel
theorem dX1_addPage_132 : decode cX1_addPage 132 = .ok (.getfield 15, 3) := by decide +kernel
theorem dX1_addPage_135 : decode cX1_addPage 135 = .ok (.iload 5, 2) := by decide +kernel
theorem dX1_addPage_137 : decode cX1_addPage 137 = .ok (.iconst 5, 1) := by decide +kernel
theorem dX1_addPage_138 : decode cX1_addPage 138 = .ok (.iadd, 1) := by decide +kernel
theorem dX1_addPage_139 : decode cX1_addPage 139 = .ok (.iload_n 2, 1) := by decide +kernel
theorem dX1_addPage_140 : decode cX1_addPage 140 = .ok (.ifCond .eq 7, 3) := by decide +kernel
theorem dX1_addPage_143 : decode cX1_addPage 143 = .ok (.iconst 1, 1) := by decide +kernel
theorem dX1_addPage_144 : decode cX1_addPage 144 = .ok (.goto 4, 3) := by decide +kernel
theorem dX1_addPage_147 : decode cX1_addPage 147 = .ok (.iconst 0, 1) := by decide +kernel
theorem dX1_addPage_148 : decode cX1_addPage 148 = .ok (.iastore, 1) := by decide +kernel
theorem dX1_addPage_149 : decode cX1_addPage 149 = .ok (.aload_n 0, 1) := by decide +kernel
theorem dX1_addPage_150 : decode cX1_addPage 150 = .ok (.dup, 1) := by decide +kernel
theorem dX1_addPage_151 : decode cX1_addPage 151 = .ok (.getfield 44, 3) := by decide +kernel
theorem dX1_addPage_154 : decode cX1_addPage 154 = .ok (.iconst 1, 1) := by decide +kernel
theorem dX1_addPage_155 : decode cX1_addPage 155 = .ok (.iadd, 1) := by decide +kernel
theorem dX1_addPage_156 : decode cX1_addPage 156 = .ok (.putfield 44, 3) := by decide +kernel
theorem dX1_addPage_159 : decode cX1_addPage 159 = .ok (.return_, 1) := by decide +kernel
theorem dX1_lineValue_0 : decode cX1_lineValue 0 = .ok (.iload_n 1, 1) := by decide +kernel
theorem dX1_lineValue_1 : decode cX1_lineValue 1 = .ok (.ifCond .lt 19, 3) := by decide +kernel
theorem dX1_lineValue_4 : decode cX1_lineValue 4 = .ok (.iload_n 1, 1) := by decide +kernel
theorem dX1_lineValue_5 : decode cX1_lineValue 5 = .ok (.bipush 60, 2) := by decide +kernel
theorem dX1_lineValue_7 : decode cX1_lineValue 7 = .ok (.if_icmp .ge 13, 3) := by decide +kernel
theorem dX1_lineValue_10 : decode cX1_lineValue 10 = .ok (.iload_n 2, 1) := by decide +kernel
theorem dX1_lineValue_11 : decode cX1_lineValue 11 = .ok (.ifCond .lt 9, 3) := by decide +kernel
theorem dX1_lineValue_14 : decode cX1_lineValue 14 = .ok (.iload_n 2, 1) := by decide +kernel
theorem dX1_lineValue_15 : decode cX1_lineValue 15 = .ok (.bipush 12, 2) := by decide +kernel
theorem dX1_lineValue_17 : decode cX1_lineValue 17 = .ok (.if_icmp .lt 5, 3) := by decide +kernel
theorem dX1_lineValue_20 : decode cX1_lineValue 20 = .ok (.iconst 0, 1) := by decide +kernel
theorem dX1_lineValue_21 : decode cX1_lineValue 21 = .ok (.ireturn, 1) := by decide +kernel
theorem dX1_lineValue_22 : decode cX1_lineValue 22 = .ok (.aload_n 0, 1) := by decide +kernel
theorem dX1_lineValue_23 : decode cX1_lineValue 23 = .ok (.getfield 9, 3) := by decide +kernel
theorem dX1_lineValue_26 : decode cX1_lineValue 26 = .ok (.iload_n 1, 1) := by decide +kernel
theorem dX1_lineValue_27 : decode cX1_lineValue 27 = .ok (.bipush 12, 2) := by decide +kernel
theorem dX1_lineValue_29 : decode cX1_lineValue 29 = .ok (.imul, 1) := by decide +kernel
theorem dX1_lineValue_30 : decode cX1_lineValue 30 = .ok (.iload_n 2, 1) := by decide +kernel
theorem dX1_lineValue_31 : decode cX1_lineValue 31 = .ok (.iadd, 1) := by decide +kernel
theorem dX1_lineValue_32 : decode cX1_lineValue 32 = .ok (.iaload, 1) := by decide +kernel
theorem dX1_lineValue_33 : decode cX1_lineValue 33 = .ok (.ireturn, 1) := by decide +kernel
theorem dX1_pageValue_0 : decode cX1_pageValue 0 = .ok (.iload_n 1, 1) := by decide +kernel
theorem dX1_pageValue_1 : decode cX1_pageValue 1 = .ok (.ifCond .lt 19, 3) := by decide +kernel
theorem dX1_pageValue_4 : decode cX1_pageValue 4 = .ok (.iload_n 1, 1) := by decide +kernel
theorem dX1_pageValue_5 : decode cX1_pageValue 5 = .ok (.bipush 60, 2) := by decide +kernel
theorem dX1_pageValue_7 : decode cX1_pageValue 7 = .ok (.if_icmp .ge 13, 3) := by decide +kernel
theorem dX1_pageValue_10 : decode cX1_pageValue 10 = .ok (.iload_n 2, 1) := by decide +kernel
theorem dX1_pageValue_11 : decode cX1_pageValue 11 = .ok (.ifCond .lt 9, 3) := by decide +kernel
theorem dX1_pageValue_14 : decode cX1_pageValue 14 = .ok (.iload_n 2, 1) := by decide +kernel
theorem dX1_pageValue_15 : decode cX1_pageValue 15 = .ok (.bipush 6, 2) := by decide +kernel
theorem dX1_pageValue_17 : decode cX1_pageValue 17 = .ok (.if_icmp .lt 5, 3) := by decide +kernel
theorem dX1_pageValue_20 : decode cX1_pageValue 20 = .ok (.iconst 0, 1) := by decide +kernel
theorem dX1_pageValue_21 : decode cX1_pageValue 21 = .ok (.ireturn, 1) := by decide +kernel
theorem dX1_pageValue_22 : decode cX1_pageValue 22 = .ok (.aload_n 0, 1) := by decide +kernel
theorem dX1_pageValue_23 : decode cX1_pageValue 23 = .ok (.getfield 15, 3) := by decide +kernel
theorem dX1_pageValue_26 : decode cX1_pageValue 26 = .ok (.iload_n 1, 1) := by decide +kernel
theorem dX1_pageValue_27 : decode cX1_pageValue 27 = .ok (.bipush 6, 2) := by decide +kernel
theorem dX1_pageValue_29 : decode cX1_pageValue 29 = .ok (.imul, 1) := by decide +kernel
theorem dX1_pageValue_30 : decode cX1_pageValue 30 = .ok (.iload_n 2, 1) := by decide +kernel
theorem dX1_pageValue_31 : decode cX1_pageValue 31 = .ok (.iadd, 1) := by decide +kernel
theorem dX1_pageValue_32 : decode cX1_pageValue 32 = .ok (.iaload, 1) := by decide +kernel
theorem dX1_pageValue_33 : decode cX1_pageValue 33 = .ok (.ireturn, 1) := by decide +kernel
theorem dX1_lineOfWord_0 : decode cX1_lineOfWord 0 = .ok (.iload_n 1, 1) := by decide +kernel
theorem dX1_lineOfWord_1 : decode cX1_lineOfWord 1 = .ok (.ifCond .lt 18, 3) := by decide +kernel
theorem dX1_lineOfWord_4 : decode cX1_lineOfWord 4 = .ok (.iload_n 1, 1) := by decide +kernel
theorem dX1_lineOfWord_5 : decode cX1_lineOfWord 5 = .ok (.bipush 60, 2) := by decide +kernel
theorem dX1_lineOfWord_7 : decode cX1_lineOfWord 7 = .ok (.if_icmp .ge 12, 3) := by decide +kernel
theorem dX1_lineOfWord_10 : decode cX1_lineOfWord 10 = .ok (.aload_n 0, 1) := by decide +kernel
theorem dX1_lineOfWord_11 : decode cX1_lineOfWord 11 = .ok (.getfield 18, 3) := by decide +kernel
theorem dX1_lineOfWord_14 : decode cX1_lineOfWord 14 = .ok (.iload_n 1, 1) := by decide +kernel
theorem dX1_lineOfWord_15 : decode cX1_lineOfWord 15 = .ok (.iaload, 1) := by decide +kernel
theorem dX1_lineOfWord_16 : decode cX1_lineOfWord 16 = .ok (.goto 4, 3) := by decide +kernel
theorem dX1_lineOfWord_19 : decode cX1_lineOfWord 19 = .ok (.iconst 0, 1) := by decide +kernel
theorem dX1_lineOfWord_20 : decode cX1_lineOfWord 20 = .ok (.ireturn, 1) := by decide +kernel
set_option maxRecDepth 20000 in
theorem ggX1_lentTo_X1_lineValue : GoodIn wsX1_lentTo wsX1_lineValue := goodIn_r _ [5, 6, 7, 8, 9, 10, 11, 12, 13] (by decide +kernel) (by decide +kernel)
set_option maxRecDepth 20000 in
theorem gX1_lentTo_X1_lineValue : GoodIn wsX1_lentTo (wsV RX1 75 RX1 yX1_lineValue wsX1_lineValue) := goodIn_app (goodIn_of _ (by decide +kernel)) ggX1_lentTo_X1_lineValue
theorem dX1_lentTo_0 : decode cX1_lentTo 0 = .ok (.aload_n 0, 1) := by decide +kernel
theorem dX1_lentTo_1 : decode cX1_lentTo 1 = .ok (.iload_n 1, 1) := by decide +kernel
theorem dX1_lentTo_2 : decode cX1_lentTo 2 = .ok (.iconst 5, 1) := by decide +kernel
theorem dX1_lentTo_3 : decode cX1_lentTo 3 = .ok (.invokevirtual 75, 3) := by decide +kernel
theorem dX1_lentTo_6 : decode cX1_lentTo 6 = .ok (.aload_n 0, 1) := by decide +kernel
theorem dX1_lentTo_7 : decode cX1_lentTo 7 = .ok (.iload_n 1, 1) := by decide +kernel
theorem dX1_lentTo_8 : decode cX1_lentTo 8 = .ok (.bipush 6, 2) := by decide +kernel
theorem dX1_lentTo_10 : decode cX1_lentTo 10 = .ok (.invokevirtual 75, 3) := by decide +kernel
theorem dX1_lentTo_13 : decode cX1_lentTo 13 = .ok (.iadd, 1) := by decide +kernel
theorem dX1_lentTo_14 : decode cX1_lentTo 14 = .ok (.ireturn, 1) := by decide +kernel
set_option maxRecDepth 20000 in
theorem ggX1_sumOf_X1_lineValue : GoodIn wsX1_sumOf wsX1_lineValue := goodIn_r _ [6, 7, 8, 9, 10, 11, 12, 13, 14] (by decide +kernel) (by decide +kernel)
set_option maxRecDepth 20000 in
theorem gX1_sumOf_X1_lineValue : GoodIn wsX1_sumOf (wsV RX1 75 RX1 yX1_lineValue wsX1_lineValue) := goodIn_app (goodIn_of _ (by decide +kernel)) ggX1_sumOf_X1_lineValue
theorem dX1_sumOf_0 : decode cX1_sumOf 0 = .ok (.iconst 0, 1) := by decide +kernel
theorem dX1_sumOf_1 : decode cX1_sumOf 1 = .ok (.istore_n 2, 1) := by decide +kernel
theorem dX1_sumOf_2 : decode cX1_sumOf 2 = .ok (.iconst 0, 1) := by decide +kernel
theorem dX1_sumOf_3 : decode cX1_sumOf 3 = .ok (.istore_n 3, 1) := by decide +kernel
theorem dX1_sumOf_4 : decode cX1_sumOf 4 = .ok (.iload_n 3, 1) := by decide +kernel
theorem dX1_sumOf_5 : decode cX1_sumOf 5 = .ok (.aload_n 0, 1) := by decide +kernel
theorem dX1_sumOf_6 : decode cX1_sumOf 6 = .ok (.getfield 40, 3) := by decide +kernel
theorem dX1_sumOf_9 : decode cX1_sumOf 9 = .ok (.if_icmp .ge 18, 3) := by decide +kernel
theorem dX1_sumOf_12 : decode cX1_sumOf 12 = .ok (.iload_n 2, 1) := by decide +kernel
theorem dX1_sumOf_13 : decode cX1_sumOf 13 = .ok (.aload_n 0, 1) := by decide +kernel
theorem dX1_sumOf_14 : decode cX1_sumOf 14 = .ok (.iload_n 3, 1) := by decide +kernel
theorem dX1_sumOf_15 : decode cX1_sumOf 15 = .ok (.iload_n 1, 1) := by decide +kernel
theorem dX1_sumOf_16 : decode cX1_sumOf 16 = .ok (.invokevirtual 75, 3) := by decide +kernel
theorem dX1_sumOf_19 : decode cX1_sumOf 19 = .ok (.iadd, 1) := by decide +kernel
theorem dX1_sumOf_20 : decode cX1_sumOf 20 = .ok (.istore_n 2, 1) := by decide +kernel
theorem dX1_sumOf_21 : decode cX1_sumOf 21 = .ok (.iinc 3 1, 3) := by decide +kernel
theorem dX1_sumOf_24 : decode cX1_sumOf 24 = .ok (.goto (-20), 3) := by decide +kernel
theorem dX1_sumOf_27 : decode cX1_sumOf 27 = .ok (.iload_n 2, 1) := by decide +kernel
theorem dX1_sumOf_28 : decode cX1_sumOf 28 = .ok (.ireturn, 1) := by decide +kernel
set_option maxRecDepth 20000 in
theorem ggX1_lendingLines_X1_lentTo : GoodIn wsX1_lendingLines wsX1_lentTo := goodIn_r _ [6, 7, 8, 9, 5, 10, 11, 12, 13, 14, 15, 16, 17, 18] (by decide +kernel) (by decide +kernel)
set_option maxRecDepth 20000 in
theorem gX1_lendingLines_X1_lentTo : GoodIn wsX1_lendingLines (wsV RX1 110 RX1 yX1_lentTo wsX1_lentTo) := goodIn_app (goodIn_of _ (by decide +kernel)) ggX1_lendingLines_X1_lentTo
theorem dX1_lendingLines_0 : decode cX1_lendingLines 0 = .ok (.iconst 0, 1) := by decide +kernel
theorem dX1_lendingLines_1 : decode cX1_lendingLines 1 = .ok (.istore_n 1, 1) := by decide +kernel
theorem dX1_lendingLines_2 : decode cX1_lendingLines 2 = .ok (.iconst 0, 1) := by decide +kernel
theorem dX1_lendingLines_3 : decode cX1_lendingLines 3 = .ok (.istore_n 2, 1) := by decide +kernel
theorem dX1_lendingLines_4 : decode cX1_lendingLines 4 = .ok (.iload_n 2, 1) := by decide +kernel
theorem dX1_lendingLines_5 : decode cX1_lendingLines 5 = .ok (.aload_n 0, 1) := by decide +kernel
theorem dX1_lendingLines_6 : decode cX1_lendingLines 6 = .ok (.getfield 40, 3) := by decide +kernel
theorem dX1_lendingLines_9 : decode cX1_lendingLines 9 = .ok (.if_icmp .ge 20, 3) := by decide +kernel
theorem dX1_lendingLines_12 : decode cX1_lendingLines 12 = .ok (.aload_n 0, 1) := by decide +kernel
theorem dX1_lendingLines_13 : decode cX1_lendingLines 13 = .ok (.iload_n 2, 1) := by decide +kernel
theorem dX1_lendingLines_14 : decode cX1_lendingLines 14 = .ok (.invokevirtual 110, 3) := by decide +kernel
theorem dX1_lendingLines_17 : decode cX1_lendingLines 17 = .ok (.ifCond .le 6, 3) := by decide +kernel
theorem dX1_lendingLines_20 : decode cX1_lendingLines 20 = .ok (.iinc 1 1, 3) := by decide +kernel
theorem dX1_lendingLines_23 : decode cX1_lendingLines 23 = .ok (.iinc 2 1, 3) := by decide +kernel
theorem dX1_lendingLines_26 : decode cX1_lendingLines 26 = .ok (.goto (-22), 3) := by decide +kernel
theorem dX1_lendingLines_29 : decode cX1_lendingLines 29 = .ok (.iload_n 1, 1) := by decide +kernel
theorem dX1_lendingLines_30 : decode cX1_lendingLines 30 = .ok (.ireturn, 1) := by decide +kernel
set_option maxRecDepth 20000 in
theorem ggX1_squaresOfEmpty_X1_lineValue : GoodIn wsX1_squaresOfEmpty wsX1_lineValue := goodIn_r _ [6, 7, 8, 9, 10, 11, 12, 13, 14] (by decide +kernel) (by decide +kernel)
set_option maxRecDepth 20000 in
theorem gX1_squaresOfEmpty_X1_lineValue : GoodIn wsX1_squaresOfEmpty (wsV RX1 75 RX1 yX1_lineValue wsX1_lineValue) := goodIn_app (goodIn_of _ (by decide +kernel)) ggX1_squaresOfEmpty_X1_lineValue
theorem dX1_squaresOfEmpty_0 : decode cX1_squaresOfEmpty 0 = .ok (.iconst 0, 1) := by decide +kernel
theorem dX1_squaresOfEmpty_1 : decode cX1_squaresOfEmpty 1 = .ok (.istore_n 1, 1) := by decide +kernel
theorem dX1_squaresOfEmpty_2 : decode cX1_squaresOfEmpty 2 = .ok (.iconst 0, 1) := by decide +kernel
theorem dX1_squaresOfEmpty_3 : decode cX1_squaresOfEmpty 3 = .ok (.istore_n 2, 1) := by decide +kernel
theorem dX1_squaresOfEmpty_4 : decode cX1_squaresOfEmpty 4 = .ok (.iload_n 2, 1) := by decide +kernel
theorem dX1_squaresOfEmpty_5 : decode cX1_squaresOfEmpty 5 = .ok (.aload_n 0, 1) := by decide +kernel
theorem dX1_squaresOfEmpty_6 : decode cX1_squaresOfEmpty 6 = .ok (.getfield 40, 3) := by decide +kernel
theorem dX1_squaresOfEmpty_9 : decode cX1_squaresOfEmpty 9 = .ok (.if_icmp .ge 33, 3) := by decide +kernel
theorem dX1_squaresOfEmpty_12 : decode cX1_squaresOfEmpty 12 = .ok (.aload_n 0, 1) := by decide +kernel
theorem dX1_squaresOfEmpty_13 : decode cX1_squaresOfEmpty 13 = .ok (.iload_n 2, 1) := by decide +kernel
theorem dX1_squaresOfEmpty_14 : decode cX1_squaresOfEmpty 14 = .ok (.bipush 11, 2) := by decide +kernel
theorem dX1_squaresOfEmpty_16 : decode cX1_squaresOfEmpty 16 = .ok (.invokevirtual 75, 3) := by decide +kernel
theorem dX1_squaresOfEmpty_19 : decode cX1_squaresOfEmpty 19 = .ok (.istore_n 3, 1) := by decide +kernel
theorem dX1_squaresOfEmpty_20 : decode cX1_squaresOfEmpty 20 = .ok (.aload_n 0, 1) := by decide +kernel
theorem dX1_squaresOfEmpty_21 : decode cX1_squaresOfEmpty 21 = .ok (.iload_n 2, 1) := by decide +kernel
theorem dX1_squaresOfEmpty_22 : decode cX1_squaresOfEmpty 22 = .ok (.bipush 10, 2) := by decide +kernel
theorem dX1_squaresOfEmpty_24 : decode cX1_squaresOfEmpty 24 = .ok (.invokevirtual 75, 3) := by decide +kernel
theorem dX1_squaresOfEmpty_27 : decode cX1_squaresOfEmpty 27 = .ok (.ifCond .ne 9, 3) := by decide +kernel
theorem dX1_squaresOfEmpty_30 : decode cX1_squaresOfEmpty 30 = .ok (.iload_n 1, 1) := by decide +kernel
theorem dX1_squaresOfEmpty_31 : decode cX1_squaresOfEmpty 31 = .ok (.iload_n 3, 1) := by decide +kernel
theorem dX1_squaresOfEmpty_32 : decode cX1_squaresOfEmpty 32 = .ok (.iload_n 3, 1) := by decide +kernel
theorem dX1_squaresOfEmpty_33 : decode cX1_squaresOfEmpty 33 = .ok (.imul, 1) := by decide +kernel
theorem dX1_squaresOfEmpty_34 : decode cX1_squaresOfEmpty 34 = .ok (.iadd, 1) := by decide +kernel
theorem dX1_squaresOfEmpty_35 : decode cX1_squaresOfEmpty 35 = .ok (.istore_n 1, 1) := by decide +kernel
theorem dX1_squaresOfEmpty_36 : decode cX1_squaresOfEmpty 36 = .ok (.iinc 2 1, 3) := by decide +kernel
theorem dX1_squaresOfEmpty_39 : decode cX1_squaresOfEmpty 39 = .ok (.goto (-35), 3) := by decide +kernel
theorem dX1_squaresOfEmpty_42 : decode cX1_squaresOfEmpty 42 = .ok (.iload_n 1, 1) := by decide +kernel
theorem dX1_squaresOfEmpty_43 : decode cX1_squaresOfEmpty 43 = .ok (.ireturn, 1) := by decide +kernel
theorem dX2_init_0 : decode cX2_init 0 = .ok (.aload_n 0, 1) := by decide +kernel
theorem dX2_init_1 : decode cX2_init 1 = .ok (.invokespecial 3, 3) := by decide +kernel
theorem dX2_init_4 : decode cX2_init 4 = .ok (.return_, 1) := by decide +kernel
theorem dX2_lent_0 : decode cX2_lent 0 = .ok (.aload_n 0, 1) := by decide +kernel
theorem dX2_lent_1 : decode cX2_lent 1 = .ok (.getfield 9, 3) := by decide +kernel
theorem dX2_lent_4 : decode cX2_lent 4 = .ok (.aload_n 0, 1) := by decide +kernel
theorem dX2_lent_5 : decode cX2_lent 5 = .ok (.getfield 15, 3) := by decide +kernel
theorem dX2_lent_8 : decode cX2_lent 8 = .ok (.iadd, 1) := by decide +kernel
theorem dX2_lent_9 : decode cX2_lent 9 = .ok (.ireturn, 1) := by decide +kernel
set_option maxRecDepth 20000 in
theorem ggX2_empty_X2_lent : GoodIn wsX2_empty wsX2_lent := goodIn_r _ [8, 9, 10, 11, 12, 13, 14, 15, 16, 17, 18] (by decide +kernel) (by decide +kernel)
set_option maxRecDepth 20000 in
theorem gX2_empty_X2_lent : GoodIn wsX2_empty (wsV RX2 25 RX2 yX2_lent wsX2_lent) := goodIn_app (goodIn_of _ (by decide +kernel)) ggX2_empty_X2_lent
theorem dX2_empty_0 : decode cX2_empty 0 = .ok (.aload_n 0, 1) := by decide +kernel
theorem dX2_empty_1 : decode cX2_empty 1 = .ok (.getfield 18, 3) := by decide +kernel
theorem dX2_empty_4 : decode cX2_empty 4 = .ok (.ifCond .eq 7, 3) := by decide +kernel
theorem dX2_empty_7 : decode cX2_empty 7 = .ok (.iconst 0, 1) := by decide +kernel
theorem dX2_empty_8 : decode cX2_empty 8 = .ok (.goto 17, 3) := by decide +kernel
theorem dX2_empty_11 : decode cX2_empty 11 = .ok (.aload_n 0, 1) := by decide +kernel
theorem dX2_empty_12 : decode cX2_empty 12 = .ok (.getfield 22, 3) := by decide +kernel
theorem dX2_empty_15 : decode cX2_empty 15 = .ok (.aload_n 0, 1) := by decide +kernel
theorem dX2_empty_16 : decode cX2_empty 16 = .ok (.invokevirtual 25, 3) := by decide +kernel
theorem dX2_empty_19 : decode cX2_empty 19 = .ok (.iadd, 1) := by decide +kernel
theorem dX2_empty_20 : decode cX2_empty 20 = .ok (.aload_n 0, 1) := by decide +kernel
theorem dX2_empty_21 : decode cX2_empty 21 = .ok (.getfield 29, 3) := by decide +kernel
theorem dX2_empty_24 : decode cX2_empty 24 = .ok (.isub, 1) := by decide +kernel
theorem dX2_empty_25 : decode cX2_empty 25 = .ok (.ireturn, 1) := by decide +kernel
set_option maxRecDepth 20000 in
theorem ggX2_choose_X3_widthOf : GoodIn wsX2_choose wsX3_widthOf := goodIn_r _ [16, 17, 18, 19, 20, 21, 22, 15, 23, 24, 25, 26, 27, 28, 77, 78, 79, 80, 81, 82, 83, 84, 85] (by decide +kernel) (by decide +kernel)
set_option maxRecDepth 20000 in
theorem gX2_choose_X3_widthOf : GoodIn wsX2_choose (wsV RX2 41 RX3 yX3_widthOf wsX3_widthOf) := goodIn_app (goodIn_of _ (by decide +kernel)) ggX2_choose_X3_widthOf
set_option maxRecDepth 20000 in
theorem ggX2_choose_X2_takeFirstAlone : GoodIn wsX2_choose wsX2_takeFirstAlone := goodIn_r _ [33, 34, 35, 36, 37, 38, 69, 70, 71, 72, 73, 74, 75, 76] (by decide +kernel) (by decide +kernel)
set_option maxRecDepth 20000 in
theorem gX2_choose_X2_takeFirstAlone : GoodIn wsX2_choose (wsV RX2 47 RX2 yX2_takeFirstAlone wsX2_takeFirstAlone) := goodIn_app (goodIn_of _ (by decide +kernel)) ggX2_choose_X2_takeFirstAlone
set_option maxRecDepth 20000 in
theorem ggX2_choose_X3_aheadOf : GoodIn wsX2_choose wsX3_aheadOf := goodIn_r _ [42, 18, 20, 21, 22, 15, 23, 24, 77, 78, 79, 80, 81, 82, 83, 84, 85] (by decide +kernel) (by decide +kernel)
set_option maxRecDepth 20000 in
theorem gX2_choose_X3_aheadOf : GoodIn wsX2_choose (wsV RX2 51 RX3 yX3_aheadOf wsX3_aheadOf) := goodIn_app (goodIn_of _ (by decide +kernel)) ggX2_choose_X3_aheadOf
set_option maxRecDepth 20000 in
theorem ggX2_choose_X3_overhang : GoodIn wsX2_choose wsX3_overhang := goodIn_r _ [46, 25, 26, 27, 28, 47, 48, 49, 15, 50, 51, 77, 78, 79, 80, 81, 82, 83, 84, 85] (by decide +kernel) (by decide +kernel)
set_option maxRecDepth 20000 in
theorem gX2_choose_X3_overhang : GoodIn wsX2_choose (wsV RX2 54 RX3 yX3_overhang wsX3_overhang) := goodIn_app (goodIn_of _ (by decide +kernel)) ggX2_choose_X3_overhang
set_option maxRecDepth 20000 in
theorem ggX2_choose_X3_behindOf : GoodIn wsX2_choose wsX3_behindOf := goodIn_r _ [55, 19, 20, 21, 22, 15, 23, 24, 77, 78, 79, 80, 81, 82, 83, 84, 85] (by decide +kernel) (by decide +kernel)
set_option maxRecDepth 20000 in
theorem gX2_choose_X3_behindOf : GoodIn wsX2_choose (wsV RX2 63 RX3 yX3_behindOf wsX3_behindOf) := goodIn_app (goodIn_of _ (by decide +kernel)) ggX2_choose_X3_behindOf
set_option maxRecDepth 20000 in
theorem ggX2_choose_X2_take : GoodIn wsX2_choose wsX2_take := goodIn_r _ [59, 34, 35, 1, 2, 3, 4, 37, 36, 38, 69, 70, 71, 72, 73, 74, 75, 76] (by decide +kernel) (by decide +kernel)
set_option maxRecDepth 20000 in
theorem gX2_choose_X2_take : GoodIn wsX2_choose (wsV RX2 66 RX2 yX2_take wsX2_take) := goodIn_app (goodIn_of _ (by decide +kernel)) ggX2_choose_X2_take
set_option maxRecDepth 20000 in
theorem ggX2_choose_X3_endsParagraph : GoodIn wsX2_choose wsX3_endsParagraph := goodIn_r _ [63, 64, 24, 20, 21, 22, 15, 23, 77, 78, 79, 80, 81, 82, 83, 84, 85] (by decide +kernel) (by decide +kernel)
set_option maxRecDepth 20000 in
theorem gX2_choose_X3_endsParagraph : GoodIn wsX2_choose (wsV RX2 70 RX3 yX3_endsParagraph wsX3_endsParagraph) := goodIn_app (goodIn_of _ (by decide +kernel)) ggX2_choose_X3_endsParagraph
set_option maxRecDepth 20000 in
theorem ggX2_choose_X2_lent : GoodIn wsX2_choose wsX2_lent := goodIn_r _ [68, 36, 37, 69, 70, 71, 72, 73, 74, 75, 76] (by decide +kernel) (by decide +kernel)
set_option maxRecDepth 20000 in
theorem gX2_choose_X2_lent : GoodIn wsX2_choose (wsV RX2 25 RX2 yX2_lent wsX2_lent) := goodIn_app (goodIn_of _ (by decide +kernel)) ggX2_choose_X2_lent
theorem dX2_choose_0 : decode cX2_choose 0 = .ok (.aload_n 0, 1) := by decide +kernel
theorem dX2_choose_1 : decode cX2_choose 1 = .ok (.iload 4, 2) := by decide +kernel
theorem dX2_choose_3 : decode cX2_choose 3 = .ok (.aload_n 2, 1) := by decide +kernel
theorem dX2_choose_4 : decode cX2_choose 4 = .ok (.iconst 4, 1) := by decide +kernel
theorem dX2_choose_5 : decode cX2_choose 5 = .ok (.iaload, 1) := by decide +kernel
theorem dX2_choose_6 : decode cX2_choose 6 = .ok (.invokestatic 32, 3) := by decide +kernel
theorem dX2_choose_9 : decode cX2_choose 9 = .ok (.putfield 38, 3) := by decide +kernel
theorem dX2_choose_12 : decode cX2_choose 12 = .ok (.aload_n 0, 1) := by decide +kernel
theorem dX2_choose_13 : decode cX2_choose 13 = .ok (.aload_n 2, 1) := by decide +kernel
theorem dX2_choose_14 : decode cX2_choose 14 = .ok (.iconst 0, 1) := by decide +kernel
theorem dX2_choose_15 : decode cX2_choose 15 = .ok (.iaload, 1) := by decide +kernel
theorem dX2_choose_16 : decode cX2_choose 16 = .ok (.aload_n 0, 1) := by decide +kernel
theorem dX2_choose_17 : decode cX2_choose 17 = .ok (.getfield 38, 3) := by decide +kernel
theorem dX2_choose_20 : decode cX2_choose 20 = .ok (.isub, 1) := by decide +kernel
theorem dX2_choose_21 : decode cX2_choose 21 = .ok (.putfield 22, 3) := by decide +kernel
theorem dX2_choose_24 : decode cX2_choose 24 = .ok (.aload_n 0, 1) := by decide +kernel
theorem dX2_choose_25 : decode cX2_choose 25 = .ok (.aload_n 1, 1) := by decide +kernel
theorem dX2_choose_26 : decode cX2_choose 26 = .ok (.iload_n 3, 1) := by decide +kernel
theorem dX2_choose_27 : decode cX2_choose 27 = .ok (.invokevirtual 41, 3) := by decide +kernel
theorem dX2_choose_30 : decode cX2_choose 30 = .ok (.invokevirtual 47, 3) := by decide +kernel
theorem dX2_choose_33 : decode cX2_choose 33 = .ok (.iload 4, 2) := by decide +kernel
theorem dX2_choose_35 : decode cX2_choose 35 = .ok (.aload_n 0, 1) := by decide +kernel
theorem dX2_choose_36 : decode cX2_choose 36 = .ok (.getfield 38, 3) := by decide +kernel
theorem dX2_choose_39 : decode cX2_choose 39 = .ok (.isub, 1) := by decide +kernel
theorem dX2_choose_40 : decode cX2_choose 40 = .ok (.istore 6, 2) := by decide +kernel
theorem dX2_choose_42 : decode cX2_choose 42 = .ok (.aload_n 2, 1) := by decide +kernel
theorem dX2_choose_43 : decode cX2_choose 43 = .ok (.iconst 4, 1) := by decide +kernel
theorem dX2_choose_44 : decode cX2_choose 44 = .ok (.iaload, 1) := by decide +kernel
theorem dX2_choose_45 : decode cX2_choose 45 = .ok (.iload 5, 2) := by decide +kernel
theorem dX2_choose_47 : decode cX2_choose 47 = .ok (.imul, 1) := by decide +kernel
theorem dX2_choose_48 : decode cX2_choose 48 = .ok (.iload 6, 2) := by decide +kernel
theorem dX2_choose_50 : decode cX2_choose 50 = .ok (.isub, 1) := by decide +kernel
theorem dX2_choose_51 : decode cX2_choose 51 = .ok (.istore 7, 2) := by decide +kernel
theorem dX2_choose_53 : decode cX2_choose 53 = .ok (.aload_n 1, 1) := by decide +kernel
theorem dX2_choose_54 : decode cX2_choose 54 = .ok (.aload_n 1, 1) := by decide +kernel
theorem dX2_choose_55 : decode cX2_choose 55 = .ok (.iload_n 3, 1) := by decide +kernel
theorem dX2_choose_56 : decode cX2_choose 56 = .ok (.invokevirtual 51, 3) := by decide +kernel
theorem dX2_choose_59 : decode cX2_choose 59 = .ok (.invokevirtual 54, 3) := by decide +kernel
theorem dX2_choose_62 : decode cX2_choose 62 = .ok (.aload_n 2, 1) := by decide +kernel
theorem dX2_choose_63 : decode cX2_choose 63 = .ok (.iconst 2, 1) := by decide +kernel
theorem dX2_choose_64 : decode cX2_choose 64 = .ok (.iaload, 1) := by decide +kernel
theorem dX2_choose_65 : decode cX2_choose 65 = .ok (.invokestatic 32, 3) := by decide +kernel
theorem dX2_choose_68 : decode cX2_choose 68 = .ok (.istore 8, 2) := by decide +kernel
theorem dX2_choose_70 : decode cX2_choose 70 = .ok (.bipush (-2), 2) := by decide +kernel
theorem dX2_choose_72 : decode cX2_choose 72 = .ok (.istore 9, 2) := by decide +kernel
theorem dX2_choose_74 : decode cX2_choose 74 = .ok (.iload_n 3, 1) := by decide +kernel
theorem dX2_choose_75 : decode cX2_choose 75 = .ok (.istore 10, 2) := by decide +kernel
theorem dX2_choose_77 : decode cX2_choose 77 = .ok (.iload 10, 2) := by decide +kernel
theorem dX2_choose_79 : decode cX2_choose 79 = .ok (.aload_n 1, 1) := by decide +kernel
theorem dX2_choose_80 : decode cX2_choose 80 = .ok (.getfield 57, 3) := by decide +kernel
theorem dX2_choose_83 : decode cX2_choose 83 = .ok (.if_icmp .ge 118, 3) := by decide +kernel
theorem dX2_choose_86 : decode cX2_choose 86 = .ok (.iload 9, 2) := by decide +kernel

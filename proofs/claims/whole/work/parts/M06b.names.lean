theorem dX6_row_294 : decode cX6_row 294 = .ok (.goto 4, 3) := by decide +kernel
theorem dX6_row_297 : decode cX6_row 297 = .ok (.iconst 1, 1) := by decide +kernel
theorem dX6_row_298 : decode cX6_row 298 = .ok (.iastore, 1) := by decide +kernel
theorem dX6_row_299 : decode cX6_row 299 = .ok (.aload_n 0, 1) := by decide +kernel
theorem dX6_row_300 : decode cX6_row 300 = .ok (.iload 11, 2) := by decide +kernel
theorem dX6_row_302 : decode cX6_row 302 = .ok (.bipush 15, 2) := by decide +kernel
theorem dX6_row_304 : decode cX6_row 304 = .ok (.invokevirtual 43, 3) := by decide +kernel
theorem dX6_row_307 : decode cX6_row 307 = .ok (.ifCond .ne 7, 3) := by decide +kernel
theorem dX6_row_310 : decode cX6_row 310 = .ok (.iconst 1, 1) := by decide +kernel
theorem dX6_row_311 : decode cX6_row 311 = .ok (.goto 4, 3) := by decide +kernel
theorem dX6_row_314 : decode cX6_row 314 = .ok (.iconst 0, 1) := by decide +kernel
theorem dX6_row_315 : decode cX6_row 315 = .ok (.istore 10, 2) := by decide +kernel
theorem dX6_row_317 : decode cX6_row 317 = .ok (.iinc 11 1, 3) := by decide +kernel
theorem dX6_row_320 : decode cX6_row 320 = .ok (.goto (-251), 3) := by decide +kernel
theorem dX6_row_323 : decode cX6_row 323 = .ok (.aload_n 0, 1) := by decide +kernel
theorem dX6_row_324 : decode cX6_row 324 = .ok (.getfield 22, 3) := by decide +kernel
theorem dX6_row_327 : decode cX6_row 327 = .ok (.iload 4, 2) := by decide +kernel
theorem dX6_row_329 : decode cX6_row 329 = .ok (.aload_n 0, 1) := by decide +kernel
theorem dX6_row_330 : decode cX6_row 330 = .ok (.getfield 71, 3) := by decide +kernel
theorem dX6_row_333 : decode cX6_row 333 = .ok (.iastore, 1) := by decide +kernel
theorem dX6_row_334 : decode cX6_row 334 = .ok (.aload_n 0, 1) := by decide +kernel
theorem dX6_row_335 : decode cX6_row 335 = .ok (.getfield 22, 3) := by decide +kernel
theorem dX6_row_338 : decode cX6_row 338 = .ok (.iload 4, 2) := by decide +kernel
theorem dX6_row_340 : decode cX6_row 340 = .ok (.iconst 1, 1) := by decide +kernel
theorem dX6_row_341 : decode cX6_row 341 = .ok (.iadd, 1) := by decide +kernel
theorem dX6_row_342 : decode cX6_row 342 = .ok (.iload_n 1, 1) := by decide +kernel
theorem dX6_row_343 : decode cX6_row 343 = .ok (.iastore, 1) := by decide +kernel
theorem dX6_row_344 : decode cX6_row 344 = .ok (.aload_n 0, 1) := by decide +kernel
theorem dX6_row_345 : decode cX6_row 345 = .ok (.getfield 22, 3) := by decide +kernel
theorem dX6_row_348 : decode cX6_row 348 = .ok (.iload 4, 2) := by decide +kernel
theorem dX6_row_350 : decode cX6_row 350 = .ok (.iconst 2, 1) := by decide +kernel
theorem dX6_row_351 : decode cX6_row 351 = .ok (.iadd, 1) := by decide +kernel
theorem dX6_row_352 : decode cX6_row 352 = .ok (.iload 9, 2) := by decide +kernel
theorem dX6_row_354 : decode cX6_row 354 = .ok (.iastore, 1) := by decide +kernel
theorem dX6_row_355 : decode cX6_row 355 = .ok (.aload_n 0, 1) := by decide +kernel
theorem dX6_row_356 : decode cX6_row 356 = .ok (.getfield 22, 3) := by decide +kernel
theorem dX6_row_359 : decode cX6_row 359 = .ok (.iload 4, 2) := by decide +kernel
theorem dX6_row_361 : decode cX6_row 361 = .ok (.iconst 4, 1) := by decide +kernel
theorem dX6_row_362 : decode cX6_row 362 = .ok (.iadd, 1) := by decide +kernel
theorem dX6_row_363 : decode cX6_row 363 = .ok (.iload 6, 2) := by decide +kernel
theorem dX6_row_365 : decode cX6_row 365 = .ok (.iastore, 1) := by decide +kernel
theorem dX6_row_366 : decode cX6_row 366 = .ok (.aload_n 0, 1) := by decide +kernel
theorem dX6_row_367 : decode cX6_row 367 = .ok (.getfield 22, 3) := by decide +kernel
theorem dX6_row_370 : decode cX6_row 370 = .ok (.iload 4, 2) := by decide +kernel
theorem dX6_row_372 : decode cX6_row 372 = .ok (.bipush 7, 2) := by decide +kernel
theorem dX6_row_374 : decode cX6_row 374 = .ok (.iadd, 1) := by decide +kernel
theorem dX6_row_375 : decode cX6_row 375 = .ok (.iload 5, 2) := by decide +kernel
theorem dX6_row_377 : decode cX6_row 377 = .ok (.iastore, 1) := by decide +kernel
theorem dX6_row_378 : decode cX6_row 378 = .ok (.aload_n 0, 1) := by decide +kernel
theorem dX6_row_379 : decode cX6_row 379 = .ok (.getfield 22, 3) := by decide +kernel
theorem dX6_row_382 : decode cX6_row 382 = .ok (.iload 4, 2) := by decide +kernel
theorem dX6_row_384 : decode cX6_row 384 = .ok (.bipush 8, 2) := by decide +kernel
theorem dX6_row_386 : decode cX6_row 386 = .ok (.iadd, 1) := by decide +kernel
theorem dX6_row_387 : decode cX6_row 387 = .ok (.iload_n 2, 1) := by decide +kernel
theorem dX6_row_388 : decode cX6_row 388 = .ok (.iload 5, 2) := by decide +kernel
theorem dX6_row_390 : decode cX6_row 390 = .ok (.isub, 1) := by decide +kernel
theorem dX6_row_391 : decode cX6_row 391 = .ok (.aload_n 0, 1) := by decide +kernel
theorem dX6_row_392 : decode cX6_row 392 = .ok (.getfield 22, 3) := by decide +kernel
theorem dX6_row_395 : decode cX6_row 395 = .ok (.iload 4, 2) := by decide +kernel
theorem dX6_row_397 : decode cX6_row 397 = .ok (.iconst 5, 1) := by decide +kernel
theorem dX6_row_398 : decode cX6_row 398 = .ok (.iadd, 1) := by decide +kernel
theorem dX6_row_399 : decode cX6_row 399 = .ok (.iaload, 1) := by decide +kernel
theorem dX6_row_400 : decode cX6_row 400 = .ok (.iadd, 1) := by decide +kernel
theorem dX6_row_401 : decode cX6_row 401 = .ok (.aload_n 0, 1) := by decide +kernel
theorem dX6_row_402 : decode cX6_row 402 = .ok (.getfield 22, 3) := by decide +kernel
theorem dX6_row_405 : decode cX6_row 405 = .ok (.iload 4, 2) := by decide +kernel
theorem dX6_row_407 : decode cX6_row 407 = .ok (.bipush 6, 2) := by decide +kernel
theorem dX6_row_409 : decode cX6_row 409 = .ok (.iadd, 1) := by decide +kernel
theorem dX6_row_410 : decode cX6_row 410 = .ok (.iaload, 1) := by decide +kernel
theorem dX6_row_411 : decode cX6_row 411 = .ok (.iadd, 1) := by decide +kernel
theorem dX6_row_412 : decode cX6_row 412 = .ok (.iastore, 1) := by decide +kernel
theorem dX6_row_413 : decode cX6_row 413 = .ok (.iload 9, 2) := by decide +kernel
theorem dX6_row_415 : decode cX6_row 415 = .ok (.ireturn, 1) := by decide +kernel
set_option maxRecDepth 20000 in
theorem ggX6_setPage_X6_row : GoodIn wsX6_setPage wsX6_row := goodIn_r _ [10, 1, 2, 11, 12, 13, 3, 5, 14, 15, 16, 9, 17, 18, 19, 20, 21, 22, 23, 24, 25, 26, 27, 28, 29, 30, 31, 36, 37, 38, 39, 40, 41, 42, 43, 44, 45, 46, 47, 48, 49, 50, 51] (by decide +kernel) (by decide +kernel)
set_option maxRecDepth 20000 in
theorem gX6_setPage_X6_row : GoodIn wsX6_setPage (wsV RX6 74 RX6 yX6_row wsX6_row) := goodIn_app (goodIn_of _ (by decide +kernel)) ggX6_setPage_X6_row
set_option maxRecDepth 20000 in
theorem ggX6_setPage_X6_endsOne : GoodIn wsX6_setPage wsX6_endsOne := goodIn_r _ [35, 2, 14, 15, 16, 9, 17, 36, 37, 38, 39, 40, 41, 42, 43, 44, 45, 46, 47, 48, 49, 50, 51] (by decide +kernel) (by decide +kernel)
set_option maxRecDepth 20000 in
theorem gX6_setPage_X6_endsOne : GoodIn wsX6_setPage (wsV RX6 78 RX6 yX6_endsOne wsX6_endsOne) := goodIn_app (goodIn_of _ (by decide +kernel)) ggX6_setPage_X6_endsOne
theorem dX6_setPage_0 : decode cX6_setPage 0 = .ok (.iload_n 1, 1) := by decide +kernel
theorem dX6_setPage_1 : decode cX6_setPage 1 = .ok (.istore_n 2, 1) := by decide +kernel
theorem dX6_setPage_2 : decode cX6_setPage 2 = .ok (.iconst 0, 1) := by decide +kernel
theorem dX6_setPage_3 : decode cX6_setPage 3 = .ok (.istore_n 3, 1) := by decide +kernel
theorem dX6_setPage_4 : decode cX6_setPage 4 = .ok (.iconst 0, 1) := by decide +kernel
theorem dX6_setPage_5 : decode cX6_setPage 5 = .ok (.istore 4, 2) := by decide +kernel
theorem dX6_setPage_7 : decode cX6_setPage 7 = .ok (.aload_n 0, 1) := by decide +kernel
theorem dX6_setPage_8 : decode cX6_setPage 8 = .ok (.getfield 53, 3) := by decide +kernel
theorem dX6_setPage_11 : decode cX6_setPage 11 = .ok (.istore 5, 2) := by decide +kernel
theorem dX6_setPage_13 : decode cX6_setPage 13 = .ok (.iload_n 2, 1) := by decide +kernel
theorem dX6_setPage_14 : decode cX6_setPage 14 = .ok (.aload_n 0, 1) := by decide +kernel
theorem dX6_setPage_15 : decode cX6_setPage 15 = .ok (.getfield 7, 3) := by decide +kernel
theorem dX6_setPage_18 : decode cX6_setPage 18 = .ok (.bipush 14, 2) := by decide +kernel
theorem dX6_setPage_20 : decode cX6_setPage 20 = .ok (.iaload, 1) := by decide +kernel
theorem dX6_setPage_21 : decode cX6_setPage 21 = .ok (.if_icmp .ge 66, 3) := by decide +kernel
theorem dX6_setPage_24 : decode cX6_setPage 24 = .ok (.iload 4, 2) := by decide +kernel
theorem dX6_setPage_26 : decode cX6_setPage 26 = .ok (.aload_n 0, 1) := by decide +kernel
theorem dX6_setPage_27 : decode cX6_setPage 27 = .ok (.getfield 7, 3) := by decide +kernel
theorem dX6_setPage_30 : decode cX6_setPage 30 = .ok (.iconst 1, 1) := by decide +kernel
theorem dX6_setPage_31 : decode cX6_setPage 31 = .ok (.iaload, 1) := by decide +kernel
theorem dX6_setPage_32 : decode cX6_setPage 32 = .ok (.if_icmp .ge 55, 3) := by decide +kernel
theorem dX6_setPage_35 : decode cX6_setPage 35 = .ok (.iload_n 2, 1) := by decide +kernel
theorem dX6_setPage_36 : decode cX6_setPage 36 = .ok (.aload_n 0, 1) := by decide +kernel
theorem dX6_setPage_37 : decode cX6_setPage 37 = .ok (.iload_n 2, 1) := by decide +kernel
theorem dX6_setPage_38 : decode cX6_setPage 38 = .ok (.iload_n 3, 1) := by decide +kernel
theorem dX6_setPage_39 : decode cX6_setPage 39 = .ok (.aload_n 0, 1) := by decide +kernel
theorem dX6_setPage_40 : decode cX6_setPage 40 = .ok (.getfield 7, 3) := by decide +kernel
theorem dX6_setPage_43 : decode cX6_setPage 43 = .ok (.iconst 1, 1) := by decide +kernel
theorem dX6_setPage_44 : decode cX6_setPage 44 = .ok (.iaload, 1) := by decide +kernel
theorem dX6_setPage_45 : decode cX6_setPage 45 = .ok (.iconst 1, 1) := by decide +kernel
theorem dX6_setPage_46 : decode cX6_setPage 46 = .ok (.isub, 1) := by decide +kernel
theorem dX6_setPage_47 : decode cX6_setPage 47 = .ok (.iload 4, 2) := by decide +kernel
theorem dX6_setPage_49 : decode cX6_setPage 49 = .ok (.isub, 1) := by decide +kernel
theorem dX6_setPage_50 : decode cX6_setPage 50 = .ok (.invokevirtual 74, 3) := by decide +kernel
theorem dX6_setPage_53 : decode cX6_setPage 53 = .ok (.iadd, 1) := by decide +kernel
theorem dX6_setPage_54 : decode cX6_setPage 54 = .ok (.istore_n 2, 1) := by decide +kernel
theorem dX6_setPage_55 : decode cX6_setPage 55 = .ok (.aload_n 0, 1) := by decide +kernel
theorem dX6_setPage_56 : decode cX6_setPage 56 = .ok (.getfield 22, 3) := by decide +kernel
theorem dX6_setPage_59 : decode cX6_setPage 59 = .ok (.bipush 10, 2) := by decide +kernel
theorem dX6_setPage_61 : decode cX6_setPage 61 = .ok (.aload_n 0, 1) := by decide +kernel
theorem dX6_setPage_62 : decode cX6_setPage 62 = .ok (.getfield 53, 3) := by decide +kernel
theorem dX6_setPage_65 : decode cX6_setPage 65 = .ok (.imul, 1) := by decide +kernel
theorem dX6_setPage_66 : decode cX6_setPage 66 = .ok (.bipush 8, 2) := by decide +kernel
theorem dX6_setPage_68 : decode cX6_setPage 68 = .ok (.iadd, 1) := by decide +kernel
theorem dX6_setPage_69 : decode cX6_setPage 69 = .ok (.iaload, 1) := by decide +kernel
theorem dX6_setPage_70 : decode cX6_setPage 70 = .ok (.istore_n 3, 1) := by decide +kernel
theorem dX6_setPage_71 : decode cX6_setPage 71 = .ok (.aload_n 0, 1) := by decide +kernel
theorem dX6_setPage_72 : decode cX6_setPage 72 = .ok (.dup, 1) := by decide +kernel
theorem dX6_setPage_73 : decode cX6_setPage 73 = .ok (.getfield 53, 3) := by decide +kernel
theorem dX6_setPage_76 : decode cX6_setPage 76 = .ok (.iconst 1, 1) := by decide +kernel
theorem dX6_setPage_77 : decode cX6_setPage 77 = .ok (.iadd, 1) := by decide +kernel
theorem dX6_setPage_78 : decode cX6_setPage 78 = .ok (.putfield 53, 3) := by decide +kernel
theorem dX6_setPage_81 : decode cX6_setPage 81 = .ok (.iinc 4 1, 3) := by decide +kernel
theorem dX6_setPage_84 : decode cX6_setPage 84 = .ok (.goto (-71), 3) := by decide +kernel
theorem dX6_setPage_87 : decode cX6_setPage 87 = .ok (.iconst 0, 1) := by decide +kernel
theorem dX6_setPage_88 : decode cX6_setPage 88 = .ok (.istore 6, 2) := by decide +kernel
theorem dX6_setPage_90 : decode cX6_setPage 90 = .ok (.aload_n 0, 1) := by decide +kernel
theorem dX6_setPage_91 : decode cX6_setPage 91 = .ok (.getfield 7, 3) := by decide +kernel
theorem dX6_setPage_94 : decode cX6_setPage 94 = .ok (.iconst 5, 1) := by decide +kernel
theorem dX6_setPage_95 : decode cX6_setPage 95 = .ok (.iaload, 1) := by decide +kernel
theorem dX6_setPage_96 : decode cX6_setPage 96 = .ok (.iconst 1, 1) := by decide +kernel
theorem dX6_setPage_97 : decode cX6_setPage 97 = .ok (.if_icmp .ne 63, 3) := by decide +kernel
theorem dX6_setPage_100 : decode cX6_setPage 100 = .ok (.iload 4, 2) := by decide +kernel
theorem dX6_setPage_102 : decode cX6_setPage 102 = .ok (.aload_n 0, 1) := by decide +kernel
theorem dX6_setPage_103 : decode cX6_setPage 103 = .ok (.getfield 7, 3) := by decide +kernel
theorem dX6_setPage_106 : decode cX6_setPage 106 = .ok (.iconst 1, 1) := by decide +kernel
theorem dX6_setPage_107 : decode cX6_setPage 107 = .ok (.iaload, 1) := by decide +kernel
theorem dX6_setPage_108 : decode cX6_setPage 108 = .ok (.if_icmp .ne 52, 3) := by decide +kernel
theorem dX6_setPage_111 : decode cX6_setPage 111 = .ok (.iload_n 2, 1) := by decide +kernel
theorem dX6_setPage_112 : decode cX6_setPage 112 = .ok (.aload_n 0, 1) := by decide +kernel
theorem dX6_setPage_113 : decode cX6_setPage 113 = .ok (.getfield 7, 3) := by decide +kernel
theorem dX6_setPage_116 : decode cX6_setPage 116 = .ok (.bipush 14, 2) := by decide +kernel
theorem dX6_setPage_118 : decode cX6_setPage 118 = .ok (.iaload, 1) := by decide +kernel
theorem dX6_setPage_119 : decode cX6_setPage 119 = .ok (.if_icmp .ge 41, 3) := by decide +kernel
theorem dX6_setPage_122 : decode cX6_setPage 122 = .ok (.aload_n 0, 1) := by decide +kernel
theorem dX6_setPage_123 : decode cX6_setPage 123 = .ok (.iload_n 2, 1) := by decide +kernel
theorem dX6_setPage_124 : decode cX6_setPage 124 = .ok (.iconst 1, 1) := by decide +kernel
theorem dX6_setPage_125 : decode cX6_setPage 125 = .ok (.isub, 1) := by decide +kernel
theorem dX6_setPage_126 : decode cX6_setPage 126 = .ok (.invokevirtual 78, 3) := by decide +kernel
theorem dX6_setPage_129 : decode cX6_setPage 129 = .ok (.ifCond .ne 31, 3) := by decide +kernel
theorem dX6_setPage_132 : decode cX6_setPage 132 = .ok (.aload_n 0, 1) := by decide +kernel
theorem dX6_setPage_133 : decode cX6_setPage 133 = .ok (.iload_n 2, 1) := by decide +kernel
theorem dX6_setPage_134 : decode cX6_setPage 134 = .ok (.iconst 0, 1) := by decide +kernel
theorem dX6_setPage_135 : decode cX6_setPage 135 = .ok (.aload_n 0, 1) := by decide +kernel
theorem dX6_setPage_136 : decode cX6_setPage 136 = .ok (.getfield 7, 3) := by decide +kernel
theorem dX6_setPage_139 : decode cX6_setPage 139 = .ok (.iconst 1, 1) := by decide +kernel
theorem dX6_setPage_140 : decode cX6_setPage 140 = .ok (.iaload, 1) := by decide +kernel
theorem dX6_setPage_141 : decode cX6_setPage 141 = .ok (.iconst 1, 1) := by decide +kernel
theorem dX6_setPage_142 : decode cX6_setPage 142 = .ok (.isub, 1) := by decide +kernel
theorem dX6_setPage_143 : decode cX6_setPage 143 = .ok (.invokevirtual 74, 3) := by decide +kernel
theorem dX6_setPage_146 : decode cX6_setPage 146 = .ok (.istore 7, 2) := by decide +kernel
theorem dX6_setPage_148 : decode cX6_setPage 148 = .ok (.aload_n 0, 1) := by decide +kernel
theorem dX6_setPage_149 : decode cX6_setPage 149 = .ok (.iload_n 2, 1) := by decide +kernel
theorem dX6_setPage_150 : decode cX6_setPage 150 = .ok (.iload 7, 2) := by decide +kernel
theorem dX6_setPage_152 : decode cX6_setPage 152 = .ok (.iadd, 1) := by decide +kernel
theorem dX6_setPage_153 : decode cX6_setPage 153 = .ok (.iconst 1, 1) := by decide +kernel
theorem dX6_setPage_154 : decode cX6_setPage 154 = .ok (.isub, 1) := by decide +kernel
theorem dX6_setPage_155 : decode cX6_setPage 155 = .ok (.invokevirtual 78, 3) := by decide +kernel
theorem dX6_setPage_158 : decode cX6_setPage 158 = .ok (.istore 6, 2) := by decide +kernel
theorem dX6_setPage_160 : decode cX6_setPage 160 = .ok (.aload_n 0, 1) := by decide +kernel
theorem dX6_setPage_161 : decode cX6_setPage 161 = .ok (.dup, 1) := by decide +kernel
theorem dX6_setPage_162 : decode cX6_setPage 162 = .ok (.getfield 53, 3) := by decide +kernel
theorem dX6_setPage_165 : decode cX6_setPage 165 = .ok (.iload 6, 2) := by decide +kernel
theorem dX6_setPage_167 : decode cX6_setPage 167 = .ok (.ifCond .eq 7, 3) := by decide +kernel
theorem dX6_setPage_170 : decode cX6_setPage 170 = .ok (.iconst 1, 1) := by decide +kernel
theorem dX6_setPage_171 : decode cX6_setPage 171 = .ok (.goto 4, 3) := by decide +kernel
theorem dX6_setPage_174 : decode cX6_setPage 174 = .ok (.iconst 0, 1) := by decide +kernel
theorem dX6_setPage_175 : decode cX6_setPage 175 = .ok (.isub, 1) := by decide +kernel
theorem dX6_setPage_176 : decode cX6_setPage 176 = .ok (.putfield 53, 3) := by decide +kernel
theorem dX6_setPage_179 : decode cX6_setPage 179 = .ok (.aload_n 0, 1) := by decide +kernel
theorem dX6_setPage_180 : decode cX6_setPage 180 = .ok (.getfield 25, 3) := by decide +kernel
theorem dX6_setPage_183 : decode cX6_setPage 183 = .ok (.iconst 3, 1) := by decide +kernel
theorem dX6_setPage_184 : decode cX6_setPage 184 = .ok (.aload_n 0, 1) := by decide +kernel
theorem dX6_setPage_185 : decode cX6_setPage 185 = .ok (.getfield 71, 3) := by decide +kernel
theorem dX6_setPage_188 : decode cX6_setPage 188 = .ok (.imul, 1) := by decide +kernel
theorem dX6_setPage_189 : decode cX6_setPage 189 = .ok (.iload 5, 2) := by decide +kernel
theorem dX6_setPage_191 : decode cX6_setPage 191 = .ok (.iastore, 1) := by decide +kernel
theorem dX6_setPage_192 : decode cX6_setPage 192 = .ok (.aload_n 0, 1) := by decide +kernel
theorem dX6_setPage_193 : decode cX6_setPage 193 = .ok (.getfield 25, 3) := by decide +kernel
theorem dX6_setPage_196 : decode cX6_setPage 196 = .ok (.iconst 3, 1) := by decide +kernel
theorem dX6_setPage_197 : decode cX6_setPage 197 = .ok (.aload_n 0, 1) := by decide +kernel
theorem dX6_setPage_198 : decode cX6_setPage 198 = .ok (.getfield 71, 3) := by decide +kernel
theorem dX6_setPage_201 : decode cX6_setPage 201 = .ok (.imul, 1) := by decide +kernel
theorem dX6_setPage_202 : decode cX6_setPage 202 = .ok (.iconst 1, 1) := by decide +kernel
theorem dX6_setPage_203 : decode cX6_setPage 203 = .ok (.iadd, 1) := by decide +kernel
theorem dX6_setPage_204 : decode cX6_setPage 204 = .ok (.aload_n 0, 1) := by decide +kernel
theorem dX6_setPage_205 : decode cX6_setPage 205 = .ok (.getfield 53, 3) := by decide +kernel
theorem dX6_setPage_208 : decode cX6_setPage 208 = .ok (.iload 5, 2) := by decide +kernel
theorem dX6_setPage_210 : decode cX6_setPage 210 = .ok (.isub, 1) := by decide +kernel
theorem dX6_setPage_211 : decode cX6_setPage 211 = .ok (.iastore, 1) := by decide +kernel
theorem dX6_setPage_212 : decode cX6_setPage 212 = .ok (.aload_n 0, 1) := by decide +kernel
theorem dX6_setPage_213 : decode cX6_setPage 213 = .ok (.getfield 25, 3) := by decide +kernel
theorem dX6_setPage_216 : decode cX6_setPage 216 = .ok (.iconst 3, 1) := by decide +kernel
theorem dX6_setPage_217 : decode cX6_setPage 217 = .ok (.aload_n 0, 1) := by decide +kernel
theorem dX6_setPage_218 : decode cX6_setPage 218 = .ok (.getfield 71, 3) := by decide +kernel
theorem dX6_setPage_221 : decode cX6_setPage 221 = .ok (.imul, 1) := by decide +kernel
theorem dX6_setPage_222 : decode cX6_setPage 222 = .ok (.iconst 2, 1) := by decide +kernel
theorem dX6_setPage_223 : decode cX6_setPage 223 = .ok (.iadd, 1) := by decide +kernel
theorem dX6_setPage_224 : decode cX6_setPage 224 = .ok (.iload 6, 2) := by decide +kernel
theorem dX6_setPage_226 : decode cX6_setPage 226 = .ok (.ifCond .eq 7, 3) := by decide +kernel
theorem dX6_setPage_229 : decode cX6_setPage 229 = .ok (.iconst 1, 1) := by decide +kernel
theorem dX6_setPage_230 : decode cX6_setPage 230 = .ok (.goto 4, 3) := by decide +kernel
theorem dX6_setPage_233 : decode cX6_setPage 233 = .ok (.iconst 0, 1) := by decide +kernel
theorem dX6_setPage_234 : decode cX6_setPage 234 = .ok (.iastore, 1) := by decide +kernel
theorem dX6_setPage_235 : decode cX6_setPage 235 = .ok (.aload_n 0, 1) := by decide +kernel
theorem dX6_setPage_236 : decode cX6_setPage 236 = .ok (.dup, 1) := by decide +kernel
theorem dX6_setPage_237 : decode cX6_setPage 237 = .ok (.getfield 71, 3) := by decide +kernel
theorem dX6_setPage_240 : decode cX6_setPage 240 = .ok (.iconst 1, 1) := by decide +kernel
theorem dX6_setPage_241 : decode cX6_setPage 241 = .ok (.iadd, 1) := by decide +kernel
theorem dX6_setPage_242 : decode cX6_setPage 242 = .ok (.putfield 71, 3) := by decide +kernel
theorem dX6_setPage_245 : decode cX6_setPage 245 = .ok (.iload 6, 2) := by decide +kernel
theorem dX6_setPage_247 : decode cX6_setPage 247 = .ok (.ifCond .eq 20, 3) := by decide +kernel
theorem dX6_setPage_250 : decode cX6_setPage 250 = .ok (.aload_n 0, 1) := by decide +kernel
theorem dX6_setPage_251 : decode cX6_setPage 251 = .ok (.getfield 22, 3) := by decide +kernel
theorem dX6_setPage_254 : decode cX6_setPage 254 = .ok (.bipush 10, 2) := by decide +kernel
theorem dX6_setPage_256 : decode cX6_setPage 256 = .ok (.aload_n 0, 1) := by decide +kernel
theorem dX6_setPage_257 : decode cX6_setPage 257 = .ok (.getfield 53, 3) := by decide +kernel
theorem dX6_setPage_260 : decode cX6_setPage 260 = .ok (.imul, 1) := by decide +kernel
theorem dX6_setPage_261 : decode cX6_setPage 261 = .ok (.iconst 1, 1) := by decide +kernel
theorem dX6_setPage_262 : decode cX6_setPage 262 = .ok (.iadd, 1) := by decide +kernel
theorem dX6_setPage_263 : decode cX6_setPage 263 = .ok (.iaload, 1) := by decide +kernel
theorem dX6_setPage_264 : decode cX6_setPage 264 = .ok (.goto 4, 3) := by decide +kernel
theorem dX6_setPage_267 : decode cX6_setPage 267 = .ok (.iload_n 2, 1) := by decide +kernel
theorem dX6_setPage_268 : decode cX6_setPage 268 = .ok (.ireturn, 1) := by decide +kernel
set_option maxRecDepth 20000 in
theorem ggX6_setAll_X6_setPage : GoodIn wsX6_setAll wsX6_setPage := goodIn_r _ [11, 4, 6, 12, 13, 5, 14, 15, 16, 10, 17, 1, 2, 3, 18, 19, 20, 21, 22, 23, 24, 25, 26, 27, 28, 29, 30, 31, 32, 33, 34, 35, 36, 37, 38, 39, 40, 41, 42, 43, 44, 45, 46, 47, 48, 49, 50, 51, 52, 53, 54, 55] (by decide +kernel) (by decide +kernel)
set_option maxRecDepth 20000 in
theorem gX6_setAll_X6_setPage : GoodIn wsX6_setAll (wsV RX6 82 RX6 yX6_setPage wsX6_setPage) := goodIn_app (goodIn_of _ (by decide +kernel)) ggX6_setAll_X6_setPage
theorem dX6_setAll_0 : decode cX6_setAll 0 = .ok (.aload_n 0, 1) := by decide +kernel
theorem dX6_setAll_1 : decode cX6_setAll 1 = .ok (.iload_n 1, 1) := by decide +kernel
theorem dX6_setAll_2 : decode cX6_setAll 2 = .ok (.putfield 56, 3) := by decide +kernel
theorem dX6_setAll_5 : decode cX6_setAll 5 = .ok (.aload_n 0, 1) := by decide +kernel
theorem dX6_setAll_6 : decode cX6_setAll 6 = .ok (.iload_n 2, 1) := by decide +kernel
theorem dX6_setAll_7 : decode cX6_setAll 7 = .ok (.putfield 59, 3) := by decide +kernel
theorem dX6_setAll_10 : decode cX6_setAll 10 = .ok (.aload_n 0, 1) := by decide +kernel
theorem dX6_setAll_11 : decode cX6_setAll 11 = .ok (.iload_n 3, 1) := by decide +kernel
theorem dX6_setAll_12 : decode cX6_setAll 12 = .ok (.putfield 68, 3) := by decide +kernel
theorem dX6_setAll_15 : decode cX6_setAll 15 = .ok (.aload_n 0, 1) := by decide +kernel
theorem dX6_setAll_16 : decode cX6_setAll 16 = .ok (.iconst 0, 1) := by decide +kernel
theorem dX6_setAll_17 : decode cX6_setAll 17 = .ok (.putfield 53, 3) := by decide +kernel
theorem dX6_setAll_20 : decode cX6_setAll 20 = .ok (.aload_n 0, 1) := by decide +kernel
theorem dX6_setAll_21 : decode cX6_setAll 21 = .ok (.iconst 0, 1) := by decide +kernel
theorem dX6_setAll_22 : decode cX6_setAll 22 = .ok (.putfield 71, 3) := by decide +kernel
theorem dX6_setAll_25 : decode cX6_setAll 25 = .ok (.iconst 0, 1) := by decide +kernel
theorem dX6_setAll_26 : decode cX6_setAll 26 = .ok (.istore 4, 2) := by decide +kernel
theorem dX6_setAll_28 : decode cX6_setAll 28 = .ok (.iload 4, 2) := by decide +kernel
theorem dX6_setAll_30 : decode cX6_setAll 30 = .ok (.aload_n 0, 1) := by decide +kernel
theorem dX6_setAll_31 : decode cX6_setAll 31 = .ok (.getfield 7, 3) := by decide +kernel
theorem dX6_setAll_34 : decode cX6_setAll 34 = .ok (.bipush 14, 2) := by decide +kernel
theorem dX6_setAll_36 : decode cX6_setAll 36 = .ok (.iaload, 1) := by decide +kernel
theorem dX6_setAll_37 : decode cX6_setAll 37 = .ok (.if_icmp .ge 14, 3) := by decide +kernel
theorem dX6_setAll_40 : decode cX6_setAll 40 = .ok (.aload_n 0, 1) := by decide +kernel
theorem dX6_setAll_41 : decode cX6_setAll 41 = .ok (.iload 4, 2) := by decide +kernel
theorem dX6_setAll_43 : decode cX6_setAll 43 = .ok (.invokevirtual 82, 3) := by decide +kernel
theorem dX6_setAll_46 : decode cX6_setAll 46 = .ok (.istore 4, 2) := by decide +kernel
theorem dX6_setAll_48 : decode cX6_setAll 48 = .ok (.goto (-20), 3) := by decide +kernel
theorem dX6_setAll_51 : decode cX6_setAll 51 = .ok (.return_, 1) := by decide +kernel
set_option maxRecDepth 20000 in
theorem ggX6_makes_X6_setAll : GoodIn wsX6_makes wsX6_setAll := goodIn_r _ [6, 7, 8, 9, 10, 11, 1, 12, 13, 14, 5, 15, 16, 17, 18, 19, 20, 21, 22, 23, 24, 25, 26, 27, 28, 29, 30, 31, 32, 33, 34, 35, 36, 37, 38, 39, 40, 41, 42, 43, 44, 45, 46, 47, 48, 49, 50, 51, 52, 53, 54, 55, 56, 57, 58, 59] (by decide +kernel) (by decide +kernel)
set_option maxRecDepth 20000 in
theorem gX6_makes_X6_setAll : GoodIn wsX6_makes (wsV RX6 85 RX6 yX6_setAll wsX6_setAll) := goodIn_app (goodIn_of _ (by decide +kernel)) ggX6_makes_X6_setAll
theorem dX6_makes_0 : decode cX6_makes 0 = .ok (.aload_n 0, 1) := by decide +kernel
theorem dX6_makes_1 : decode cX6_makes 1 = .ok (.aload_n 0, 1) := by decide +kernel
theorem dX6_makes_2 : decode cX6_makes 2 = .ok (.getfield 7, 3) := by decide +kernel
theorem dX6_makes_5 : decode cX6_makes 5 = .ok (.iconst 0, 1) := by decide +kernel
theorem dX6_makes_6 : decode cX6_makes 6 = .ok (.iaload, 1) := by decide +kernel
theorem dX6_makes_7 : decode cX6_makes 7 = .ok (.aload_n 0, 1) := by decide +kernel
theorem dX6_makes_8 : decode cX6_makes 8 = .ok (.getfield 7, 3) := by decide +kernel
theorem dX6_makes_11 : decode cX6_makes 11 = .ok (.iconst 2, 1) := by decide +kernel
theorem dX6_makes_12 : decode cX6_makes 12 = .ok (.iaload, 1) := by decide +kernel
theorem dX6_makes_13 : decode cX6_makes 13 = .ok (.aload_n 0, 1) := by decide +kernel
theorem dX6_makes_14 : decode cX6_makes 14 = .ok (.getfield 7, 3) := by decide +kernel
theorem dX6_makes_17 : decode cX6_makes 17 = .ok (.iconst 3, 1) := by decide +kernel
theorem dX6_makes_18 : decode cX6_makes 18 = .ok (.iaload, 1) := by decide +kernel
theorem dX6_makes_19 : decode cX6_makes 19 = .ok (.invokevirtual 85, 3) := by decide +kernel
theorem dX6_makes_22 : decode cX6_makes 22 = .ok (.return_, 1) := by decide +kernel
set_option maxRecDepth 20000 in
theorem ggX6_endsOneThere_X6_endsOne : GoodIn wsX6_endsOneThere wsX6_endsOne := goodIn_r _ [6, 7, 8, 9, 10, 5, 11, 12, 13, 14, 15, 16, 17, 18, 19, 20, 21, 22, 23, 24, 25, 26, 27] (by decide +kernel) (by decide +kernel)
set_option maxRecDepth 20000 in
theorem gX6_endsOneThere_X6_endsOne : GoodIn wsX6_endsOneThere (wsV RX6 78 RX6 yX6_endsOne wsX6_endsOne) := goodIn_app (goodIn_of _ (by decide +kernel)) ggX6_endsOneThere_X6_endsOne
theorem dX6_endsOneThere_0 : decode cX6_endsOneThere 0 = .ok (.aload_n 0, 1) := by decide +kernel
theorem dX6_endsOneThere_1 : decode cX6_endsOneThere 1 = .ok (.aload_n 0, 1) := by decide +kernel
theorem dX6_endsOneThere_2 : decode cX6_endsOneThere 2 = .ok (.getfield 22, 3) := by decide +kernel
theorem dX6_endsOneThere_5 : decode cX6_endsOneThere 5 = .ok (.bipush 10, 2) := by decide +kernel
theorem dX6_endsOneThere_7 : decode cX6_endsOneThere 7 = .ok (.iload_n 1, 1) := by decide +kernel
theorem dX6_endsOneThere_8 : decode cX6_endsOneThere 8 = .ok (.imul, 1) := by decide +kernel
theorem dX6_endsOneThere_9 : decode cX6_endsOneThere 9 = .ok (.iconst 1, 1) := by decide +kernel
theorem dX6_endsOneThere_10 : decode cX6_endsOneThere 10 = .ok (.iadd, 1) := by decide +kernel
theorem dX6_endsOneThere_11 : decode cX6_endsOneThere 11 = .ok (.iaload, 1) := by decide +kernel
theorem dX6_endsOneThere_12 : decode cX6_endsOneThere 12 = .ok (.aload_n 0, 1) := by decide +kernel
theorem dX6_endsOneThere_13 : decode cX6_endsOneThere 13 = .ok (.getfield 22, 3) := by decide +kernel
theorem dX6_endsOneThere_16 : decode cX6_endsOneThere 16 = .ok (.bipush 10, 2) := by decide +kernel
theorem dX6_endsOneThere_18 : decode cX6_endsOneThere 18 = .ok (.iload_n 1, 1) := by decide +kernel
theorem dX6_endsOneThere_19 : decode cX6_endsOneThere 19 = .ok (.imul, 1) := by decide +kernel
theorem dX6_endsOneThere_20 : decode cX6_endsOneThere 20 = .ok (.iconst 2, 1) := by decide +kernel
theorem dX6_endsOneThere_21 : decode cX6_endsOneThere 21 = .ok (.iadd, 1) := by decide +kernel
theorem dX6_endsOneThere_22 : decode cX6_endsOneThere 22 = .ok (.iaload, 1) := by decide +kernel
theorem dX6_endsOneThere_23 : decode cX6_endsOneThere 23 = .ok (.iadd, 1) := by decide +kernel
theorem dX6_endsOneThere_24 : decode cX6_endsOneThere 24 = .ok (.iconst 1, 1) := by decide +kernel
theorem dX6_endsOneThere_25 : decode cX6_endsOneThere 25 = .ok (.isub, 1) := by decide +kernel
theorem dX6_endsOneThere_26 : decode cX6_endsOneThere 26 = .ok (.invokevirtual 78, 3) := by decide +kernel
theorem dX6_endsOneThere_29 : decode cX6_endsOneThere 29 = .ok (.ireturn, 1) := by decide +kernel
theorem dX6_lent_0 : decode cX6_lent 0 = .ok (.aload_n 0, 1) := by decide +kernel
theorem dX6_lent_1 : decode cX6_lent 1 = .ok (.getfield 22, 3) := by decide +kernel
theorem dX6_lent_4 : decode cX6_lent 4 = .ok (.bipush 10, 2) := by decide +kernel
theorem dX6_lent_6 : decode cX6_lent 6 = .ok (.iload_n 1, 1) := by decide +kernel
theorem dX6_lent_7 : decode cX6_lent 7 = .ok (.imul, 1) := by decide +kernel
theorem dX6_lent_8 : decode cX6_lent 8 = .ok (.iconst 5, 1) := by decide +kernel
theorem dX6_lent_9 : decode cX6_lent 9 = .ok (.iadd, 1) := by decide +kernel
theorem dX6_lent_10 : decode cX6_lent 10 = .ok (.iaload, 1) := by decide +kernel
theorem dX6_lent_11 : decode cX6_lent 11 = .ok (.aload_n 0, 1) := by decide +kernel
theorem dX6_lent_12 : decode cX6_lent 12 = .ok (.getfield 22, 3) := by decide +kernel
theorem dX6_lent_15 : decode cX6_lent 15 = .ok (.bipush 10, 2) := by decide +kernel
theorem dX6_lent_17 : decode cX6_lent 17 = .ok (.iload_n 1, 1) := by decide +kernel
theorem dX6_lent_18 : decode cX6_lent 18 = .ok (.imul, 1) := by decide +kernel
theorem dX6_lent_19 : decode cX6_lent 19 = .ok (.bipush 6, 2) := by decide +kernel
theorem dX6_lent_21 : decode cX6_lent 21 = .ok (.iadd, 1) := by decide +kernel
theorem dX6_lent_22 : decode cX6_lent 22 = .ok (.iaload, 1) := by decide +kernel
theorem dX6_lent_23 : decode cX6_lent 23 = .ok (.iadd, 1) := by decide +kernel
theorem dX6_lent_24 : decode cX6_lent 24 = .ok (.ireturn, 1) := by decide +kernel
set_option maxRecDepth 20000 in
theorem ggX6_empty_X6_lent : GoodIn wsX6_empty wsX6_lent := goodIn_r _ [6, 1, 7, 8, 9, 10, 11, 12, 13, 14, 15, 16, 17, 18, 19, 20, 21, 22] (by decide +kernel) (by decide +kernel)
set_option maxRecDepth 20000 in
theorem gX6_empty_X6_lent : GoodIn wsX6_empty (wsV RX6 89 RX6 yX6_lent wsX6_lent) := goodIn_app (goodIn_of _ (by decide +kernel)) ggX6_empty_X6_lent
theorem dX6_empty_0 : decode cX6_empty 0 = .ok (.aload_n 0, 1) := by decide +kernel
theorem dX6_empty_1 : decode cX6_empty 1 = .ok (.getfield 22, 3) := by decide +kernel
theorem dX6_empty_4 : decode cX6_empty 4 = .ok (.bipush 10, 2) := by decide +kernel
theorem dX6_empty_6 : decode cX6_empty 6 = .ok (.iload_n 1, 1) := by decide +kernel
theorem dX6_empty_7 : decode cX6_empty 7 = .ok (.imul, 1) := by decide +kernel
theorem dX6_empty_8 : decode cX6_empty 8 = .ok (.bipush 9, 2) := by decide +kernel
theorem dX6_empty_10 : decode cX6_empty 10 = .ok (.iadd, 1) := by decide +kernel
theorem dX6_empty_11 : decode cX6_empty 11 = .ok (.iaload, 1) := by decide +kernel
theorem dX6_empty_12 : decode cX6_empty 12 = .ok (.iconst 1, 1) := by decide +kernel
theorem dX6_empty_13 : decode cX6_empty 13 = .ok (.if_icmp .ne 7, 3) := by decide +kernel
theorem dX6_empty_16 : decode cX6_empty 16 = .ok (.iconst 0, 1) := by decide +kernel
theorem dX6_empty_17 : decode cX6_empty 17 = .ok (.goto 32, 3) := by decide +kernel
theorem dX6_empty_20 : decode cX6_empty 20 = .ok (.aload_n 0, 1) := by decide +kernel
theorem dX6_empty_21 : decode cX6_empty 21 = .ok (.getfield 22, 3) := by decide +kernel
theorem dX6_empty_24 : decode cX6_empty 24 = .ok (.bipush 10, 2) := by decide +kernel
theorem dX6_empty_26 : decode cX6_empty 26 = .ok (.iload_n 1, 1) := by decide +kernel
theorem dX6_empty_27 : decode cX6_empty 27 = .ok (.imul, 1) := by decide +kernel
theorem dX6_empty_28 : decode cX6_empty 28 = .ok (.iconst 4, 1) := by decide +kernel
theorem dX6_empty_29 : decode cX6_empty 29 = .ok (.iadd, 1) := by decide +kernel
theorem dX6_empty_30 : decode cX6_empty 30 = .ok (.iaload, 1) := by decide +kernel
theorem dX6_empty_31 : decode cX6_empty 31 = .ok (.aload_n 0, 1) := by decide +kernel
theorem dX6_empty_32 : decode cX6_empty 32 = .ok (.iload_n 1, 1) := by decide +kernel
theorem dX6_empty_33 : decode cX6_empty 33 = .ok (.invokevirtual 89, 3) := by decide +kernel
theorem dX6_empty_36 : decode cX6_empty 36 = .ok (.iadd, 1) := by decide +kernel
theorem dX6_empty_37 : decode cX6_empty 37 = .ok (.aload_n 0, 1) := by decide +kernel
theorem dX6_empty_38 : decode cX6_empty 38 = .ok (.getfield 22, 3) := by decide +kernel
theorem dX6_empty_41 : decode cX6_empty 41 = .ok (.bipush 10, 2) := by decide +kernel
theorem dX6_empty_43 : decode cX6_empty 43 = .ok (.iload_n 1, 1) := by decide +kernel
theorem dX6_empty_44 : decode cX6_empty 44 = .ok (.imul, 1) := by decide +kernel
theorem dX6_empty_45 : decode cX6_empty 45 = .ok (.iconst 3, 1) := by decide +kernel
theorem dX6_empty_46 : decode cX6_empty 46 = .ok (.iadd, 1) := by decide +kernel
theorem dX6_empty_47 : decode cX6_empty 47 = .ok (.iaload, 1) := by decide +kernel
theorem dX6_empty_48 : decode cX6_empty 48 = .ok (.isub, 1) := by decide +kernel
theorem dX6_empty_49 : decode cX6_empty 49 = .ok (.ireturn, 1) := by decide +kernel
set_option maxRecDepth 20000 in
theorem ggX6_unevennessNow_X6_endsOneThere : GoodIn wsX6_unevennessNow wsX6_endsOneThere := goodIn_r _ [6, 7, 8, 9, 10, 5, 11, 12, 13, 14, 15, 16, 25, 26, 27, 28, 29, 30, 31, 32, 33, 34, 35, 36, 37, 38, 39, 40] (by decide +kernel) (by decide +kernel)
set_option maxRecDepth 20000 in
theorem gX6_unevennessNow_X6_endsOneThere : GoodIn wsX6_unevennessNow (wsV RX6 92 RX6 yX6_endsOneThere wsX6_endsOneThere) := goodIn_app (goodIn_of _ (by decide +kernel)) ggX6_unevennessNow_X6_endsOneThere
set_option maxRecDepth 20000 in
theorem ggX6_unevennessNow_X6_empty : GoodIn wsX6_unevennessNow wsX6_empty := goodIn_r _ [20, 7, 21, 22, 23, 5, 24, 25, 26, 27, 28, 29, 30, 31, 32, 33, 34, 35, 36, 37, 38, 39, 40] (by decide +kernel) (by decide +kernel)
set_option maxRecDepth 20000 in
theorem gX6_unevennessNow_X6_empty : GoodIn wsX6_unevennessNow (wsV RX6 95 RX6 yX6_empty wsX6_empty) := goodIn_app (goodIn_of _ (by decide +kernel)) ggX6_unevennessNow_X6_empty
theorem dX6_unevennessNow_0 : decode cX6_unevennessNow 0 = .ok (.iconst 0, 1) := by decide +kernel
theorem dX6_unevennessNow_1 : decode cX6_unevennessNow 1 = .ok (.istore_n 1, 1) := by decide +kernel
theorem dX6_unevennessNow_2 : decode cX6_unevennessNow 2 = .ok (.iconst 0, 1) := by decide +kernel
theorem dX6_unevennessNow_3 : decode cX6_unevennessNow 3 = .ok (.istore_n 2, 1) := by decide +kernel
theorem dX6_unevennessNow_4 : decode cX6_unevennessNow 4 = .ok (.iload_n 2, 1) := by decide +kernel
theorem dX6_unevennessNow_5 : decode cX6_unevennessNow 5 = .ok (.aload_n 0, 1) := by decide +kernel
theorem dX6_unevennessNow_6 : decode cX6_unevennessNow 6 = .ok (.getfield 53, 3) := by decide +kernel
theorem dX6_unevennessNow_9 : decode cX6_unevennessNow 9 = .ok (.if_icmp .ge 35, 3) := by decide +kernel
theorem dX6_unevennessNow_12 : decode cX6_unevennessNow 12 = .ok (.iload_n 1, 1) := by decide +kernel
theorem dX6_unevennessNow_13 : decode cX6_unevennessNow 13 = .ok (.aload_n 0, 1) := by decide +kernel
theorem dX6_unevennessNow_14 : decode cX6_unevennessNow 14 = .ok (.iload_n 2, 1) := by decide +kernel
theorem dX6_unevennessNow_15 : decode cX6_unevennessNow 15 = .ok (.invokevirtual 92, 3) := by decide +kernel
theorem dX6_unevennessNow_18 : decode cX6_unevennessNow 18 = .ok (.ifCond .eq 7, 3) := by decide +kernel
theorem dX6_unevennessNow_21 : decode cX6_unevennessNow 21 = .ok (.iconst 0, 1) := by decide +kernel
theorem dX6_unevennessNow_22 : decode cX6_unevennessNow 22 = .ok (.goto 14, 3) := by decide +kernel
theorem dX6_unevennessNow_25 : decode cX6_unevennessNow 25 = .ok (.aload_n 0, 1) := by decide +kernel
theorem dX6_unevennessNow_26 : decode cX6_unevennessNow 26 = .ok (.iload_n 2, 1) := by decide +kernel
theorem dX6_unevennessNow_27 : decode cX6_unevennessNow 27 = .ok (.invokevirtual 95, 3) := by decide +kernel
theorem dX6_unevennessNow_30 : decode cX6_unevennessNow 30 = .ok (.aload_n 0, 1) := by decide +kernel
theorem dX6_unevennessNow_31 : decode cX6_unevennessNow 31 = .ok (.iload_n 2, 1) := by decide +kernel
theorem dX6_unevennessNow_32 : decode cX6_unevennessNow 32 = .ok (.invokevirtual 95, 3) := by decide +kernel
theorem dX6_unevennessNow_35 : decode cX6_unevennessNow 35 = .ok (.imul, 1) := by decide +kernel
theorem dX6_unevennessNow_36 : decode cX6_unevennessNow 36 = .ok (.iadd, 1) := by decide +kernel
theorem dX6_unevennessNow_37 : decode cX6_unevennessNow 37 = .ok (.istore_n 1, 1) := by decide +kernel
theorem dX6_unevennessNow_38 : decode cX6_unevennessNow 38 = .ok (.iinc 2 1, 3) := by decide +kernel
theorem dX6_unevennessNow_41 : decode cX6_unevennessNow 41 = .ok (.goto (-37), 3) := by decide +kernel
theorem dX6_unevennessNow_44 : decode cX6_unevennessNow 44 = .ok (.iload_n 1, 1) := by decide +kernel
theorem dX6_unevennessNow_45 : decode cX6_unevennessNow 45 = .ok (.ireturn, 1) := by decide +kernel
set_option maxRecDepth 20000 in
theorem ggX6_areSigns_X6_in : GoodIn wsX6_areSigns wsX6_in := goodIn_r _ [4] (by decide +kernel) (by decide +kernel)
set_option maxRecDepth 20000 in
theorem gX6_areSigns_X6_in : GoodIn wsX6_areSigns (va_wsS RX6 28 yX6_in wsX6_in) := goodIn_app (goodIn_of _ (by decide +kernel)) ggX6_areSigns_X6_in
theorem dX6_areSigns_0 : decode cX6_areSigns 0 = .ok (.iload_n 0, 1) := by decide +kernel
theorem dX6_areSigns_1 : decode cX6_areSigns 1 = .ok (.iconst (-1), 1) := by decide +kernel
theorem dX6_areSigns_2 : decode cX6_areSigns 2 = .ok (.iconst 1, 1) := by decide +kernel
theorem dX6_areSigns_3 : decode cX6_areSigns 3 = .ok (.invokestatic 28, 3) := by decide +kernel
theorem dX6_areSigns_6 : decode cX6_areSigns 6 = .ok (.ifCond .eq 22, 3) := by decide +kernel
theorem dX6_areSigns_9 : decode cX6_areSigns 9 = .ok (.iload_n 1, 1) := by decide +kernel
theorem dX6_areSigns_10 : decode cX6_areSigns 10 = .ok (.iconst (-1), 1) := by decide +kernel
theorem dX6_areSigns_11 : decode cX6_areSigns 11 = .ok (.bipush 7, 2) := by decide +kernel
theorem dX6_areSigns_13 : decode cX6_areSigns 13 = .ok (.invokestatic 28, 3) := by decide +kernel
theorem dX6_areSigns_16 : decode cX6_areSigns 16 = .ok (.ifCond .eq 12, 3) := by decide +kernel
theorem dX6_areSigns_19 : decode cX6_areSigns 19 = .ok (.iload_n 1, 1) := by decide +kernel
theorem dX6_areSigns_20 : decode cX6_areSigns 20 = .ok (.iconst 1, 1) := by decide +kernel
theorem dX6_areSigns_21 : decode cX6_areSigns 21 = .ok (.if_icmp .eq 7, 3) := by decide +kernel
theorem dX6_areSigns_24 : decode cX6_areSigns 24 = .ok (.iconst 1, 1) := by decide +kernel
theorem dX6_areSigns_25 : decode cX6_areSigns 25 = .ok (.goto 4, 3) := by decide +kernel
theorem dX6_areSigns_28 : decode cX6_areSigns 28 = .ok (.iconst 0, 1) := by decide +kernel
theorem dX6_areSigns_29 : decode cX6_areSigns 29 = .ok (.ireturn, 1) := by decide +kernel
set_option maxRecDepth 20000 in
theorem ggX6_opens_X6_puts : GoodIn wsX6_opens wsX6_puts := goodIn_r _ [6, 1, 7, 8, 9, 10, 11, 12, 13, 14, 15, 16, 17, 18, 19, 20, 21, 22] (by decide +kernel) (by decide +kernel)
set_option maxRecDepth 20000 in
theorem gX6_opens_X6_puts : GoodIn wsX6_opens (wsV RX6 98 RX6 yX6_puts wsX6_puts) := goodIn_app (goodIn_of _ (by decide +kernel)) ggX6_opens_X6_puts
theorem dX6_opens_0 : decode cX6_opens 0 = .ok (.bipush 15, 2) := by decide +kernel
theorem dX6_opens_2 : decode cX6_opens 2 = .ok (.bipush 16, 2) := by decide +kernel
theorem dX6_opens_4 : decode cX6_opens 4 = .ok (.aload_n 0, 1) := by decide +kernel
theorem dX6_opens_5 : decode cX6_opens 5 = .ok (.getfield 7, 3) := by decide +kernel
theorem dX6_opens_8 : decode cX6_opens 8 = .ok (.bipush 14, 2) := by decide +kernel
theorem dX6_opens_10 : decode cX6_opens 10 = .ok (.iaload, 1) := by decide +kernel
theorem dX6_opens_11 : decode cX6_opens 11 = .ok (.imul, 1) := by decide +kernel
theorem dX6_opens_12 : decode cX6_opens 12 = .ok (.iadd, 1) := by decide +kernel
theorem dX6_opens_13 : decode cX6_opens 13 = .ok (.iconst 1, 1) := by decide +kernel
theorem dX6_opens_14 : decode cX6_opens 14 = .ok (.isub, 1) := by decide +kernel
theorem dX6_opens_15 : decode cX6_opens 15 = .ok (.istore_n 2, 1) := by decide +kernel
theorem dX6_opens_16 : decode cX6_opens 16 = .ok (.iload_n 2, 1) := by decide +kernel
theorem dX6_opens_17 : decode cX6_opens 17 = .ok (.bipush 15, 2) := by decide +kernel
theorem dX6_opens_19 : decode cX6_opens 19 = .ok (.bipush 16, 2) := by decide +kernel
theorem dX6_opens_21 : decode cX6_opens 21 = .ok (.iload_n 1, 1) := by decide +kernel
theorem dX6_opens_22 : decode cX6_opens 22 = .ok (.imul, 1) := by decide +kernel
theorem dX6_opens_23 : decode cX6_opens 23 = .ok (.iadd, 1) := by decide +kernel
theorem dX6_opens_24 : decode cX6_opens 24 = .ok (.if_icmp .lt 24, 3) := by decide +kernel
theorem dX6_opens_27 : decode cX6_opens 27 = .ok (.aload_n 0, 1) := by decide +kernel
theorem dX6_opens_28 : decode cX6_opens 28 = .ok (.getfield 7, 3) := by decide +kernel
theorem dX6_opens_31 : decode cX6_opens 31 = .ok (.iload_n 2, 1) := by decide +kernel
theorem dX6_opens_32 : decode cX6_opens 32 = .ok (.bipush 16, 2) := by decide +kernel
theorem dX6_opens_34 : decode cX6_opens 34 = .ok (.iadd, 1) := by decide +kernel
theorem dX6_opens_35 : decode cX6_opens 35 = .ok (.aload_n 0, 1) := by decide +kernel
theorem dX6_opens_36 : decode cX6_opens 36 = .ok (.getfield 7, 3) := by decide +kernel
theorem dX6_opens_39 : decode cX6_opens 39 = .ok (.iload_n 2, 1) := by decide +kernel
theorem dX6_opens_40 : decode cX6_opens 40 = .ok (.iaload, 1) := by decide +kernel
theorem dX6_opens_41 : decode cX6_opens 41 = .ok (.iastore, 1) := by decide +kernel
theorem dX6_opens_42 : decode cX6_opens 42 = .ok (.iinc 2 (-1), 3) := by decide +kernel
theorem dX6_opens_45 : decode cX6_opens 45 = .ok (.goto (-29), 3) := by decide +kernel
theorem dX6_opens_48 : decode cX6_opens 48 = .ok (.aload_n 0, 1) := by decide +kernel
theorem dX6_opens_49 : decode cX6_opens 49 = .ok (.getfield 7, 3) := by decide +kernel
theorem dX6_opens_52 : decode cX6_opens 52 = .ok (.bipush 14, 2) := by decide +kernel
theorem dX6_opens_54 : decode cX6_opens 54 = .ok (.dup2, 1) := by decide +kernel
theorem dX6_opens_55 : decode cX6_opens 55 = .ok (.iaload, 1) := by decide +kernel
theorem dX6_opens_56 : decode cX6_opens 56 = .ok (.iconst 1, 1) := by decide +kernel
theorem dX6_opens_57 : decode cX6_opens 57 = .ok (.iadd, 1) := by decide +kernel
theorem dX6_opens_58 : decode cX6_opens 58 = .ok (.iastore, 1) := by decide +kernel
theorem dX6_opens_59 : decode cX6_opens 59 = .ok (.iconst 0, 1) := by decide +kernel
theorem dX6_opens_60 : decode cX6_opens 60 = .ok (.istore_n 2, 1) := by decide +kernel
theorem dX6_opens_61 : decode cX6_opens 61 = .ok (.iload_n 2, 1) := by decide +kernel
theorem dX6_opens_62 : decode cX6_opens 62 = .ok (.bipush 16, 2) := by decide +kernel
theorem dX6_opens_64 : decode cX6_opens 64 = .ok (.if_icmp .ge 16, 3) := by decide +kernel
theorem dX6_opens_67 : decode cX6_opens 67 = .ok (.aload_n 0, 1) := by decide +kernel
theorem dX6_opens_68 : decode cX6_opens 68 = .ok (.iload_n 1, 1) := by decide +kernel
theorem dX6_opens_69 : decode cX6_opens 69 = .ok (.iload_n 2, 1) := by decide +kernel
theorem dX6_opens_70 : decode cX6_opens 70 = .ok (.iconst 0, 1) := by decide +kernel
theorem dX6_opens_71 : decode cX6_opens 71 = .ok (.invokevirtual 98, 3) := by decide +kernel
theorem dX6_opens_74 : decode cX6_opens 74 = .ok (.iinc 2 1, 3) := by decide +kernel
theorem dX6_opens_77 : decode cX6_opens 77 = .ok (.goto (-16), 3) := by decide +kernel
theorem dX6_opens_80 : decode cX6_opens 80 = .ok (.return_, 1) := by decide +kernel
set_option maxRecDepth 20000 in
theorem ggX6_insert_X6_fails : GoodIn wsX6_insert wsX6_fails := goodIn_r _ [6, 7, 37, 38, 39, 40, 41, 42, 43, 44, 45, 46, 47, 48, 49, 50, 51, 52] (by decide +kernel) (by decide +kernel)
set_option maxRecDepth 20000 in
theorem gX6_insert_X6_fails : GoodIn wsX6_insert (wsV RX6 101 RX6 yX6_fails wsX6_fails) := goodIn_app (goodIn_of _ (by decide +kernel)) ggX6_insert_X6_fails
set_option maxRecDepth 20000 in
theorem ggX6_insert_X6_in : GoodIn wsX6_insert wsX6_in := goodIn_r _ [10] (by decide +kernel) (by decide +kernel)
set_option maxRecDepth 20000 in
theorem gX6_insert_X6_in : GoodIn wsX6_insert (va_wsS RX6 28 yX6_in wsX6_in) := goodIn_app (goodIn_of _ (by decide +kernel)) ggX6_insert_X6_in
set_option maxRecDepth 20000 in
theorem ggX6_insert_X6_areSigns : GoodIn wsX6_insert wsX6_areSigns := goodIn_r _ [13, 8, 9, 5, 10] (by decide +kernel) (by decide +kernel)
set_option maxRecDepth 20000 in
theorem gX6_insert_X6_areSigns : GoodIn wsX6_insert (va_wsS RX6 104 yX6_areSigns wsX6_areSigns) := goodIn_app (goodIn_of _ (by decide +kernel)) ggX6_insert_X6_areSigns
set_option maxRecDepth 20000 in
theorem ggX6_insert_X6_hold : GoodIn wsX6_insert wsX6_hold := goodIn_r _ [17, 18, 1, 37, 38, 39, 40, 41, 42, 43, 44, 45, 46, 47, 48, 49, 50, 51, 52] (by decide +kernel) (by decide +kernel)
set_option maxRecDepth 20000 in
theorem gX6_insert_X6_hold : GoodIn wsX6_insert (wsV RX6 108 RX6 yX6_hold wsX6_hold) := goodIn_app (goodIn_of _ (by decide +kernel)) ggX6_insert_X6_hold
set_option maxRecDepth 20000 in
theorem ggX6_insert_X6_opens : GoodIn wsX6_insert wsX6_opens := goodIn_r _ [22, 1, 23, 24, 25, 5, 26, 37, 38, 39, 40, 41, 42, 43, 44, 45, 46, 47, 48, 49, 50, 51, 52] (by decide +kernel) (by decide +kernel)
set_option maxRecDepth 20000 in
theorem gX6_insert_X6_opens : GoodIn wsX6_insert (wsV RX6 111 RX6 yX6_opens wsX6_opens) := goodIn_app (goodIn_of _ (by decide +kernel)) ggX6_insert_X6_opens
set_option maxRecDepth 20000 in
theorem ggX6_insert_X6_puts : GoodIn wsX6_insert wsX6_puts := goodIn_r _ [26, 1, 37, 38, 39, 40, 41, 42, 43, 44, 45, 46, 47, 48, 49, 50, 51, 52] (by decide +kernel) (by decide +kernel)
set_option maxRecDepth 20000 in
theorem gX6_insert_X6_puts : GoodIn wsX6_insert (wsV RX6 98 RX6 yX6_puts wsX6_puts) := goodIn_app (goodIn_of _ (by decide +kernel)) ggX6_insert_X6_puts
set_option maxRecDepth 20000 in
theorem ggX6_insert_X6_ends : GoodIn wsX6_insert wsX6_ends := goodIn_r _ [30, 31, 32, 18, 33, 34, 35, 5, 36, 7, 37, 38, 39, 40, 41, 42, 43, 44, 45, 46, 47, 48, 49, 50, 51, 52] (by decide +kernel) (by decide +kernel)
set_option maxRecDepth 20000 in
theorem gX6_insert_X6_ends : GoodIn wsX6_insert (wsV RX6 115 RX6 yX6_ends wsX6_ends) := goodIn_app (goodIn_of _ (by decide +kernel)) ggX6_insert_X6_ends
theorem dX6_insert_0 : decode cX6_insert 0 = .ok (.iload_n 1, 1) := by decide +kernel
theorem dX6_insert_1 : decode cX6_insert 1 = .ok (.ifCond .lt 14, 3) := by decide +kernel
theorem dX6_insert_4 : decode cX6_insert 4 = .ok (.iload_n 1, 1) := by decide +kernel
theorem dX6_insert_5 : decode cX6_insert 5 = .ok (.aload_n 0, 1) := by decide +kernel
theorem dX6_insert_6 : decode cX6_insert 6 = .ok (.getfield 7, 3) := by decide +kernel
theorem dX6_insert_9 : decode cX6_insert 9 = .ok (.bipush 14, 2) := by decide +kernel
theorem dX6_insert_11 : decode cX6_insert 11 = .ok (.iaload, 1) := by decide +kernel

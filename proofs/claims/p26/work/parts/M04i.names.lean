set_option maxRecDepth 20000 in
theorem gL_acts_L_adds : GoodIn wsL_acts (va_wsS RL 63 yL_adds wsL_adds) := goodIn_app (goodIn_of _ (by decide +kernel)) ggL_acts_L_adds
theorem dL_acts_0 : decode cL_acts 0 = .ok (.iload_n 3, 1) := by decide +kernel
theorem dL_acts_1 : decode cL_acts 1 = .ok (.iconst 5, 1) := by decide +kernel
theorem dL_acts_2 : decode cL_acts 2 = .ok (.ishr, 1) := by decide +kernel
theorem dL_acts_3 : decode cL_acts 3 = .ok (.ldc 38, 2) := by decide +kernel
theorem dL_acts_5 : decode cL_acts 5 = .ok (.invokestatic 39, 3) := by decide +kernel
theorem dL_acts_8 : decode cL_acts 8 = .ok (.istore 4, 2) := by decide +kernel
theorem dL_acts_10 : decode cL_acts 10 = .ok (.aload_n 1, 1) := by decide +kernel
theorem dL_acts_11 : decode cL_acts 11 = .ok (.bipush 14, 2) := by decide +kernel
theorem dL_acts_13 : decode cL_acts 13 = .ok (.iaload, 1) := by decide +kernel
theorem dL_acts_14 : decode cL_acts 14 = .ok (.istore 5, 2) := by decide +kernel
theorem dL_acts_16 : decode cL_acts 16 = .ok (.iload 5, 2) := by decide +kernel
theorem dL_acts_18 : decode cL_acts 18 = .ok (.ifCond .ne 7, 3) := by decide +kernel
theorem dL_acts_21 : decode cL_acts 21 = .ok (.iconst 0, 1) := by decide +kernel
theorem dL_acts_22 : decode cL_acts 22 = .ok (.goto 8, 3) := by decide +kernel
theorem dL_acts_25 : decode cL_acts 25 = .ok (.iload 4, 2) := by decide +kernel
theorem dL_acts_27 : decode cL_acts 27 = .ok (.iload 5, 2) := by decide +kernel
theorem dL_acts_29 : decode cL_acts 29 = .ok (.irem, 1) := by decide +kernel
theorem dL_acts_30 : decode cL_acts 30 = .ok (.istore 6, 2) := by decide +kernel
theorem dL_acts_32 : decode cL_acts 32 = .ok (.iload 4, 2) := by decide +kernel
theorem dL_acts_34 : decode cL_acts 34 = .ok (.bipush 10, 2) := by decide +kernel
theorem dL_acts_36 : decode cL_acts 36 = .ok (.idiv, 1) := by decide +kernel
theorem dL_acts_37 : decode cL_acts 37 = .ok (.iconst 4, 1) := by decide +kernel
theorem dL_acts_38 : decode cL_acts 38 = .ok (.irem, 1) := by decide +kernel
theorem dL_acts_39 : decode cL_acts 39 = .ok (.iconst 1, 1) := by decide +kernel
theorem dL_acts_40 : decode cL_acts 40 = .ok (.isub, 1) := by decide +kernel
theorem dL_acts_41 : decode cL_acts 41 = .ok (.istore 7, 2) := by decide +kernel
theorem dL_acts_43 : decode cL_acts 43 = .ok (.iload 4, 2) := by decide +kernel
theorem dL_acts_45 : decode cL_acts 45 = .ok (.bipush 40, 2) := by decide +kernel
theorem dL_acts_47 : decode cL_acts 47 = .ok (.idiv, 1) := by decide +kernel
theorem dL_acts_48 : decode cL_acts 48 = .ok (.bipush 10, 2) := by decide +kernel
theorem dL_acts_50 : decode cL_acts 50 = .ok (.irem, 1) := by decide +kernel
theorem dL_acts_51 : decode cL_acts 51 = .ok (.iconst 1, 1) := by decide +kernel
theorem dL_acts_52 : decode cL_acts 52 = .ok (.isub, 1) := by decide +kernel
theorem dL_acts_53 : decode cL_acts 53 = .ok (.istore 8, 2) := by decide +kernel
theorem dL_acts_55 : decode cL_acts 55 = .ok (.iload 7, 2) := by decide +kernel
theorem dL_acts_57 : decode cL_acts 57 = .ok (.iconst 1, 1) := by decide +kernel
theorem dL_acts_58 : decode cL_acts 58 = .ok (.if_icmp .le 7, 3) := by decide +kernel
theorem dL_acts_61 : decode cL_acts 61 = .ok (.iconst (-1), 1) := by decide +kernel
theorem dL_acts_62 : decode cL_acts 62 = .ok (.goto 5, 3) := by decide +kernel
theorem dL_acts_65 : decode cL_acts 65 = .ok (.iload 7, 2) := by decide +kernel
theorem dL_acts_67 : decode cL_acts 67 = .ok (.istore 7, 2) := by decide +kernel
theorem dL_acts_69 : decode cL_acts 69 = .ok (.iload 8, 2) := by decide +kernel
theorem dL_acts_71 : decode cL_acts 71 = .ok (.iconst 1, 1) := by decide +kernel
theorem dL_acts_72 : decode cL_acts 72 = .ok (.if_icmp .eq 10, 3) := by decide +kernel
theorem dL_acts_75 : decode cL_acts 75 = .ok (.iload 8, 2) := by decide +kernel
theorem dL_acts_77 : decode cL_acts 77 = .ok (.bipush 7, 2) := by decide +kernel
theorem dL_acts_79 : decode cL_acts 79 = .ok (.if_icmp .le 7, 3) := by decide +kernel
theorem dL_acts_82 : decode cL_acts 82 = .ok (.iconst (-1), 1) := by decide +kernel
theorem dL_acts_83 : decode cL_acts 83 = .ok (.goto 5, 3) := by decide +kernel
theorem dL_acts_86 : decode cL_acts 86 = .ok (.iload 8, 2) := by decide +kernel
theorem dL_acts_88 : decode cL_acts 88 = .ok (.istore 8, 2) := by decide +kernel
theorem dL_acts_90 : decode cL_acts 90 = .ok (.iload_n 3, 1) := by decide +kernel
theorem dL_acts_91 : decode cL_acts 91 = .ok (.bipush 16, 2) := by decide +kernel
theorem dL_acts_93 : decode cL_acts 93 = .ok (.invokestatic 39, 3) := by decide +kernel
theorem dL_acts_96 : decode cL_acts 96 = .ok (.tableswitch 472 0 8 #[52, 52, 52, 178, 238, 238, 319, 319, 387], 52) := by decide +kernel
theorem dL_acts_148 : decode cL_acts 148 = .ok (.iload 4, 2) := by decide +kernel
theorem dL_acts_150 : decode cL_acts 150 = .ok (.bipush 6, 2) := by decide +kernel
theorem dL_acts_152 : decode cL_acts 152 = .ok (.irem, 1) := by decide +kernel
theorem dL_acts_153 : decode cL_acts 153 = .ok (.istore 9, 2) := by decide +kernel
theorem dL_acts_155 : decode cL_acts 155 = .ok (.iload 9, 2) := by decide +kernel
theorem dL_acts_157 : decode cL_acts 157 = .ok (.ifCond .ne 30, 3) := by decide +kernel
theorem dL_acts_160 : decode cL_acts 160 = .ok (.bipush 20, 2) := by decide +kernel
theorem dL_acts_162 : decode cL_acts 162 = .ok (.iload 4, 2) := by decide +kernel
theorem dL_acts_164 : decode cL_acts 164 = .ok (.bipush 6, 2) := by decide +kernel
theorem dL_acts_166 : decode cL_acts 166 = .ok (.idiv, 1) := by decide +kernel
theorem dL_acts_167 : decode cL_acts 167 = .ok (.iload 4, 2) := by decide +kernel
theorem dL_acts_169 : decode cL_acts 169 = .ok (.iconst 5, 1) := by decide +kernel
theorem dL_acts_170 : decode cL_acts 170 = .ok (.irem, 1) := by decide +kernel
theorem dL_acts_171 : decode cL_acts 171 = .ok (.ifCond .ne 9, 3) := by decide +kernel
theorem dL_acts_174 : decode cL_acts 174 = .ok (.sipush 181, 3) := by decide +kernel
theorem dL_acts_177 : decode cL_acts 177 = .ok (.goto 5, 3) := by decide +kernel
theorem dL_acts_180 : decode cL_acts 180 = .ok (.bipush 40, 2) := by decide +kernel
theorem dL_acts_182 : decode cL_acts 182 = .ok (.irem, 1) := by decide +kernel
theorem dL_acts_183 : decode cL_acts 183 = .ok (.iadd, 1) := by decide +kernel
theorem dL_acts_184 : decode cL_acts 184 = .ok (.goto 57, 3) := by decide +kernel
theorem dL_acts_187 : decode cL_acts 187 = .ok (.iload 9, 2) := by decide +kernel
theorem dL_acts_189 : decode cL_acts 189 = .ok (.iconst 1, 1) := by decide +kernel
theorem dL_acts_190 : decode cL_acts 190 = .ok (.if_icmp .ne 27, 3) := by decide +kernel
theorem dL_acts_193 : decode cL_acts 193 = .ok (.iconst 2, 1) := by decide +kernel
theorem dL_acts_194 : decode cL_acts 194 = .ok (.iload 4, 2) := by decide +kernel
theorem dL_acts_196 : decode cL_acts 196 = .ok (.bipush 6, 2) := by decide +kernel
theorem dL_acts_198 : decode cL_acts 198 = .ok (.idiv, 1) := by decide +kernel
theorem dL_acts_199 : decode cL_acts 199 = .ok (.iload 4, 2) := by decide +kernel
theorem dL_acts_201 : decode cL_acts 201 = .ok (.iconst 5, 1) := by decide +kernel
theorem dL_acts_202 : decode cL_acts 202 = .ok (.irem, 1) := by decide +kernel
theorem dL_acts_203 : decode cL_acts 203 = .ok (.ifCond .ne 8, 3) := by decide +kernel
theorem dL_acts_206 : decode cL_acts 206 = .ok (.bipush 19, 2) := by decide +kernel
theorem dL_acts_208 : decode cL_acts 208 = .ok (.goto 4, 3) := by decide +kernel
theorem dL_acts_211 : decode cL_acts 211 = .ok (.iconst 3, 1) := by decide +kernel
theorem dL_acts_212 : decode cL_acts 212 = .ok (.irem, 1) := by decide +kernel
theorem dL_acts_213 : decode cL_acts 213 = .ok (.iadd, 1) := by decide +kernel
theorem dL_acts_214 : decode cL_acts 214 = .ok (.goto 27, 3) := by decide +kernel
theorem dL_acts_217 : decode cL_acts 217 = .ok (.iload 9, 2) := by decide +kernel
theorem dL_acts_219 : decode cL_acts 219 = .ok (.iconst 5, 1) := by decide +kernel
theorem dL_acts_220 : decode cL_acts 220 = .ok (.if_icmp .ne 13, 3) := by decide +kernel
theorem dL_acts_223 : decode cL_acts 223 = .ok (.iload 4, 2) := by decide +kernel
theorem dL_acts_225 : decode cL_acts 225 = .ok (.bipush 6, 2) := by decide +kernel
theorem dL_acts_227 : decode cL_acts 227 = .ok (.idiv, 1) := by decide +kernel
theorem dL_acts_228 : decode cL_acts 228 = .ok (.iconst 2, 1) := by decide +kernel
theorem dL_acts_229 : decode cL_acts 229 = .ok (.irem, 1) := by decide +kernel
theorem dL_acts_230 : decode cL_acts 230 = .ok (.goto 11, 3) := by decide +kernel
theorem dL_acts_233 : decode cL_acts 233 = .ok (.iload 4, 2) := by decide +kernel
theorem dL_acts_235 : decode cL_acts 235 = .ok (.bipush 6, 2) := by decide +kernel
theorem dL_acts_237 : decode cL_acts 237 = .ok (.idiv, 1) := by decide +kernel
theorem dL_acts_238 : decode cL_acts 238 = .ok (.bipush 11, 2) := by decide +kernel
theorem dL_acts_240 : decode cL_acts 240 = .ok (.irem, 1) := by decide +kernel
theorem dL_acts_241 : decode cL_acts 241 = .ok (.istore 10, 2) := by decide +kernel
theorem dL_acts_243 : decode cL_acts 243 = .ok (.aload_n 1, 1) := by decide +kernel
theorem dL_acts_244 : decode cL_acts 244 = .ok (.iload 9, 2) := by decide +kernel
theorem dL_acts_246 : decode cL_acts 246 = .ok (.iaload, 1) := by decide +kernel
theorem dL_acts_247 : decode cL_acts 247 = .ok (.istore 11, 2) := by decide +kernel
theorem dL_acts_249 : decode cL_acts 249 = .ok (.aload_n 1, 1) := by decide +kernel
theorem dL_acts_250 : decode cL_acts 250 = .ok (.iload 9, 2) := by decide +kernel
theorem dL_acts_252 : decode cL_acts 252 = .ok (.iload 10, 2) := by decide +kernel
theorem dL_acts_254 : decode cL_acts 254 = .ok (.iastore, 1) := by decide +kernel
theorem dL_acts_255 : decode cL_acts 255 = .ok (.aload_n 0, 1) := by decide +kernel
theorem dL_acts_256 : decode cL_acts 256 = .ok (.iload 9, 2) := by decide +kernel
theorem dL_acts_258 : decode cL_acts 258 = .ok (.iload 10, 2) := by decide +kernel
theorem dL_acts_260 : decode cL_acts 260 = .ok (.invokestatic 43, 3) := by decide +kernel
theorem dL_acts_263 : decode cL_acts 263 = .ok (.iload 11, 2) := by decide +kernel
theorem dL_acts_265 : decode cL_acts 265 = .ok (.if_icmp .ne 7, 3) := by decide +kernel
theorem dL_acts_268 : decode cL_acts 268 = .ok (.iconst 1, 1) := by decide +kernel
theorem dL_acts_269 : decode cL_acts 269 = .ok (.goto 4, 3) := by decide +kernel
theorem dL_acts_272 : decode cL_acts 272 = .ok (.iconst 0, 1) := by decide +kernel
theorem dL_acts_273 : decode cL_acts 273 = .ok (.ireturn, 1) := by decide +kernel
theorem dL_acts_274 : decode cL_acts 274 = .ok (.aload_n 1, 1) := by decide +kernel
theorem dL_acts_275 : decode cL_acts 275 = .ok (.bipush 6, 2) := by decide +kernel
theorem dL_acts_277 : decode cL_acts 277 = .ok (.iload 4, 2) := by decide +kernel
theorem dL_acts_279 : decode cL_acts 279 = .ok (.bipush 8, 2) := by decide +kernel
theorem dL_acts_281 : decode cL_acts 281 = .ok (.irem, 1) := by decide +kernel
theorem dL_acts_282 : decode cL_acts 282 = .ok (.iadd, 1) := by decide +kernel
theorem dL_acts_283 : decode cL_acts 283 = .ok (.iaload, 1) := by decide +kernel
theorem dL_acts_284 : decode cL_acts 284 = .ok (.istore 12, 2) := by decide +kernel
theorem dL_acts_286 : decode cL_acts 286 = .ok (.aload_n 1, 1) := by decide +kernel
theorem dL_acts_287 : decode cL_acts 287 = .ok (.bipush 6, 2) := by decide +kernel
theorem dL_acts_289 : decode cL_acts 289 = .ok (.iload 4, 2) := by decide +kernel
theorem dL_acts_291 : decode cL_acts 291 = .ok (.bipush 8, 2) := by decide +kernel
theorem dL_acts_293 : decode cL_acts 293 = .ok (.irem, 1) := by decide +kernel
theorem dL_acts_294 : decode cL_acts 294 = .ok (.iadd, 1) := by decide +kernel
theorem dL_acts_295 : decode cL_acts 295 = .ok (.iload 4, 2) := by decide +kernel
theorem dL_acts_297 : decode cL_acts 297 = .ok (.bipush 8, 2) := by decide +kernel
theorem dL_acts_299 : decode cL_acts 299 = .ok (.idiv, 1) := by decide +kernel
theorem dL_acts_300 : decode cL_acts 300 = .ok (.bipush 101, 2) := by decide +kernel
theorem dL_acts_302 : decode cL_acts 302 = .ok (.irem, 1) := by decide +kernel
theorem dL_acts_303 : decode cL_acts 303 = .ok (.iastore, 1) := by decide +kernel
theorem dL_acts_304 : decode cL_acts 304 = .ok (.aload_n 0, 1) := by decide +kernel
theorem dL_acts_305 : decode cL_acts 305 = .ok (.iload 4, 2) := by decide +kernel
theorem dL_acts_307 : decode cL_acts 307 = .ok (.bipush 8, 2) := by decide +kernel
theorem dL_acts_309 : decode cL_acts 309 = .ok (.irem, 1) := by decide +kernel
theorem dL_acts_310 : decode cL_acts 310 = .ok (.aload_n 1, 1) := by decide +kernel
theorem dL_acts_311 : decode cL_acts 311 = .ok (.bipush 6, 2) := by decide +kernel
theorem dL_acts_313 : decode cL_acts 313 = .ok (.iload 4, 2) := by decide +kernel
theorem dL_acts_315 : decode cL_acts 315 = .ok (.bipush 8, 2) := by decide +kernel
theorem dL_acts_317 : decode cL_acts 317 = .ok (.irem, 1) := by decide +kernel
theorem dL_acts_318 : decode cL_acts 318 = .ok (.iadd, 1) := by decide +kernel
theorem dL_acts_319 : decode cL_acts 319 = .ok (.iaload, 1) := by decide +kernel
theorem dL_acts_320 : decode cL_acts 320 = .ok (.invokestatic 47, 3) := by decide +kernel
theorem dL_acts_323 : decode cL_acts 323 = .ok (.iload 12, 2) := by decide +kernel
theorem dL_acts_325 : decode cL_acts 325 = .ok (.if_icmp .ne 7, 3) := by decide +kernel
theorem dL_acts_328 : decode cL_acts 328 = .ok (.iconst 1, 1) := by decide +kernel
theorem dL_acts_329 : decode cL_acts 329 = .ok (.goto 4, 3) := by decide +kernel
theorem dL_acts_332 : decode cL_acts 332 = .ok (.iconst 0, 1) := by decide +kernel
theorem dL_acts_333 : decode cL_acts 333 = .ok (.ireturn, 1) := by decide +kernel
theorem dL_acts_334 : decode cL_acts 334 = .ok (.iload 5, 2) := by decide +kernel
theorem dL_acts_336 : decode cL_acts 336 = .ok (.ifCond .ne 20, 3) := by decide +kernel
theorem dL_acts_339 : decode cL_acts 339 = .ok (.aload_n 0, 1) := by decide +kernel
theorem dL_acts_340 : decode cL_acts 340 = .ok (.iconst 0, 1) := by decide +kernel
theorem dL_acts_341 : decode cL_acts 341 = .ok (.iconst 1, 1) := by decide +kernel
theorem dL_acts_342 : decode cL_acts 342 = .ok (.invokestatic 50, 3) := by decide +kernel
theorem dL_acts_345 : decode cL_acts 345 = .ok (.ldc 54, 2) := by decide +kernel
theorem dL_acts_347 : decode cL_acts 347 = .ok (.if_icmp .ne 7, 3) := by decide +kernel
theorem dL_acts_350 : decode cL_acts 350 = .ok (.iconst 1, 1) := by decide +kernel
theorem dL_acts_351 : decode cL_acts 351 = .ok (.goto 4, 3) := by decide +kernel
theorem dL_acts_354 : decode cL_acts 354 = .ok (.iconst 0, 1) := by decide +kernel
theorem dL_acts_355 : decode cL_acts 355 = .ok (.ireturn, 1) := by decide +kernel
theorem dL_acts_356 : decode cL_acts 356 = .ok (.aload_n 2, 1) := by decide +kernel
theorem dL_acts_357 : decode cL_acts 357 = .ok (.iconst 5, 1) := by decide +kernel
theorem dL_acts_358 : decode cL_acts 358 = .ok (.iload 6, 2) := by decide +kernel
theorem dL_acts_360 : decode cL_acts 360 = .ok (.imul, 1) := by decide +kernel
theorem dL_acts_361 : decode cL_acts 361 = .ok (.iconst 4, 1) := by decide +kernel
theorem dL_acts_362 : decode cL_acts 362 = .ok (.iadd, 1) := by decide +kernel
theorem dL_acts_363 : decode cL_acts 363 = .ok (.iaload, 1) := by decide +kernel
theorem dL_acts_364 : decode cL_acts 364 = .ok (.istore 13, 2) := by decide +kernel
theorem dL_acts_366 : decode cL_acts 366 = .ok (.aload_n 2, 1) := by decide +kernel
theorem dL_acts_367 : decode cL_acts 367 = .ok (.iconst 5, 1) := by decide +kernel
theorem dL_acts_368 : decode cL_acts 368 = .ok (.iload 6, 2) := by decide +kernel
theorem dL_acts_370 : decode cL_acts 370 = .ok (.imul, 1) := by decide +kernel
theorem dL_acts_371 : decode cL_acts 371 = .ok (.iconst 4, 1) := by decide +kernel
theorem dL_acts_372 : decode cL_acts 372 = .ok (.iadd, 1) := by decide +kernel
theorem dL_acts_373 : decode cL_acts 373 = .ok (.iload 4, 2) := by decide +kernel
theorem dL_acts_375 : decode cL_acts 375 = .ok (.iconst 3, 1) := by decide +kernel
theorem dL_acts_376 : decode cL_acts 376 = .ok (.irem, 1) := by decide +kernel
theorem dL_acts_377 : decode cL_acts 377 = .ok (.ifCond .ne 7, 3) := by decide +kernel
theorem dL_acts_380 : decode cL_acts 380 = .ok (.iconst 0, 1) := by decide +kernel
theorem dL_acts_381 : decode cL_acts 381 = .ok (.goto 4, 3) := by decide +kernel
theorem dL_acts_384 : decode cL_acts 384 = .ok (.iconst 1, 1) := by decide +kernel
theorem dL_acts_385 : decode cL_acts 385 = .ok (.iastore, 1) := by decide +kernel
theorem dL_acts_386 : decode cL_acts 386 = .ok (.aload_n 0, 1) := by decide +kernel
theorem dL_acts_387 : decode cL_acts 387 = .ok (.iload 6, 2) := by decide +kernel
theorem dL_acts_389 : decode cL_acts 389 = .ok (.iload 4, 2) := by decide +kernel
theorem dL_acts_391 : decode cL_acts 391 = .ok (.iconst 3, 1) := by decide +kernel
theorem dL_acts_392 : decode cL_acts 392 = .ok (.irem, 1) := by decide +kernel
theorem dL_acts_393 : decode cL_acts 393 = .ok (.ifCond .le 7, 3) := by decide +kernel
theorem dL_acts_396 : decode cL_acts 396 = .ok (.iconst 1, 1) := by decide +kernel
theorem dL_acts_397 : decode cL_acts 397 = .ok (.goto 4, 3) := by decide +kernel
theorem dL_acts_400 : decode cL_acts 400 = .ok (.iconst 0, 1) := by decide +kernel
theorem dL_acts_401 : decode cL_acts 401 = .ok (.invokestatic 50, 3) := by decide +kernel
theorem dL_acts_404 : decode cL_acts 404 = .ok (.iload 13, 2) := by decide +kernel
theorem dL_acts_406 : decode cL_acts 406 = .ok (.if_icmp .ne 7, 3) := by decide +kernel
theorem dL_acts_409 : decode cL_acts 409 = .ok (.iconst 1, 1) := by decide +kernel
theorem dL_acts_410 : decode cL_acts 410 = .ok (.goto 4, 3) := by decide +kernel
theorem dL_acts_413 : decode cL_acts 413 = .ok (.iconst 0, 1) := by decide +kernel
theorem dL_acts_414 : decode cL_acts 414 = .ok (.ireturn, 1) := by decide +kernel
theorem dL_acts_415 : decode cL_acts 415 = .ok (.iload 5, 2) := by decide +kernel
theorem dL_acts_417 : decode cL_acts 417 = .ok (.ifCond .ne 21, 3) := by decide +kernel
theorem dL_acts_420 : decode cL_acts 420 = .ok (.aload_n 0, 1) := by decide +kernel
theorem dL_acts_421 : decode cL_acts 421 = .ok (.iconst 0, 1) := by decide +kernel
theorem dL_acts_422 : decode cL_acts 422 = .ok (.iconst (-1), 1) := by decide +kernel
theorem dL_acts_423 : decode cL_acts 423 = .ok (.iconst 1, 1) := by decide +kernel
theorem dL_acts_424 : decode cL_acts 424 = .ok (.invokestatic 55, 3) := by decide +kernel
theorem dL_acts_427 : decode cL_acts 427 = .ok (.ldc 54, 2) := by decide +kernel
theorem dL_acts_429 : decode cL_acts 429 = .ok (.if_icmp .ne 7, 3) := by decide +kernel
theorem dL_acts_432 : decode cL_acts 432 = .ok (.iconst 1, 1) := by decide +kernel
theorem dL_acts_433 : decode cL_acts 433 = .ok (.goto 4, 3) := by decide +kernel
theorem dL_acts_436 : decode cL_acts 436 = .ok (.iconst 0, 1) := by decide +kernel
theorem dL_acts_437 : decode cL_acts 437 = .ok (.ireturn, 1) := by decide +kernel
theorem dL_acts_438 : decode cL_acts 438 = .ok (.aload_n 2, 1) := by decide +kernel
theorem dL_acts_439 : decode cL_acts 439 = .ok (.iconst 5, 1) := by decide +kernel
theorem dL_acts_440 : decode cL_acts 440 = .ok (.iload 6, 2) := by decide +kernel
theorem dL_acts_442 : decode cL_acts 442 = .ok (.imul, 1) := by decide +kernel
theorem dL_acts_443 : decode cL_acts 443 = .ok (.iconst 2, 1) := by decide +kernel
theorem dL_acts_444 : decode cL_acts 444 = .ok (.iadd, 1) := by decide +kernel
theorem dL_acts_445 : decode cL_acts 445 = .ok (.iload 7, 2) := by decide +kernel
theorem dL_acts_447 : decode cL_acts 447 = .ok (.iastore, 1) := by decide +kernel
theorem dL_acts_448 : decode cL_acts 448 = .ok (.aload_n 2, 1) := by decide +kernel
theorem dL_acts_449 : decode cL_acts 449 = .ok (.iconst 5, 1) := by decide +kernel
theorem dL_acts_450 : decode cL_acts 450 = .ok (.iload 6, 2) := by decide +kernel
theorem dL_acts_452 : decode cL_acts 452 = .ok (.imul, 1) := by decide +kernel
theorem dL_acts_453 : decode cL_acts 453 = .ok (.iconst 3, 1) := by decide +kernel
theorem dL_acts_454 : decode cL_acts 454 = .ok (.iadd, 1) := by decide +kernel
theorem dL_acts_455 : decode cL_acts 455 = .ok (.iload 8, 2) := by decide +kernel
theorem dL_acts_457 : decode cL_acts 457 = .ok (.iastore, 1) := by decide +kernel
theorem dL_acts_458 : decode cL_acts 458 = .ok (.aload_n 0, 1) := by decide +kernel
theorem dL_acts_459 : decode cL_acts 459 = .ok (.iload 6, 2) := by decide +kernel
theorem dL_acts_461 : decode cL_acts 461 = .ok (.iload 7, 2) := by decide +kernel
theorem dL_acts_463 : decode cL_acts 463 = .ok (.iload 8, 2) := by decide +kernel
theorem dL_acts_465 : decode cL_acts 465 = .ok (.invokestatic 55, 3) := by decide +kernel
theorem dL_acts_468 : decode cL_acts 468 = .ok (.aload_n 2, 1) := by decide +kernel
theorem dL_acts_469 : decode cL_acts 469 = .ok (.iload 6, 2) := by decide +kernel
theorem dL_acts_471 : decode cL_acts 471 = .ok (.invokestatic 15, 3) := by decide +kernel
theorem dL_acts_474 : decode cL_acts 474 = .ok (.if_icmp .ne 7, 3) := by decide +kernel
theorem dL_acts_477 : decode cL_acts 477 = .ok (.iconst 1, 1) := by decide +kernel
theorem dL_acts_478 : decode cL_acts 478 = .ok (.goto 4, 3) := by decide +kernel
theorem dL_acts_481 : decode cL_acts 481 = .ok (.iconst 0, 1) := by decide +kernel
theorem dL_acts_482 : decode cL_acts 482 = .ok (.ireturn, 1) := by decide +kernel
theorem dL_acts_483 : decode cL_acts 483 = .ok (.iload 5, 2) := by decide +kernel
theorem dL_acts_485 : decode cL_acts 485 = .ok (.ifCond .eq 10, 3) := by decide +kernel
theorem dL_acts_488 : decode cL_acts 488 = .ok (.iload 4, 2) := by decide +kernel
theorem dL_acts_490 : decode cL_acts 490 = .ok (.iconst 3, 1) := by decide +kernel
theorem dL_acts_491 : decode cL_acts 491 = .ok (.irem, 1) := by decide +kernel
theorem dL_acts_492 : decode cL_acts 492 = .ok (.ifCond .le 20, 3) := by decide +kernel
theorem dL_acts_495 : decode cL_acts 495 = .ok (.aload_n 0, 1) := by decide +kernel
theorem dL_acts_496 : decode cL_acts 496 = .ok (.iload 5, 2) := by decide +kernel
theorem dL_acts_498 : decode cL_acts 498 = .ok (.invokestatic 59, 3) := by decide +kernel
theorem dL_acts_501 : decode cL_acts 501 = .ok (.ldc 54, 2) := by decide +kernel
theorem dL_acts_503 : decode cL_acts 503 = .ok (.if_icmp .ne 7, 3) := by decide +kernel
theorem dL_acts_506 : decode cL_acts 506 = .ok (.iconst 1, 1) := by decide +kernel
theorem dL_acts_507 : decode cL_acts 507 = .ok (.goto 4, 3) := by decide +kernel
theorem dL_acts_510 : decode cL_acts 510 = .ok (.iconst 0, 1) := by decide +kernel
theorem dL_acts_511 : decode cL_acts 511 = .ok (.ireturn, 1) := by decide +kernel
theorem dL_acts_512 : decode cL_acts 512 = .ok (.iconst 5, 1) := by decide +kernel
theorem dL_acts_513 : decode cL_acts 513 = .ok (.iload 6, 2) := by decide +kernel
theorem dL_acts_515 : decode cL_acts 515 = .ok (.imul, 1) := by decide +kernel
theorem dL_acts_516 : decode cL_acts 516 = .ok (.istore 14, 2) := by decide +kernel
theorem dL_acts_518 : decode cL_acts 518 = .ok (.iload 14, 2) := by decide +kernel
theorem dL_acts_520 : decode cL_acts 520 = .ok (.bipush 45, 2) := by decide +kernel
theorem dL_acts_522 : decode cL_acts 522 = .ok (.if_icmp .ge 19, 3) := by decide +kernel
theorem dL_acts_525 : decode cL_acts 525 = .ok (.aload_n 2, 1) := by decide +kernel
theorem dL_acts_526 : decode cL_acts 526 = .ok (.iload 14, 2) := by decide +kernel
theorem dL_acts_528 : decode cL_acts 528 = .ok (.aload_n 2, 1) := by decide +kernel
theorem dL_acts_529 : decode cL_acts 529 = .ok (.iload 14, 2) := by decide +kernel
theorem dL_acts_531 : decode cL_acts 531 = .ok (.iconst 5, 1) := by decide +kernel
theorem dL_acts_532 : decode cL_acts 532 = .ok (.iadd, 1) := by decide +kernel
theorem dL_acts_533 : decode cL_acts 533 = .ok (.iaload, 1) := by decide +kernel
theorem dL_acts_534 : decode cL_acts 534 = .ok (.iastore, 1) := by decide +kernel
theorem dL_acts_535 : decode cL_acts 535 = .ok (.iinc 14 1, 3) := by decide +kernel
theorem dL_acts_538 : decode cL_acts 538 = .ok (.goto (-20), 3) := by decide +kernel
theorem dL_acts_541 : decode cL_acts 541 = .ok (.aload_n 1, 1) := by decide +kernel
theorem dL_acts_542 : decode cL_acts 542 = .ok (.bipush 14, 2) := by decide +kernel
theorem dL_acts_544 : decode cL_acts 544 = .ok (.dup2, 1) := by decide +kernel
theorem dL_acts_545 : decode cL_acts 545 = .ok (.iaload, 1) := by decide +kernel
theorem dL_acts_546 : decode cL_acts 546 = .ok (.iconst 1, 1) := by decide +kernel
theorem dL_acts_547 : decode cL_acts 547 = .ok (.isub, 1) := by decide +kernel
theorem dL_acts_548 : decode cL_acts 548 = .ok (.iastore, 1) := by decide +kernel
theorem dL_acts_549 : decode cL_acts 549 = .ok (.aload_n 0, 1) := by decide +kernel
theorem dL_acts_550 : decode cL_acts 550 = .ok (.iload 6, 2) := by decide +kernel
theorem dL_acts_552 : decode cL_acts 552 = .ok (.invokestatic 59, 3) := by decide +kernel
theorem dL_acts_555 : decode cL_acts 555 = .ok (.iload 5, 2) := by decide +kernel
theorem dL_acts_557 : decode cL_acts 557 = .ok (.iconst 1, 1) := by decide +kernel
theorem dL_acts_558 : decode cL_acts 558 = .ok (.isub, 1) := by decide +kernel
theorem dL_acts_559 : decode cL_acts 559 = .ok (.if_icmp .ne 7, 3) := by decide +kernel
theorem dL_acts_562 : decode cL_acts 562 = .ok (.iconst 1, 1) := by decide +kernel
theorem dL_acts_563 : decode cL_acts 563 = .ok (.goto 4, 3) := by decide +kernel
theorem dL_acts_566 : decode cL_acts 566 = .ok (.iconst 0, 1) := by decide +kernel
theorem dL_acts_567 : decode cL_acts 567 = .ok (.ireturn, 1) := by decide +kernel
theorem dL_acts_568 : decode cL_acts 568 = .ok (.iload 5, 2) := by decide +kernel
theorem dL_acts_570 : decode cL_acts 570 = .ok (.bipush 10, 2) := by decide +kernel
theorem dL_acts_572 : decode cL_acts 572 = .ok (.if_icmp .ne 24, 3) := by decide +kernel
theorem dL_acts_575 : decode cL_acts 575 = .ok (.aload_n 0, 1) := by decide +kernel
theorem dL_acts_576 : decode cL_acts 576 = .ok (.iconst 0, 1) := by decide +kernel
theorem dL_acts_577 : decode cL_acts 577 = .ok (.iconst 0, 1) := by decide +kernel
theorem dL_acts_578 : decode cL_acts 578 = .ok (.bipush 13, 2) := by decide +kernel
theorem dL_acts_580 : decode cL_acts 580 = .ok (.iconst (-1), 1) := by decide +kernel
theorem dL_acts_581 : decode cL_acts 581 = .ok (.iconst (-1), 1) := by decide +kernel
theorem dL_acts_582 : decode cL_acts 582 = .ok (.invokestatic 63, 3) := by decide +kernel
theorem dL_acts_585 : decode cL_acts 585 = .ok (.ldc 67, 2) := by decide +kernel
theorem dL_acts_587 : decode cL_acts 587 = .ok (.if_icmp .ne 7, 3) := by decide +kernel
theorem dL_acts_590 : decode cL_acts 590 = .ok (.iconst 1, 1) := by decide +kernel
theorem dL_acts_591 : decode cL_acts 591 = .ok (.goto 4, 3) := by decide +kernel
theorem dL_acts_594 : decode cL_acts 594 = .ok (.iconst 0, 1) := by decide +kernel
theorem dL_acts_595 : decode cL_acts 595 = .ok (.ireturn, 1) := by decide +kernel
theorem dL_acts_596 : decode cL_acts 596 = .ok (.iload 4, 2) := by decide +kernel
theorem dL_acts_598 : decode cL_acts 598 = .ok (.bipush 7, 2) := by decide +kernel
theorem dL_acts_600 : decode cL_acts 600 = .ok (.idiv, 1) := by decide +kernel
theorem dL_acts_601 : decode cL_acts 601 = .ok (.iload 5, 2) := by decide +kernel
theorem dL_acts_603 : decode cL_acts 603 = .ok (.iconst 1, 1) := by decide +kernel
theorem dL_acts_604 : decode cL_acts 604 = .ok (.iadd, 1) := by decide +kernel
theorem dL_acts_605 : decode cL_acts 605 = .ok (.irem, 1) := by decide +kernel
theorem dL_acts_606 : decode cL_acts 606 = .ok (.istore 14, 2) := by decide +kernel
theorem dL_acts_608 : decode cL_acts 608 = .ok (.iconst 5, 1) := by decide +kernel
theorem dL_acts_609 : decode cL_acts 609 = .ok (.iload 5, 2) := by decide +kernel
theorem dL_acts_611 : decode cL_acts 611 = .ok (.imul, 1) := by decide +kernel
theorem dL_acts_612 : decode cL_acts 612 = .ok (.iconst 4, 1) := by decide +kernel
theorem dL_acts_613 : decode cL_acts 613 = .ok (.iadd, 1) := by decide +kernel
theorem dL_acts_614 : decode cL_acts 614 = .ok (.istore 15, 2) := by decide +kernel
theorem dL_acts_616 : decode cL_acts 616 = .ok (.iload 15, 2) := by decide +kernel
theorem dL_acts_618 : decode cL_acts 618 = .ok (.iconst 5, 1) := by decide +kernel
theorem dL_acts_619 : decode cL_acts 619 = .ok (.iload 14, 2) := by decide +kernel
theorem dL_acts_621 : decode cL_acts 621 = .ok (.imul, 1) := by decide +kernel
theorem dL_acts_622 : decode cL_acts 622 = .ok (.iconst 5, 1) := by decide +kernel
theorem dL_acts_623 : decode cL_acts 623 = .ok (.iadd, 1) := by decide +kernel
theorem dL_acts_624 : decode cL_acts 624 = .ok (.if_icmp .lt 19, 3) := by decide +kernel
theorem dL_acts_627 : decode cL_acts 627 = .ok (.aload_n 2, 1) := by decide +kernel
theorem dL_acts_628 : decode cL_acts 628 = .ok (.iload 15, 2) := by decide +kernel
theorem dL_acts_630 : decode cL_acts 630 = .ok (.aload_n 2, 1) := by decide +kernel
theorem dL_acts_631 : decode cL_acts 631 = .ok (.iload 15, 2) := by decide +kernel
theorem dL_acts_633 : decode cL_acts 633 = .ok (.iconst 5, 1) := by decide +kernel
theorem dL_acts_634 : decode cL_acts 634 = .ok (.isub, 1) := by decide +kernel
theorem dL_acts_635 : decode cL_acts 635 = .ok (.iaload, 1) := by decide +kernel
theorem dL_acts_636 : decode cL_acts 636 = .ok (.iastore, 1) := by decide +kernel
theorem dL_acts_637 : decode cL_acts 637 = .ok (.iinc 15 (-1), 3) := by decide +kernel
theorem dL_acts_640 : decode cL_acts 640 = .ok (.goto (-24), 3) := by decide +kernel
theorem dL_acts_643 : decode cL_acts 643 = .ok (.aload_n 2, 1) := by decide +kernel
theorem dL_acts_644 : decode cL_acts 644 = .ok (.iconst 5, 1) := by decide +kernel
theorem dL_acts_645 : decode cL_acts 645 = .ok (.iload 14, 2) := by decide +kernel
theorem dL_acts_647 : decode cL_acts 647 = .ok (.imul, 1) := by decide +kernel
theorem dL_acts_648 : decode cL_acts 648 = .ok (.iload 4, 2) := by decide +kernel
theorem dL_acts_650 : decode cL_acts 650 = .ok (.bipush 26, 2) := by decide +kernel
theorem dL_acts_652 : decode cL_acts 652 = .ok (.irem, 1) := by decide +kernel
theorem dL_acts_653 : decode cL_acts 653 = .ok (.iastore, 1) := by decide +kernel
theorem dL_acts_654 : decode cL_acts 654 = .ok (.aload_n 2, 1) := by decide +kernel
theorem dL_acts_655 : decode cL_acts 655 = .ok (.iconst 5, 1) := by decide +kernel
theorem dL_acts_656 : decode cL_acts 656 = .ok (.iload 14, 2) := by decide +kernel
theorem dL_acts_658 : decode cL_acts 658 = .ok (.imul, 1) := by decide +kernel
theorem dL_acts_659 : decode cL_acts 659 = .ok (.iconst 1, 1) := by decide +kernel
theorem dL_acts_660 : decode cL_acts 660 = .ok (.iadd, 1) := by decide +kernel
theorem dL_acts_661 : decode cL_acts 661 = .ok (.iconst 1, 1) := by decide +kernel
theorem dL_acts_662 : decode cL_acts 662 = .ok (.iload 4, 2) := by decide +kernel
theorem dL_acts_664 : decode cL_acts 664 = .ok (.bipush 26, 2) := by decide +kernel
theorem dL_acts_666 : decode cL_acts 666 = .ok (.idiv, 1) := by decide +kernel
theorem dL_acts_667 : decode cL_acts 667 = .ok (.bipush 12, 2) := by decide +kernel
theorem dL_acts_669 : decode cL_acts 669 = .ok (.irem, 1) := by decide +kernel
theorem dL_acts_670 : decode cL_acts 670 = .ok (.iadd, 1) := by decide +kernel
theorem dL_acts_671 : decode cL_acts 671 = .ok (.iastore, 1) := by decide +kernel
theorem dL_acts_672 : decode cL_acts 672 = .ok (.aload_n 2, 1) := by decide +kernel
theorem dL_acts_673 : decode cL_acts 673 = .ok (.iconst 5, 1) := by decide +kernel
theorem dL_acts_674 : decode cL_acts 674 = .ok (.iload 14, 2) := by decide +kernel
theorem dL_acts_676 : decode cL_acts 676 = .ok (.imul, 1) := by decide +kernel
theorem dL_acts_677 : decode cL_acts 677 = .ok (.iconst 2, 1) := by decide +kernel
theorem dL_acts_678 : decode cL_acts 678 = .ok (.iadd, 1) := by decide +kernel
theorem dL_acts_679 : decode cL_acts 679 = .ok (.iload 7, 2) := by decide +kernel
theorem dL_acts_681 : decode cL_acts 681 = .ok (.iastore, 1) := by decide +kernel
theorem dL_acts_682 : decode cL_acts 682 = .ok (.aload_n 2, 1) := by decide +kernel
theorem dL_acts_683 : decode cL_acts 683 = .ok (.iconst 5, 1) := by decide +kernel
theorem dL_acts_684 : decode cL_acts 684 = .ok (.iload 14, 2) := by decide +kernel
theorem dL_acts_686 : decode cL_acts 686 = .ok (.imul, 1) := by decide +kernel
theorem dL_acts_687 : decode cL_acts 687 = .ok (.iconst 3, 1) := by decide +kernel
theorem dL_acts_688 : decode cL_acts 688 = .ok (.iadd, 1) := by decide +kernel
theorem dL_acts_689 : decode cL_acts 689 = .ok (.iload 8, 2) := by decide +kernel
theorem dL_acts_691 : decode cL_acts 691 = .ok (.iastore, 1) := by decide +kernel
theorem dL_acts_692 : decode cL_acts 692 = .ok (.aload_n 2, 1) := by decide +kernel
theorem dL_acts_693 : decode cL_acts 693 = .ok (.iconst 5, 1) := by decide +kernel
theorem dL_acts_694 : decode cL_acts 694 = .ok (.iload 14, 2) := by decide +kernel
theorem dL_acts_696 : decode cL_acts 696 = .ok (.imul, 1) := by decide +kernel
theorem dL_acts_697 : decode cL_acts 697 = .ok (.iconst 4, 1) := by decide +kernel
theorem dL_acts_698 : decode cL_acts 698 = .ok (.iadd, 1) := by decide +kernel
theorem dL_acts_699 : decode cL_acts 699 = .ok (.iconst 0, 1) := by decide +kernel
theorem dL_acts_700 : decode cL_acts 700 = .ok (.iastore, 1) := by decide +kernel
theorem dL_acts_701 : decode cL_acts 701 = .ok (.aload_n 1, 1) := by decide +kernel
theorem dL_acts_702 : decode cL_acts 702 = .ok (.bipush 14, 2) := by decide +kernel
theorem dL_acts_704 : decode cL_acts 704 = .ok (.dup2, 1) := by decide +kernel
theorem dL_acts_705 : decode cL_acts 705 = .ok (.iaload, 1) := by decide +kernel
theorem dL_acts_706 : decode cL_acts 706 = .ok (.iconst 1, 1) := by decide +kernel
theorem dL_acts_707 : decode cL_acts 707 = .ok (.iadd, 1) := by decide +kernel
theorem dL_acts_708 : decode cL_acts 708 = .ok (.iastore, 1) := by decide +kernel
theorem dL_acts_709 : decode cL_acts 709 = .ok (.aload_n 0, 1) := by decide +kernel
theorem dL_acts_710 : decode cL_acts 710 = .ok (.iload 14, 2) := by decide +kernel
theorem dL_acts_712 : decode cL_acts 712 = .ok (.iload 4, 2) := by decide +kernel
theorem dL_acts_714 : decode cL_acts 714 = .ok (.bipush 26, 2) := by decide +kernel
theorem dL_acts_716 : decode cL_acts 716 = .ok (.irem, 1) := by decide +kernel
theorem dL_acts_717 : decode cL_acts 717 = .ok (.aload_n 2, 1) := by decide +kernel
theorem dL_acts_718 : decode cL_acts 718 = .ok (.iconst 5, 1) := by decide +kernel
theorem dL_acts_719 : decode cL_acts 719 = .ok (.iload 14, 2) := by decide +kernel
theorem dL_acts_721 : decode cL_acts 721 = .ok (.imul, 1) := by decide +kernel
theorem dL_acts_722 : decode cL_acts 722 = .ok (.iconst 1, 1) := by decide +kernel
theorem dL_acts_723 : decode cL_acts 723 = .ok (.iadd, 1) := by decide +kernel
theorem dL_acts_724 : decode cL_acts 724 = .ok (.iaload, 1) := by decide +kernel
theorem dL_acts_725 : decode cL_acts 725 = .ok (.iload 7, 2) := by decide +kernel
theorem dL_acts_727 : decode cL_acts 727 = .ok (.iload 8, 2) := by decide +kernel
theorem dL_acts_729 : decode cL_acts 729 = .ok (.invokestatic 63, 3) := by decide +kernel
theorem dL_acts_732 : decode cL_acts 732 = .ok (.iload 5, 2) := by decide +kernel
theorem dL_acts_734 : decode cL_acts 734 = .ok (.iconst 1, 1) := by decide +kernel
theorem dL_acts_735 : decode cL_acts 735 = .ok (.iadd, 1) := by decide +kernel
theorem dL_acts_736 : decode cL_acts 736 = .ok (.if_icmp .ne 7, 3) := by decide +kernel
theorem dL_acts_739 : decode cL_acts 739 = .ok (.iconst 1, 1) := by decide +kernel
theorem dL_acts_740 : decode cL_acts 740 = .ok (.goto 4, 3) := by decide +kernel
theorem dL_acts_743 : decode cL_acts 743 = .ok (.iconst 0, 1) := by decide +kernel
theorem dL_acts_744 : decode cL_acts 744 = .ok (.ireturn, 1) := by decide +kernel
theorem dL_starts_0 : decode cL_starts 0 = .ok (.aload_n 0, 1) := by decide +kernel
theorem dL_starts_1 : decode cL_starts 1 = .ok (.iconst 0, 1) := by decide +kernel
theorem dL_starts_2 : decode cL_starts 2 = .ok (.bipush 60, 2) := by decide +kernel
theorem dL_starts_4 : decode cL_starts 4 = .ok (.iastore, 1) := by decide +kernel
theorem dL_starts_5 : decode cL_starts 5 = .ok (.aload_n 0, 1) := by decide +kernel
theorem dL_starts_6 : decode cL_starts 6 = .ok (.iconst 1, 1) := by decide +kernel
theorem dL_starts_7 : decode cL_starts 7 = .ok (.bipush 6, 2) := by decide +kernel
theorem dL_starts_9 : decode cL_starts 9 = .ok (.iastore, 1) := by decide +kernel
theorem dL_starts_10 : decode cL_starts 10 = .ok (.aload_n 0, 1) := by decide +kernel
theorem dL_starts_11 : decode cL_starts 11 = .ok (.iconst 2, 1) := by decide +kernel
theorem dL_starts_12 : decode cL_starts 12 = .ok (.iconst 3, 1) := by decide +kernel
theorem dL_starts_13 : decode cL_starts 13 = .ok (.iastore, 1) := by decide +kernel
theorem dL_starts_14 : decode cL_starts 14 = .ok (.aload_n 0, 1) := by decide +kernel
theorem dL_starts_15 : decode cL_starts 15 = .ok (.iconst 3, 1) := by decide +kernel
theorem dL_starts_16 : decode cL_starts 16 = .ok (.iconst 3, 1) := by decide +kernel
theorem dL_starts_17 : decode cL_starts 17 = .ok (.iastore, 1) := by decide +kernel
theorem dL_starts_18 : decode cL_starts 18 = .ok (.aload_n 0, 1) := by decide +kernel
theorem dL_starts_19 : decode cL_starts 19 = .ok (.iconst 4, 1) := by decide +kernel
theorem dL_starts_20 : decode cL_starts 20 = .ok (.iconst 2, 1) := by decide +kernel
theorem dL_starts_21 : decode cL_starts 21 = .ok (.iastore, 1) := by decide +kernel

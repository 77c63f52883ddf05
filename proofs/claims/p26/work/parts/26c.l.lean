set_option maxRecDepth 20000 in
theorem ggL_act_X0_set : GoodIn wsL_act wsX0_set := goodIn_ca (goodIn_ca (goodIn_r _ [213, 85, 86, 87, 20, 88, 89, 90, 214, 215, 216, 217, 38, 206, 207, 208, 209, 22, 23, 39, 95, 96, 97, 98, 43, 99, 100, 101, 102, 222, 223, 224, 225, 226, 227, 228] (by decide +kernel) (by decide +kernel)) (goodIn_sub (fun _ h => List.mem_cons_of_mem _ (List.mem_append_right _ h)) (by decide +kernel))) (goodIn_sub (fun _ h => List.mem_cons_of_mem _ (List.mem_append_left _ (List.mem_append_right _ h))) (by decide +kernel))
set_option maxRecDepth 20000 in
theorem gL_act_X0_set : GoodIn wsL_act (wsV RL 99 RX0 yX0_set wsX0_set) := goodIn_app (goodIn_of _ (by decide +kernel)) ggL_act_X0_set
theorem dL_act_0 : decode cL_act 0 = .ok (.iload_n 2, 1) := by decide +kernel
theorem dL_act_1 : decode cL_act 1 = .ok (.iconst 4, 1) := by decide +kernel
theorem dL_act_2 : decode cL_act 2 = .ok (.ishr, 1) := by decide +kernel
theorem dL_act_3 : decode cL_act 3 = .ok (.iconst 4, 1) := by decide +kernel
theorem dL_act_4 : decode cL_act 4 = .ok (.invokestatic 9, 3) := by decide +kernel
theorem dL_act_7 : decode cL_act 7 = .ok (.istore_n 3, 1) := by decide +kernel
theorem dL_act_8 : decode cL_act 8 = .ok (.iload_n 2, 1) := by decide +kernel
theorem dL_act_9 : decode cL_act 9 = .ok (.bipush 6, 2) := by decide +kernel
theorem dL_act_11 : decode cL_act 11 = .ok (.ishr, 1) := by decide +kernel
theorem dL_act_12 : decode cL_act 12 = .ok (.iconst 4, 1) := by decide +kernel
theorem dL_act_13 : decode cL_act 13 = .ok (.invokestatic 9, 3) := by decide +kernel
theorem dL_act_16 : decode cL_act 16 = .ok (.istore 4, 2) := by decide +kernel
theorem dL_act_18 : decode cL_act 18 = .ok (.aload_n 1, 1) := by decide +kernel
theorem dL_act_19 : decode cL_act 19 = .ok (.getfield 15, 3) := by decide +kernel
theorem dL_act_22 : decode cL_act 22 = .ok (.istore 5, 2) := by decide +kernel
theorem dL_act_24 : decode cL_act 24 = .ok (.iload_n 2, 1) := by decide +kernel
theorem dL_act_25 : decode cL_act 25 = .ok (.bipush 16, 2) := by decide +kernel
theorem dL_act_27 : decode cL_act 27 = .ok (.invokestatic 9, 3) := by decide +kernel
theorem dL_act_30 : decode cL_act 30 = .ok (.tableswitch 698 0 10 #[58, 132, 187, 187, 263, 312, 385, 432, 432, 565, 618], 58) := by decide +kernel
theorem dL_act_88 : decode cL_act 88 = .ok (.iload_n 2, 1) := by decide +kernel
theorem dL_act_89 : decode cL_act 89 = .ok (.bipush 8, 2) := by decide +kernel
theorem dL_act_91 : decode cL_act 91 = .ok (.ishr, 1) := by decide +kernel
theorem dL_act_92 : decode cL_act 92 = .ok (.iconst 5, 1) := by decide +kernel
theorem dL_act_93 : decode cL_act 93 = .ok (.invokestatic 9, 3) := by decide +kernel
theorem dL_act_96 : decode cL_act 96 = .ok (.ifCond .le 5, 3) := by decide +kernel
theorem dL_act_99 : decode cL_act 99 = .ok (.iconst 1, 1) := by decide +kernel
theorem dL_act_100 : decode cL_act 100 = .ok (.ireturn, 1) := by decide +kernel
theorem dL_act_101 : decode cL_act 101 = .ok (.iconst 2, 1) := by decide +kernel
theorem dL_act_102 : decode cL_act 102 = .ok (.iload_n 2, 1) := by decide +kernel
theorem dL_act_103 : decode cL_act 103 = .ok (.iconst 4, 1) := by decide +kernel
theorem dL_act_104 : decode cL_act 104 = .ok (.ishr, 1) := by decide +kernel
theorem dL_act_105 : decode cL_act 105 = .ok (.getstatic 21, 3) := by decide +kernel
theorem dL_act_108 : decode cL_act 108 = .ok (.arraylength, 1) := by decide +kernel
theorem dL_act_109 : decode cL_act 109 = .ok (.iconst 2, 1) := by decide +kernel
theorem dL_act_110 : decode cL_act 110 = .ok (.idiv, 1) := by decide +kernel
theorem dL_act_111 : decode cL_act 111 = .ok (.invokestatic 9, 3) := by decide +kernel
theorem dL_act_114 : decode cL_act 114 = .ok (.imul, 1) := by decide +kernel
theorem dL_act_115 : decode cL_act 115 = .ok (.istore 6, 2) := by decide +kernel
theorem dL_act_117 : decode cL_act 117 = .ok (.aload_n 0, 1) := by decide +kernel
theorem dL_act_118 : decode cL_act 118 = .ok (.getstatic 21, 3) := by decide +kernel
theorem dL_act_121 : decode cL_act 121 = .ok (.iload 6, 2) := by decide +kernel
theorem dL_act_123 : decode cL_act 123 = .ok (.iaload, 1) := by decide +kernel
theorem dL_act_124 : decode cL_act 124 = .ok (.getstatic 21, 3) := by decide +kernel
theorem dL_act_127 : decode cL_act 127 = .ok (.iload 6, 2) := by decide +kernel
theorem dL_act_129 : decode cL_act 129 = .ok (.iconst 1, 1) := by decide +kernel
theorem dL_act_130 : decode cL_act 130 = .ok (.iadd, 1) := by decide +kernel
theorem dL_act_131 : decode cL_act 131 = .ok (.iaload, 1) := by decide +kernel
theorem dL_act_132 : decode cL_act 132 = .ok (.invokevirtual 25, 3) := by decide +kernel
theorem dL_act_135 : decode cL_act 135 = .ok (.aload_n 1, 1) := by decide +kernel
theorem dL_act_136 : decode cL_act 136 = .ok (.getstatic 21, 3) := by decide +kernel
theorem dL_act_139 : decode cL_act 139 = .ok (.iload 6, 2) := by decide +kernel
theorem dL_act_141 : decode cL_act 141 = .ok (.iaload, 1) := by decide +kernel
theorem dL_act_142 : decode cL_act 142 = .ok (.getstatic 21, 3) := by decide +kernel
theorem dL_act_145 : decode cL_act 145 = .ok (.iload 6, 2) := by decide +kernel
theorem dL_act_147 : decode cL_act 147 = .ok (.iconst 1, 1) := by decide +kernel
theorem dL_act_148 : decode cL_act 148 = .ok (.iadd, 1) := by decide +kernel
theorem dL_act_149 : decode cL_act 149 = .ok (.iaload, 1) := by decide +kernel
theorem dL_act_150 : decode cL_act 150 = .ok (.invokevirtual 30, 3) := by decide +kernel
theorem dL_act_153 : decode cL_act 153 = .ok (.if_icmp .ne 7, 3) := by decide +kernel
theorem dL_act_156 : decode cL_act 156 = .ok (.iconst 1, 1) := by decide +kernel
theorem dL_act_157 : decode cL_act 157 = .ok (.goto 4, 3) := by decide +kernel
theorem dL_act_160 : decode cL_act 160 = .ok (.iconst 0, 1) := by decide +kernel
theorem dL_act_161 : decode cL_act 161 = .ok (.ireturn, 1) := by decide +kernel
theorem dL_act_162 : decode cL_act 162 = .ok (.aload_n 1, 1) := by decide +kernel
theorem dL_act_163 : decode cL_act 163 = .ok (.getfield 31, 3) := by decide +kernel
theorem dL_act_166 : decode cL_act 166 = .ok (.iload_n 3, 1) := by decide +kernel
theorem dL_act_167 : decode cL_act 167 = .ok (.aaload, 1) := by decide +kernel
theorem dL_act_168 : decode cL_act 168 = .ok (.aload_n 1, 1) := by decide +kernel
theorem dL_act_169 : decode cL_act 169 = .ok (.getfield 31, 3) := by decide +kernel
theorem dL_act_172 : decode cL_act 172 = .ok (.iload 4, 2) := by decide +kernel
theorem dL_act_174 : decode cL_act 174 = .ok (.aaload, 1) := by decide +kernel
theorem dL_act_175 : decode cL_act 175 = .ok (.invokestatic 35, 3) := by decide +kernel
theorem dL_act_178 : decode cL_act 178 = .ok (.istore 6, 2) := by decide +kernel
theorem dL_act_180 : decode cL_act 180 = .ok (.aload_n 1, 1) := by decide +kernel
theorem dL_act_181 : decode cL_act 181 = .ok (.getfield 31, 3) := by decide +kernel
theorem dL_act_184 : decode cL_act 184 = .ok (.iload 4, 2) := by decide +kernel
theorem dL_act_186 : decode cL_act 186 = .ok (.aload_n 1, 1) := by decide +kernel
theorem dL_act_187 : decode cL_act 187 = .ok (.getfield 31, 3) := by decide +kernel
theorem dL_act_190 : decode cL_act 190 = .ok (.iload_n 3, 1) := by decide +kernel
theorem dL_act_191 : decode cL_act 191 = .ok (.aaload, 1) := by decide +kernel
theorem dL_act_192 : decode cL_act 192 = .ok (.invokevirtual 39, 3) := by decide +kernel
theorem dL_act_195 : decode cL_act 195 = .ok (.checkcast 40, 3) := by decide +kernel
theorem dL_act_198 : decode cL_act 198 = .ok (.aastore, 1) := by decide +kernel
theorem dL_act_199 : decode cL_act 199 = .ok (.aload_n 0, 1) := by decide +kernel
theorem dL_act_200 : decode cL_act 200 = .ok (.iload_n 3, 1) := by decide +kernel
theorem dL_act_201 : decode cL_act 201 = .ok (.iload 4, 2) := by decide +kernel
theorem dL_act_203 : decode cL_act 203 = .ok (.invokevirtual 44, 3) := by decide +kernel
theorem dL_act_206 : decode cL_act 206 = .ok (.iload 6, 2) := by decide +kernel
theorem dL_act_208 : decode cL_act 208 = .ok (.if_icmp .ne 7, 3) := by decide +kernel
theorem dL_act_211 : decode cL_act 211 = .ok (.iconst 1, 1) := by decide +kernel
theorem dL_act_212 : decode cL_act 212 = .ok (.goto 4, 3) := by decide +kernel
theorem dL_act_215 : decode cL_act 215 = .ok (.iconst 0, 1) := by decide +kernel
theorem dL_act_216 : decode cL_act 216 = .ok (.ireturn, 1) := by decide +kernel
theorem dL_act_217 : decode cL_act 217 = .ok (.iload_n 2, 1) := by decide +kernel
theorem dL_act_218 : decode cL_act 218 = .ok (.bipush 8, 2) := by decide +kernel
theorem dL_act_220 : decode cL_act 220 = .ok (.ishr, 1) := by decide +kernel
theorem dL_act_221 : decode cL_act 221 = .ok (.iconst 2, 1) := by decide +kernel
theorem dL_act_222 : decode cL_act 222 = .ok (.invokestatic 9, 3) := by decide +kernel
theorem dL_act_225 : decode cL_act 225 = .ok (.ifCond .ne 7, 3) := by decide +kernel
theorem dL_act_228 : decode cL_act 228 = .ok (.iconst 1, 1) := by decide +kernel
theorem dL_act_229 : decode cL_act 229 = .ok (.goto 4, 3) := by decide +kernel
theorem dL_act_232 : decode cL_act 232 = .ok (.iconst 0, 1) := by decide +kernel
theorem dL_act_233 : decode cL_act 233 = .ok (.istore 6, 2) := by decide +kernel
theorem dL_act_235 : decode cL_act 235 = .ok (.aload_n 1, 1) := by decide +kernel
theorem dL_act_236 : decode cL_act 236 = .ok (.getfield 31, 3) := by decide +kernel
theorem dL_act_239 : decode cL_act 239 = .ok (.iload_n 3, 1) := by decide +kernel
theorem dL_act_240 : decode cL_act 240 = .ok (.iload 6, 2) := by decide +kernel
theorem dL_act_242 : decode cL_act 242 = .ok (.ifCond .eq 16, 3) := by decide +kernel
theorem dL_act_245 : decode cL_act 245 = .ok (.aload_n 1, 1) := by decide +kernel
theorem dL_act_246 : decode cL_act 246 = .ok (.aload_n 1, 1) := by decide +kernel
theorem dL_act_247 : decode cL_act 247 = .ok (.getfield 31, 3) := by decide +kernel
theorem dL_act_250 : decode cL_act 250 = .ok (.iload_n 3, 1) := by decide +kernel
theorem dL_act_251 : decode cL_act 251 = .ok (.aaload, 1) := by decide +kernel
theorem dL_act_252 : decode cL_act 252 = .ok (.invokevirtual 47, 3) := by decide +kernel
theorem dL_act_255 : decode cL_act 255 = .ok (.goto 13, 3) := by decide +kernel
theorem dL_act_258 : decode cL_act 258 = .ok (.aload_n 1, 1) := by decide +kernel
theorem dL_act_259 : decode cL_act 259 = .ok (.aload_n 1, 1) := by decide +kernel
theorem dL_act_260 : decode cL_act 260 = .ok (.getfield 31, 3) := by decide +kernel
theorem dL_act_263 : decode cL_act 263 = .ok (.iload_n 3, 1) := by decide +kernel
theorem dL_act_264 : decode cL_act 264 = .ok (.aaload, 1) := by decide +kernel
theorem dL_act_265 : decode cL_act 265 = .ok (.invokevirtual 51, 3) := by decide +kernel
theorem dL_act_268 : decode cL_act 268 = .ok (.aastore, 1) := by decide +kernel
theorem dL_act_269 : decode cL_act 269 = .ok (.aload_n 0, 1) := by decide +kernel
theorem dL_act_270 : decode cL_act 270 = .ok (.iload_n 3, 1) := by decide +kernel
theorem dL_act_271 : decode cL_act 271 = .ok (.iload 6, 2) := by decide +kernel
theorem dL_act_273 : decode cL_act 273 = .ok (.invokevirtual 54, 3) := by decide +kernel
theorem dL_act_276 : decode cL_act 276 = .ok (.aload_n 1, 1) := by decide +kernel
theorem dL_act_277 : decode cL_act 277 = .ok (.getfield 31, 3) := by decide +kernel
theorem dL_act_280 : decode cL_act 280 = .ok (.iload_n 3, 1) := by decide +kernel
theorem dL_act_281 : decode cL_act 281 = .ok (.aaload, 1) := by decide +kernel
theorem dL_act_282 : decode cL_act 282 = .ok (.iconst 0, 1) := by decide +kernel
theorem dL_act_283 : decode cL_act 283 = .ok (.iaload, 1) := by decide +kernel
theorem dL_act_284 : decode cL_act 284 = .ok (.if_icmp .ne 7, 3) := by decide +kernel
theorem dL_act_287 : decode cL_act 287 = .ok (.iconst 1, 1) := by decide +kernel
theorem dL_act_288 : decode cL_act 288 = .ok (.goto 4, 3) := by decide +kernel
theorem dL_act_291 : decode cL_act 291 = .ok (.iconst 0, 1) := by decide +kernel
theorem dL_act_292 : decode cL_act 292 = .ok (.ireturn, 1) := by decide +kernel
theorem dL_act_293 : decode cL_act 293 = .ok (.aload_n 1, 1) := by decide +kernel
theorem dL_act_294 : decode cL_act 294 = .ok (.aload_n 1, 1) := by decide +kernel
theorem dL_act_295 : decode cL_act 295 = .ok (.getfield 31, 3) := by decide +kernel
theorem dL_act_298 : decode cL_act 298 = .ok (.iload_n 3, 1) := by decide +kernel
theorem dL_act_299 : decode cL_act 299 = .ok (.aaload, 1) := by decide +kernel
theorem dL_act_300 : decode cL_act 300 = .ok (.invokevirtual 58, 3) := by decide +kernel
theorem dL_act_303 : decode cL_act 303 = .ok (.astore 6, 2) := by decide +kernel
theorem dL_act_305 : decode cL_act 305 = .ok (.aload 6, 2) := by decide +kernel
theorem dL_act_307 : decode cL_act 307 = .ok (.aload_n 1, 1) := by decide +kernel
theorem dL_act_308 : decode cL_act 308 = .ok (.getfield 31, 3) := by decide +kernel
theorem dL_act_311 : decode cL_act 311 = .ok (.iload_n 3, 1) := by decide +kernel
theorem dL_act_312 : decode cL_act 312 = .ok (.aaload, 1) := by decide +kernel
theorem dL_act_313 : decode cL_act 313 = .ok (.invokestatic 35, 3) := by decide +kernel
theorem dL_act_316 : decode cL_act 316 = .ok (.istore 7, 2) := by decide +kernel
theorem dL_act_318 : decode cL_act 318 = .ok (.aload_n 1, 1) := by decide +kernel
theorem dL_act_319 : decode cL_act 319 = .ok (.getfield 31, 3) := by decide +kernel
theorem dL_act_322 : decode cL_act 322 = .ok (.iload_n 3, 1) := by decide +kernel
theorem dL_act_323 : decode cL_act 323 = .ok (.aload 6, 2) := by decide +kernel
theorem dL_act_325 : decode cL_act 325 = .ok (.aastore, 1) := by decide +kernel
theorem dL_act_326 : decode cL_act 326 = .ok (.aload_n 0, 1) := by decide +kernel
theorem dL_act_327 : decode cL_act 327 = .ok (.iload_n 3, 1) := by decide +kernel
theorem dL_act_328 : decode cL_act 328 = .ok (.invokevirtual 61, 3) := by decide +kernel
theorem dL_act_331 : decode cL_act 331 = .ok (.iload 7, 2) := by decide +kernel
theorem dL_act_333 : decode cL_act 333 = .ok (.if_icmp .ne 7, 3) := by decide +kernel
theorem dL_act_336 : decode cL_act 336 = .ok (.iconst 1, 1) := by decide +kernel
theorem dL_act_337 : decode cL_act 337 = .ok (.goto 4, 3) := by decide +kernel
theorem dL_act_340 : decode cL_act 340 = .ok (.iconst 0, 1) := by decide +kernel
theorem dL_act_341 : decode cL_act 341 = .ok (.ireturn, 1) := by decide +kernel
theorem dL_act_342 : decode cL_act 342 = .ok (.iload_n 2, 1) := by decide +kernel
theorem dL_act_343 : decode cL_act 343 = .ok (.bipush 8, 2) := by decide +kernel
theorem dL_act_345 : decode cL_act 345 = .ok (.ishr, 1) := by decide +kernel
theorem dL_act_346 : decode cL_act 346 = .ok (.iload 5, 2) := by decide +kernel
theorem dL_act_348 : decode cL_act 348 = .ok (.iconst 4, 1) := by decide +kernel
theorem dL_act_349 : decode cL_act 349 = .ok (.if_icmp .ne 7, 3) := by decide +kernel
theorem dL_act_352 : decode cL_act 352 = .ok (.iconst 2, 1) := by decide +kernel
theorem dL_act_353 : decode cL_act 353 = .ok (.goto 15, 3) := by decide +kernel
theorem dL_act_356 : decode cL_act 356 = .ok (.iload 5, 2) := by decide +kernel
theorem dL_act_358 : decode cL_act 358 = .ok (.bipush 8, 2) := by decide +kernel
theorem dL_act_360 : decode cL_act 360 = .ok (.if_icmp .ne 7, 3) := by decide +kernel
theorem dL_act_363 : decode cL_act 363 = .ok (.iconst 3, 1) := by decide +kernel
theorem dL_act_364 : decode cL_act 364 = .ok (.goto 4, 3) := by decide +kernel
theorem dL_act_367 : decode cL_act 367 = .ok (.iconst 4, 1) := by decide +kernel
theorem dL_act_368 : decode cL_act 368 = .ok (.invokestatic 9, 3) := by decide +kernel
theorem dL_act_371 : decode cL_act 371 = .ok (.istore 6, 2) := by decide +kernel
theorem dL_act_373 : decode cL_act 373 = .ok (.aload_n 1, 1) := by decide +kernel
theorem dL_act_374 : decode cL_act 374 = .ok (.getfield 31, 3) := by decide +kernel
theorem dL_act_377 : decode cL_act 377 = .ok (.iload_n 3, 1) := by decide +kernel
theorem dL_act_378 : decode cL_act 378 = .ok (.aload_n 1, 1) := by decide +kernel
theorem dL_act_379 : decode cL_act 379 = .ok (.aload_n 1, 1) := by decide +kernel
theorem dL_act_380 : decode cL_act 380 = .ok (.getfield 31, 3) := by decide +kernel
theorem dL_act_383 : decode cL_act 383 = .ok (.iload_n 3, 1) := by decide +kernel
theorem dL_act_384 : decode cL_act 384 = .ok (.aaload, 1) := by decide +kernel
theorem dL_act_385 : decode cL_act 385 = .ok (.iload 6, 2) := by decide +kernel
theorem dL_act_387 : decode cL_act 387 = .ok (.invokevirtual 65, 3) := by decide +kernel
theorem dL_act_390 : decode cL_act 390 = .ok (.aastore, 1) := by decide +kernel
theorem dL_act_391 : decode cL_act 391 = .ok (.aload_n 0, 1) := by decide +kernel
theorem dL_act_392 : decode cL_act 392 = .ok (.iload_n 3, 1) := by decide +kernel
theorem dL_act_393 : decode cL_act 393 = .ok (.iload 6, 2) := by decide +kernel
theorem dL_act_395 : decode cL_act 395 = .ok (.invokevirtual 69, 3) := by decide +kernel
theorem dL_act_398 : decode cL_act 398 = .ok (.aload_n 1, 1) := by decide +kernel
theorem dL_act_399 : decode cL_act 399 = .ok (.getfield 31, 3) := by decide +kernel
theorem dL_act_402 : decode cL_act 402 = .ok (.iload_n 3, 1) := by decide +kernel
theorem dL_act_403 : decode cL_act 403 = .ok (.aaload, 1) := by decide +kernel
theorem dL_act_404 : decode cL_act 404 = .ok (.iconst 0, 1) := by decide +kernel
theorem dL_act_405 : decode cL_act 405 = .ok (.iaload, 1) := by decide +kernel
theorem dL_act_406 : decode cL_act 406 = .ok (.if_icmp .ne 7, 3) := by decide +kernel
theorem dL_act_409 : decode cL_act 409 = .ok (.iconst 1, 1) := by decide +kernel
theorem dL_act_410 : decode cL_act 410 = .ok (.goto 4, 3) := by decide +kernel
theorem dL_act_413 : decode cL_act 413 = .ok (.iconst 0, 1) := by decide +kernel
theorem dL_act_414 : decode cL_act 414 = .ok (.ireturn, 1) := by decide +kernel
theorem dL_act_415 : decode cL_act 415 = .ok (.aload_n 1, 1) := by decide +kernel
theorem dL_act_416 : decode cL_act 416 = .ok (.getfield 31, 3) := by decide +kernel
theorem dL_act_419 : decode cL_act 419 = .ok (.iload_n 3, 1) := by decide +kernel
theorem dL_act_420 : decode cL_act 420 = .ok (.aload_n 1, 1) := by decide +kernel
theorem dL_act_421 : decode cL_act 421 = .ok (.aload_n 1, 1) := by decide +kernel
theorem dL_act_422 : decode cL_act 422 = .ok (.getfield 31, 3) := by decide +kernel
theorem dL_act_425 : decode cL_act 425 = .ok (.iload_n 3, 1) := by decide +kernel
theorem dL_act_426 : decode cL_act 426 = .ok (.aaload, 1) := by decide +kernel
theorem dL_act_427 : decode cL_act 427 = .ok (.aload_n 1, 1) := by decide +kernel
theorem dL_act_428 : decode cL_act 428 = .ok (.getfield 31, 3) := by decide +kernel
theorem dL_act_431 : decode cL_act 431 = .ok (.iload 4, 2) := by decide +kernel
theorem dL_act_433 : decode cL_act 433 = .ok (.aaload, 1) := by decide +kernel
theorem dL_act_434 : decode cL_act 434 = .ok (.invokevirtual 72, 3) := by decide +kernel
theorem dL_act_437 : decode cL_act 437 = .ok (.aastore, 1) := by decide +kernel
theorem dL_act_438 : decode cL_act 438 = .ok (.aload_n 0, 1) := by decide +kernel
theorem dL_act_439 : decode cL_act 439 = .ok (.iload_n 3, 1) := by decide +kernel
theorem dL_act_440 : decode cL_act 440 = .ok (.iload 4, 2) := by decide +kernel
theorem dL_act_442 : decode cL_act 442 = .ok (.invokevirtual 76, 3) := by decide +kernel
theorem dL_act_445 : decode cL_act 445 = .ok (.aload_n 1, 1) := by decide +kernel
theorem dL_act_446 : decode cL_act 446 = .ok (.getfield 31, 3) := by decide +kernel
theorem dL_act_449 : decode cL_act 449 = .ok (.iload_n 3, 1) := by decide +kernel
theorem dL_act_450 : decode cL_act 450 = .ok (.aaload, 1) := by decide +kernel
theorem dL_act_451 : decode cL_act 451 = .ok (.iconst 0, 1) := by decide +kernel
theorem dL_act_452 : decode cL_act 452 = .ok (.iaload, 1) := by decide +kernel
theorem dL_act_453 : decode cL_act 453 = .ok (.if_icmp .ne 7, 3) := by decide +kernel
theorem dL_act_456 : decode cL_act 456 = .ok (.iconst 1, 1) := by decide +kernel
theorem dL_act_457 : decode cL_act 457 = .ok (.goto 4, 3) := by decide +kernel
theorem dL_act_460 : decode cL_act 460 = .ok (.iconst 0, 1) := by decide +kernel
theorem dL_act_461 : decode cL_act 461 = .ok (.ireturn, 1) := by decide +kernel
theorem dL_act_462 : decode cL_act 462 = .ok (.iload_n 2, 1) := by decide +kernel
theorem dL_act_463 : decode cL_act 463 = .ok (.bipush 8, 2) := by decide +kernel
theorem dL_act_465 : decode cL_act 465 = .ok (.ishr, 1) := by decide +kernel
theorem dL_act_466 : decode cL_act 466 = .ok (.iconst 3, 1) := by decide +kernel
theorem dL_act_467 : decode cL_act 467 = .ok (.invokestatic 9, 3) := by decide +kernel
theorem dL_act_470 : decode cL_act 470 = .ok (.istore 6, 2) := by decide +kernel
theorem dL_act_472 : decode cL_act 472 = .ok (.iload 5, 2) := by decide +kernel
theorem dL_act_474 : decode cL_act 474 = .ok (.newarray .int, 2) := by decide +kernel
theorem dL_act_476 : decode cL_act 476 = .ok (.astore 7, 2) := by decide +kernel
theorem dL_act_478 : decode cL_act 478 = .ok (.iconst 0, 1) := by decide +kernel
theorem dL_act_479 : decode cL_act 479 = .ok (.istore 8, 2) := by decide +kernel
theorem dL_act_481 : decode cL_act 481 = .ok (.iload 8, 2) := by decide +kernel
theorem dL_act_483 : decode cL_act 483 = .ok (.iload 5, 2) := by decide +kernel
theorem dL_act_485 : decode cL_act 485 = .ok (.if_icmp .ge 79, 3) := by decide +kernel
theorem dL_act_488 : decode cL_act 488 = .ok (.aload_n 1, 1) := by decide +kernel
theorem dL_act_489 : decode cL_act 489 = .ok (.getfield 31, 3) := by decide +kernel
theorem dL_act_492 : decode cL_act 492 = .ok (.iload_n 3, 1) := by decide +kernel
theorem dL_act_493 : decode cL_act 493 = .ok (.aaload, 1) := by decide +kernel
theorem dL_act_494 : decode cL_act 494 = .ok (.iload 8, 2) := by decide +kernel
theorem dL_act_496 : decode cL_act 496 = .ok (.iaload, 1) := by decide +kernel
theorem dL_act_497 : decode cL_act 497 = .ok (.istore 9, 2) := by decide +kernel
theorem dL_act_499 : decode cL_act 499 = .ok (.aload_n 1, 1) := by decide +kernel
theorem dL_act_500 : decode cL_act 500 = .ok (.getfield 31, 3) := by decide +kernel
theorem dL_act_503 : decode cL_act 503 = .ok (.iload 4, 2) := by decide +kernel
theorem dL_act_505 : decode cL_act 505 = .ok (.aaload, 1) := by decide +kernel
theorem dL_act_506 : decode cL_act 506 = .ok (.iload 8, 2) := by decide +kernel
theorem dL_act_508 : decode cL_act 508 = .ok (.iaload, 1) := by decide +kernel
theorem dL_act_509 : decode cL_act 509 = .ok (.istore 10, 2) := by decide +kernel
theorem dL_act_511 : decode cL_act 511 = .ok (.aload 7, 2) := by decide +kernel
theorem dL_act_513 : decode cL_act 513 = .ok (.iload 8, 2) := by decide +kernel
theorem dL_act_515 : decode cL_act 515 = .ok (.iload 6, 2) := by decide +kernel
theorem dL_act_517 : decode cL_act 517 = .ok (.ifCond .ne 11, 3) := by decide +kernel
theorem dL_act_520 : decode cL_act 520 = .ok (.iload 9, 2) := by decide +kernel
theorem dL_act_522 : decode cL_act 522 = .ok (.iload 10, 2) := by decide +kernel
theorem dL_act_524 : decode cL_act 524 = .ok (.iadd, 1) := by decide +kernel
theorem dL_act_525 : decode cL_act 525 = .ok (.goto 27, 3) := by decide +kernel
theorem dL_act_528 : decode cL_act 528 = .ok (.iload 6, 2) := by decide +kernel
theorem dL_act_530 : decode cL_act 530 = .ok (.iconst 1, 1) := by decide +kernel
theorem dL_act_531 : decode cL_act 531 = .ok (.if_icmp .ne 16, 3) := by decide +kernel
theorem dL_act_534 : decode cL_act 534 = .ok (.iload 9, 2) := by decide +kernel
theorem dL_act_536 : decode cL_act 536 = .ok (.aload_n 1, 1) := by decide +kernel
theorem dL_act_537 : decode cL_act 537 = .ok (.getfield 79, 3) := by decide +kernel
theorem dL_act_540 : decode cL_act 540 = .ok (.iadd, 1) := by decide +kernel
theorem dL_act_541 : decode cL_act 541 = .ok (.iload 10, 2) := by decide +kernel
theorem dL_act_543 : decode cL_act 543 = .ok (.isub, 1) := by decide +kernel
theorem dL_act_544 : decode cL_act 544 = .ok (.goto 8, 3) := by decide +kernel
theorem dL_act_547 : decode cL_act 547 = .ok (.iload 9, 2) := by decide +kernel
theorem dL_act_549 : decode cL_act 549 = .ok (.iload 10, 2) := by decide +kernel
theorem dL_act_551 : decode cL_act 551 = .ok (.imul, 1) := by decide +kernel
theorem dL_act_552 : decode cL_act 552 = .ok (.aload_n 1, 1) := by decide +kernel
theorem dL_act_553 : decode cL_act 553 = .ok (.getfield 79, 3) := by decide +kernel
theorem dL_act_556 : decode cL_act 556 = .ok (.irem, 1) := by decide +kernel
theorem dL_act_557 : decode cL_act 557 = .ok (.iastore, 1) := by decide +kernel
theorem dL_act_558 : decode cL_act 558 = .ok (.iinc 8 1, 3) := by decide +kernel
theorem dL_act_561 : decode cL_act 561 = .ok (.goto (-80), 3) := by decide +kernel
theorem dL_act_564 : decode cL_act 564 = .ok (.aload_n 1, 1) := by decide +kernel
theorem dL_act_565 : decode cL_act 565 = .ok (.getfield 31, 3) := by decide +kernel
theorem dL_act_568 : decode cL_act 568 = .ok (.iload_n 3, 1) := by decide +kernel
theorem dL_act_569 : decode cL_act 569 = .ok (.aload 7, 2) := by decide +kernel
theorem dL_act_571 : decode cL_act 571 = .ok (.aastore, 1) := by decide +kernel
theorem dL_act_572 : decode cL_act 572 = .ok (.aload_n 0, 1) := by decide +kernel
theorem dL_act_573 : decode cL_act 573 = .ok (.iload_n 3, 1) := by decide +kernel
theorem dL_act_574 : decode cL_act 574 = .ok (.iload 4, 2) := by decide +kernel
theorem dL_act_576 : decode cL_act 576 = .ok (.iload 6, 2) := by decide +kernel
theorem dL_act_578 : decode cL_act 578 = .ok (.invokevirtual 82, 3) := by decide +kernel
theorem dL_act_581 : decode cL_act 581 = .ok (.aload 7, 2) := by decide +kernel
theorem dL_act_583 : decode cL_act 583 = .ok (.invokestatic 86, 3) := by decide +kernel
theorem dL_act_586 : decode cL_act 586 = .ok (.if_icmp .ne 7, 3) := by decide +kernel
theorem dL_act_589 : decode cL_act 589 = .ok (.iconst 1, 1) := by decide +kernel
theorem dL_act_590 : decode cL_act 590 = .ok (.goto 4, 3) := by decide +kernel
theorem dL_act_593 : decode cL_act 593 = .ok (.iconst 0, 1) := by decide +kernel
theorem dL_act_594 : decode cL_act 594 = .ok (.ireturn, 1) := by decide +kernel
theorem dL_act_595 : decode cL_act 595 = .ok (.iload_n 2, 1) := by decide +kernel
theorem dL_act_596 : decode cL_act 596 = .ok (.bipush 6, 2) := by decide +kernel
theorem dL_act_598 : decode cL_act 598 = .ok (.ishr, 1) := by decide +kernel
theorem dL_act_599 : decode cL_act 599 = .ok (.iload 5, 2) := by decide +kernel
theorem dL_act_601 : decode cL_act 601 = .ok (.invokestatic 9, 3) := by decide +kernel
theorem dL_act_604 : decode cL_act 604 = .ok (.istore 6, 2) := by decide +kernel
theorem dL_act_606 : decode cL_act 606 = .ok (.aload_n 1, 1) := by decide +kernel
theorem dL_act_607 : decode cL_act 607 = .ok (.getfield 31, 3) := by decide +kernel
theorem dL_act_610 : decode cL_act 610 = .ok (.iload_n 3, 1) := by decide +kernel
theorem dL_act_611 : decode cL_act 611 = .ok (.aload_n 1, 1) := by decide +kernel
theorem dL_act_612 : decode cL_act 612 = .ok (.aload_n 1, 1) := by decide +kernel
theorem dL_act_613 : decode cL_act 613 = .ok (.getfield 31, 3) := by decide +kernel
theorem dL_act_616 : decode cL_act 616 = .ok (.iload_n 3, 1) := by decide +kernel
theorem dL_act_617 : decode cL_act 617 = .ok (.aaload, 1) := by decide +kernel
theorem dL_act_618 : decode cL_act 618 = .ok (.iload 6, 2) := by decide +kernel
theorem dL_act_620 : decode cL_act 620 = .ok (.invokevirtual 90, 3) := by decide +kernel
theorem dL_act_623 : decode cL_act 623 = .ok (.aastore, 1) := by decide +kernel
theorem dL_act_624 : decode cL_act 624 = .ok (.aload_n 0, 1) := by decide +kernel
theorem dL_act_625 : decode cL_act 625 = .ok (.iload_n 3, 1) := by decide +kernel
theorem dL_act_626 : decode cL_act 626 = .ok (.iload 6, 2) := by decide +kernel
theorem dL_act_628 : decode cL_act 628 = .ok (.invokevirtual 93, 3) := by decide +kernel
theorem dL_act_631 : decode cL_act 631 = .ok (.aload_n 1, 1) := by decide +kernel
theorem dL_act_632 : decode cL_act 632 = .ok (.getfield 31, 3) := by decide +kernel
theorem dL_act_635 : decode cL_act 635 = .ok (.iload_n 3, 1) := by decide +kernel
theorem dL_act_636 : decode cL_act 636 = .ok (.aaload, 1) := by decide +kernel
theorem dL_act_637 : decode cL_act 637 = .ok (.iconst 0, 1) := by decide +kernel
theorem dL_act_638 : decode cL_act 638 = .ok (.iaload, 1) := by decide +kernel
theorem dL_act_639 : decode cL_act 639 = .ok (.if_icmp .ne 7, 3) := by decide +kernel
theorem dL_act_642 : decode cL_act 642 = .ok (.iconst 1, 1) := by decide +kernel
theorem dL_act_643 : decode cL_act 643 = .ok (.goto 4, 3) := by decide +kernel
theorem dL_act_646 : decode cL_act 646 = .ok (.iconst 0, 1) := by decide +kernel
theorem dL_act_647 : decode cL_act 647 = .ok (.ireturn, 1) := by decide +kernel
theorem dL_act_648 : decode cL_act 648 = .ok (.iload_n 2, 1) := by decide +kernel
theorem dL_act_649 : decode cL_act 649 = .ok (.bipush 6, 2) := by decide +kernel
theorem dL_act_651 : decode cL_act 651 = .ok (.ishr, 1) := by decide +kernel
theorem dL_act_652 : decode cL_act 652 = .ok (.aload_n 1, 1) := by decide +kernel
theorem dL_act_653 : decode cL_act 653 = .ok (.getfield 79, 3) := by decide +kernel
theorem dL_act_656 : decode cL_act 656 = .ok (.invokestatic 9, 3) := by decide +kernel
theorem dL_act_659 : decode cL_act 659 = .ok (.istore 6, 2) := by decide +kernel
theorem dL_act_661 : decode cL_act 661 = .ok (.iconst 0, 1) := by decide +kernel
theorem dL_act_662 : decode cL_act 662 = .ok (.istore 7, 2) := by decide +kernel
theorem dL_act_664 : decode cL_act 664 = .ok (.iload 7, 2) := by decide +kernel
theorem dL_act_666 : decode cL_act 666 = .ok (.iload 5, 2) := by decide +kernel
theorem dL_act_668 : decode cL_act 668 = .ok (.if_icmp .ge 35, 3) := by decide +kernel
theorem dL_act_671 : decode cL_act 671 = .ok (.aload_n 1, 1) := by decide +kernel
theorem dL_act_672 : decode cL_act 672 = .ok (.getfield 31, 3) := by decide +kernel
theorem dL_act_675 : decode cL_act 675 = .ok (.iload_n 3, 1) := by decide +kernel
theorem dL_act_676 : decode cL_act 676 = .ok (.aaload, 1) := by decide +kernel
theorem dL_act_677 : decode cL_act 677 = .ok (.iload 7, 2) := by decide +kernel
theorem dL_act_679 : decode cL_act 679 = .ok (.aload_n 1, 1) := by decide +kernel
theorem dL_act_680 : decode cL_act 680 = .ok (.getfield 31, 3) := by decide +kernel
theorem dL_act_683 : decode cL_act 683 = .ok (.iload_n 3, 1) := by decide +kernel
theorem dL_act_684 : decode cL_act 684 = .ok (.aaload, 1) := by decide +kernel
theorem dL_act_685 : decode cL_act 685 = .ok (.iload 7, 2) := by decide +kernel
theorem dL_act_687 : decode cL_act 687 = .ok (.iaload, 1) := by decide +kernel
theorem dL_act_688 : decode cL_act 688 = .ok (.iload 6, 2) := by decide +kernel
theorem dL_act_690 : decode cL_act 690 = .ok (.imul, 1) := by decide +kernel
theorem dL_act_691 : decode cL_act 691 = .ok (.aload_n 1, 1) := by decide +kernel
theorem dL_act_692 : decode cL_act 692 = .ok (.getfield 79, 3) := by decide +kernel
theorem dL_act_695 : decode cL_act 695 = .ok (.irem, 1) := by decide +kernel
theorem dL_act_696 : decode cL_act 696 = .ok (.iastore, 1) := by decide +kernel
theorem dL_act_697 : decode cL_act 697 = .ok (.iinc 7 1, 3) := by decide +kernel
theorem dL_act_700 : decode cL_act 700 = .ok (.goto (-36), 3) := by decide +kernel
theorem dL_act_703 : decode cL_act 703 = .ok (.aload_n 0, 1) := by decide +kernel
theorem dL_act_704 : decode cL_act 704 = .ok (.iload_n 3, 1) := by decide +kernel
theorem dL_act_705 : decode cL_act 705 = .ok (.iload 6, 2) := by decide +kernel
theorem dL_act_707 : decode cL_act 707 = .ok (.invokevirtual 96, 3) := by decide +kernel
theorem dL_act_710 : decode cL_act 710 = .ok (.aload_n 1, 1) := by decide +kernel
theorem dL_act_711 : decode cL_act 711 = .ok (.getfield 31, 3) := by decide +kernel
theorem dL_act_714 : decode cL_act 714 = .ok (.iload_n 3, 1) := by decide +kernel
theorem dL_act_715 : decode cL_act 715 = .ok (.aaload, 1) := by decide +kernel
theorem dL_act_716 : decode cL_act 716 = .ok (.invokestatic 86, 3) := by decide +kernel
theorem dL_act_719 : decode cL_act 719 = .ok (.if_icmp .ne 7, 3) := by decide +kernel
theorem dL_act_722 : decode cL_act 722 = .ok (.iconst 1, 1) := by decide +kernel
theorem dL_act_723 : decode cL_act 723 = .ok (.goto 4, 3) := by decide +kernel
theorem dL_act_726 : decode cL_act 726 = .ok (.iconst 0, 1) := by decide +kernel
theorem dL_act_727 : decode cL_act 727 = .ok (.ireturn, 1) := by decide +kernel
theorem dL_act_728 : decode cL_act 728 = .ok (.iload_n 2, 1) := by decide +kernel
theorem dL_act_729 : decode cL_act 729 = .ok (.bipush 6, 2) := by decide +kernel
theorem dL_act_731 : decode cL_act 731 = .ok (.ishr, 1) := by decide +kernel
theorem dL_act_732 : decode cL_act 732 = .ok (.iload 5, 2) := by decide +kernel
theorem dL_act_734 : decode cL_act 734 = .ok (.invokestatic 9, 3) := by decide +kernel
theorem dL_act_737 : decode cL_act 737 = .ok (.istore 6, 2) := by decide +kernel
theorem dL_act_739 : decode cL_act 739 = .ok (.iload_n 2, 1) := by decide +kernel
theorem dL_act_740 : decode cL_act 740 = .ok (.bipush 8, 2) := by decide +kernel
theorem dL_act_742 : decode cL_act 742 = .ok (.ishr, 1) := by decide +kernel
theorem dL_act_743 : decode cL_act 743 = .ok (.iload_n 2, 1) := by decide +kernel
theorem dL_act_744 : decode cL_act 744 = .ok (.iconst 5, 1) := by decide +kernel
theorem dL_act_745 : decode cL_act 745 = .ok (.ishr, 1) := by decide +kernel
theorem dL_act_746 : decode cL_act 746 = .ok (.iconst 2, 1) := by decide +kernel
theorem dL_act_747 : decode cL_act 747 = .ok (.invokestatic 9, 3) := by decide +kernel
theorem dL_act_750 : decode cL_act 750 = .ok (.ifCond .ne 10, 3) := by decide +kernel
theorem dL_act_753 : decode cL_act 753 = .ok (.aload_n 1, 1) := by decide +kernel
theorem dL_act_754 : decode cL_act 754 = .ok (.getfield 79, 3) := by decide +kernel
theorem dL_act_757 : decode cL_act 757 = .ok (.goto 4, 3) := by decide +kernel
theorem dL_act_760 : decode cL_act 760 = .ok (.iconst 3, 1) := by decide +kernel
theorem dL_act_761 : decode cL_act 761 = .ok (.invokestatic 9, 3) := by decide +kernel
theorem dL_act_764 : decode cL_act 764 = .ok (.istore 7, 2) := by decide +kernel
theorem dL_act_766 : decode cL_act 766 = .ok (.aload_n 1, 1) := by decide +kernel
theorem dL_act_767 : decode cL_act 767 = .ok (.getfield 31, 3) := by decide +kernel
theorem dL_act_770 : decode cL_act 770 = .ok (.iload_n 3, 1) := by decide +kernel
theorem dL_act_771 : decode cL_act 771 = .ok (.aaload, 1) := by decide +kernel
theorem dL_act_772 : decode cL_act 772 = .ok (.iload 6, 2) := by decide +kernel
theorem dL_act_774 : decode cL_act 774 = .ok (.iaload, 1) := by decide +kernel
theorem dL_act_775 : decode cL_act 775 = .ok (.istore 8, 2) := by decide +kernel
theorem dL_act_777 : decode cL_act 777 = .ok (.aload_n 1, 1) := by decide +kernel
theorem dL_act_778 : decode cL_act 778 = .ok (.getfield 31, 3) := by decide +kernel
theorem dL_act_781 : decode cL_act 781 = .ok (.iload_n 3, 1) := by decide +kernel
theorem dL_act_782 : decode cL_act 782 = .ok (.aaload, 1) := by decide +kernel
theorem dL_act_783 : decode cL_act 783 = .ok (.iload 6, 2) := by decide +kernel
theorem dL_act_785 : decode cL_act 785 = .ok (.iload 7, 2) := by decide +kernel
theorem dL_act_787 : decode cL_act 787 = .ok (.iastore, 1) := by decide +kernel
theorem dL_act_788 : decode cL_act 788 = .ok (.aload_n 0, 1) := by decide +kernel
theorem dL_act_789 : decode cL_act 789 = .ok (.iload_n 3, 1) := by decide +kernel
theorem dL_act_790 : decode cL_act 790 = .ok (.iload 6, 2) := by decide +kernel
theorem dL_act_792 : decode cL_act 792 = .ok (.iload 7, 2) := by decide +kernel
theorem dL_act_794 : decode cL_act 794 = .ok (.invokevirtual 99, 3) := by decide +kernel
theorem dL_act_797 : decode cL_act 797 = .ok (.iload 8, 2) := by decide +kernel
theorem dL_act_799 : decode cL_act 799 = .ok (.if_icmp .ne 7, 3) := by decide +kernel
theorem dL_act_802 : decode cL_act 802 = .ok (.iconst 1, 1) := by decide +kernel
theorem dL_act_803 : decode cL_act 803 = .ok (.goto 4, 3) := by decide +kernel
theorem dL_act_806 : decode cL_act 806 = .ok (.iconst 0, 1) := by decide +kernel
theorem dL_act_807 : decode cL_act 807 = .ok (.ireturn, 1) := by decide +kernel
set_option maxRecDepth 20000 in
theorem ggL_build_X1_init : GoodIn wsL_build wsX1_init := goodIn_r _ [9, 10, 11, 12, 13, 14, 15, 16, 17, 18, 109, 110, 111, 112] (by decide +kernel) (by decide +kernel)
set_option maxRecDepth 20000 in
theorem gL_build_X1_init_n102 : GoodIn wsL_build (wsX1_init) := ggL_build_X1_init
set_option maxRecDepth 20000 in
theorem ggL_build_L_cell : GoodIn wsL_build wsL_cell := goodIn_r _ [22, 23] (by decide +kernel) (by decide +kernel)
set_option maxRecDepth 20000 in
theorem gL_build_L_cell : GoodIn wsL_build (va_wsS RL 103 yL_cell wsL_cell) := goodIn_app (goodIn_of _ (by decide +kernel)) ggL_build_L_cell
set_option maxRecDepth 20000 in
theorem ggL_build_L_below : GoodIn wsL_build wsL_below := goodIn_r _ [26, 27] (by decide +kernel) (by decide +kernel)
set_option maxRecDepth 20000 in
theorem gL_build_L_below : GoodIn wsL_build (va_wsS RL 9 yL_below wsL_below) := goodIn_app (goodIn_of _ (by decide +kernel)) ggL_build_L_below
set_option maxRecDepth 20000 in
theorem ggL_build_X0_ring : GoodIn wsL_build wsX0_ring := goodIn_ca (goodIn_r _ [32, 33, 34, 35, 36, 37, 31, 38, 39, 40, 41, 42, 43, 44, 45, 46, 47, 48, 49, 50, 51, 52, 53, 54, 55, 56, 57, 58, 59, 60, 61, 62, 63, 64, 65, 66, 67, 68, 69, 70, 71, 72, 73, 74, 113, 114, 115, 116, 117, 118, 119] (by decide +kernel) (by decide +kernel)) (goodIn_sub (fun _ h => List.mem_cons_of_mem _ (List.mem_append_left _ (List.mem_append_right _ h))) (by decide +kernel))
set_option maxRecDepth 20000 in
theorem gL_build_X0_ring : GoodIn wsL_build (wsV RL 25 RX0 yX0_ring wsX0_ring) := goodIn_app (goodIn_of _ (by decide +kernel)) ggL_build_X0_ring
set_option maxRecDepth 20000 in
theorem ggL_build_X1_ring : GoodIn wsL_build wsX1_ring := goodIn_r _ [78, 13, 14, 15, 16, 17, 18, 79, 80, 81, 3, 82, 109, 110, 111, 112] (by decide +kernel) (by decide +kernel)
set_option maxRecDepth 20000 in
theorem gL_build_X1_ring : GoodIn wsL_build (wsV RL 30 RX1 yX1_ring wsX1_ring) := goodIn_app (goodIn_of _ (by decide +kernel)) ggL_build_X1_ring
set_option maxRecDepth 20000 in
theorem ggL_build_X0_set : GoodIn wsL_build wsX0_set := goodIn_ca (goodIn_ca (goodIn_r _ [86, 87, 88, 89, 31, 90, 91, 92, 93, 94, 95, 96, 49, 97, 98, 99, 100, 33, 34, 50, 101, 102, 103, 104, 54, 105, 106, 107, 108, 113, 114, 115, 116, 117, 118, 119] (by decide +kernel) (by decide +kernel)) (goodIn_sub (fun _ h => List.mem_cons_of_mem _ (List.mem_append_right _ h)) (by decide +kernel))) (goodIn_sub (fun _ h => List.mem_cons_of_mem _ (List.mem_append_left _ (List.mem_append_right _ h))) (by decide +kernel))
set_option maxRecDepth 20000 in
theorem gL_build_X0_set : GoodIn wsL_build (wsV RL 99 RX0 yX0_set wsX0_set) := goodIn_app (goodIn_of _ (by decide +kernel)) ggL_build_X0_set
theorem dL_build_0 : decode cL_build 0 = .ok (.new 16, 3) := by decide +kernel
theorem dL_build_3 : decode cL_build 3 = .ok (.dup, 1) := by decide +kernel
theorem dL_build_4 : decode cL_build 4 = .ok (.invokespecial 102, 3) := by decide +kernel
theorem dL_build_7 : decode cL_build 7 = .ok (.astore_n 2, 1) := by decide +kernel
theorem dL_build_8 : decode cL_build 8 = .ok (.iconst 2, 1) := by decide +kernel
theorem dL_build_9 : decode cL_build 9 = .ok (.aload_n 1, 1) := by decide +kernel
theorem dL_build_10 : decode cL_build 10 = .ok (.iconst 0, 1) := by decide +kernel
theorem dL_build_11 : decode cL_build 11 = .ok (.invokestatic 103, 3) := by decide +kernel
theorem dL_build_14 : decode cL_build 14 = .ok (.getstatic 21, 3) := by decide +kernel
theorem dL_build_17 : decode cL_build 17 = .ok (.arraylength, 1) := by decide +kernel
theorem dL_build_18 : decode cL_build 18 = .ok (.iconst 2, 1) := by decide +kernel
theorem dL_build_19 : decode cL_build 19 = .ok (.idiv, 1) := by decide +kernel
theorem dL_build_20 : decode cL_build 20 = .ok (.invokestatic 9, 3) := by decide +kernel
theorem dL_build_23 : decode cL_build 23 = .ok (.imul, 1) := by decide +kernel
theorem dL_build_24 : decode cL_build 24 = .ok (.istore_n 3, 1) := by decide +kernel
theorem dL_build_25 : decode cL_build 25 = .ok (.aload_n 1, 1) := by decide +kernel
theorem dL_build_26 : decode cL_build 26 = .ok (.iconst 0, 1) := by decide +kernel
theorem dL_build_27 : decode cL_build 27 = .ok (.invokestatic 103, 3) := by decide +kernel
theorem dL_build_30 : decode cL_build 30 = .ok (.iconst 5, 1) := by decide +kernel
theorem dL_build_31 : decode cL_build 31 = .ok (.ishr, 1) := by decide +kernel
theorem dL_build_32 : decode cL_build 32 = .ok (.iconst 4, 1) := by decide +kernel
theorem dL_build_33 : decode cL_build 33 = .ok (.invokestatic 9, 3) := by decide +kernel
theorem dL_build_36 : decode cL_build 36 = .ok (.ifCond .le 40, 3) := by decide +kernel
theorem dL_build_39 : decode cL_build 39 = .ok (.aload_n 0, 1) := by decide +kernel
theorem dL_build_40 : decode cL_build 40 = .ok (.getstatic 21, 3) := by decide +kernel
theorem dL_build_43 : decode cL_build 43 = .ok (.iload_n 3, 1) := by decide +kernel
theorem dL_build_44 : decode cL_build 44 = .ok (.iaload, 1) := by decide +kernel
theorem dL_build_45 : decode cL_build 45 = .ok (.getstatic 21, 3) := by decide +kernel
theorem dL_build_48 : decode cL_build 48 = .ok (.iload_n 3, 1) := by decide +kernel
theorem dL_build_49 : decode cL_build 49 = .ok (.iconst 1, 1) := by decide +kernel
theorem dL_build_50 : decode cL_build 50 = .ok (.iadd, 1) := by decide +kernel
theorem dL_build_51 : decode cL_build 51 = .ok (.iaload, 1) := by decide +kernel
theorem dL_build_52 : decode cL_build 52 = .ok (.invokevirtual 25, 3) := by decide +kernel
theorem dL_build_55 : decode cL_build 55 = .ok (.aload_n 2, 1) := by decide +kernel
theorem dL_build_56 : decode cL_build 56 = .ok (.getstatic 21, 3) := by decide +kernel
theorem dL_build_59 : decode cL_build 59 = .ok (.iload_n 3, 1) := by decide +kernel
theorem dL_build_60 : decode cL_build 60 = .ok (.iaload, 1) := by decide +kernel
theorem dL_build_61 : decode cL_build 61 = .ok (.getstatic 21, 3) := by decide +kernel
theorem dL_build_64 : decode cL_build 64 = .ok (.iload_n 3, 1) := by decide +kernel
theorem dL_build_65 : decode cL_build 65 = .ok (.iconst 1, 1) := by decide +kernel
theorem dL_build_66 : decode cL_build 66 = .ok (.iadd, 1) := by decide +kernel
theorem dL_build_67 : decode cL_build 67 = .ok (.iaload, 1) := by decide +kernel
theorem dL_build_68 : decode cL_build 68 = .ok (.invokevirtual 30, 3) := by decide +kernel
theorem dL_build_71 : decode cL_build 71 = .ok (.if_icmp .eq 5, 3) := by decide +kernel
theorem dL_build_74 : decode cL_build 74 = .ok (.aconst_null, 1) := by decide +kernel
theorem dL_build_75 : decode cL_build 75 = .ok (.areturn, 1) := by decide +kernel
theorem dL_build_76 : decode cL_build 76 = .ok (.iconst 0, 1) := by decide +kernel
theorem dL_build_77 : decode cL_build 77 = .ok (.istore 4, 2) := by decide +kernel
theorem dL_build_79 : decode cL_build 79 = .ok (.iload 4, 2) := by decide +kernel
theorem dL_build_81 : decode cL_build 81 = .ok (.iconst 2, 1) := by decide +kernel
theorem dL_build_82 : decode cL_build 82 = .ok (.aload_n 2, 1) := by decide +kernel
theorem dL_build_83 : decode cL_build 83 = .ok (.getfield 15, 3) := by decide +kernel
theorem dL_build_86 : decode cL_build 86 = .ok (.imul, 1) := by decide +kernel
theorem dL_build_87 : decode cL_build 87 = .ok (.if_icmp .ge 108, 3) := by decide +kernel
theorem dL_build_90 : decode cL_build 90 = .ok (.aload_n 1, 1) := by decide +kernel
theorem dL_build_91 : decode cL_build 91 = .ok (.iconst 1, 1) := by decide +kernel
theorem dL_build_92 : decode cL_build 92 = .ok (.iload 4, 2) := by decide +kernel
theorem dL_build_94 : decode cL_build 94 = .ok (.bipush 15, 2) := by decide +kernel
theorem dL_build_96 : decode cL_build 96 = .ok (.irem, 1) := by decide +kernel
theorem dL_build_97 : decode cL_build 97 = .ok (.iadd, 1) := by decide +kernel
theorem dL_build_98 : decode cL_build 98 = .ok (.invokestatic 103, 3) := by decide +kernel
theorem dL_build_101 : decode cL_build 101 = .ok (.iload 4, 2) := by decide +kernel
theorem dL_build_103 : decode cL_build 103 = .ok (.bipush 15, 2) := by decide +kernel
theorem dL_build_105 : decode cL_build 105 = .ok (.idiv, 1) := by decide +kernel
theorem dL_build_106 : decode cL_build 106 = .ok (.bipush 7, 2) := by decide +kernel
theorem dL_build_108 : decode cL_build 108 = .ok (.imul, 1) := by decide +kernel
theorem dL_build_109 : decode cL_build 109 = .ok (.ishr, 1) := by decide +kernel
theorem dL_build_110 : decode cL_build 110 = .ok (.bipush 57, 2) := by decide +kernel
theorem dL_build_112 : decode cL_build 112 = .ok (.iload 4, 2) := by decide +kernel
theorem dL_build_114 : decode cL_build 114 = .ok (.imul, 1) := by decide +kernel
theorem dL_build_115 : decode cL_build 115 = .ok (.iadd, 1) := by decide +kernel
theorem dL_build_116 : decode cL_build 116 = .ok (.istore 5, 2) := by decide +kernel
theorem dL_build_118 : decode cL_build 118 = .ok (.iload 5, 2) := by decide +kernel
theorem dL_build_120 : decode cL_build 120 = .ok (.iconst 4, 1) := by decide +kernel
theorem dL_build_121 : decode cL_build 121 = .ok (.invokestatic 9, 3) := by decide +kernel
theorem dL_build_124 : decode cL_build 124 = .ok (.istore 6, 2) := by decide +kernel
theorem dL_build_126 : decode cL_build 126 = .ok (.iload 5, 2) := by decide +kernel
theorem dL_build_128 : decode cL_build 128 = .ok (.iconst 2, 1) := by decide +kernel
theorem dL_build_129 : decode cL_build 129 = .ok (.ishr, 1) := by decide +kernel
theorem dL_build_130 : decode cL_build 130 = .ok (.aload_n 2, 1) := by decide +kernel
theorem dL_build_131 : decode cL_build 131 = .ok (.getfield 15, 3) := by decide +kernel
theorem dL_build_134 : decode cL_build 134 = .ok (.invokestatic 9, 3) := by decide +kernel
theorem dL_build_137 : decode cL_build 137 = .ok (.istore 7, 2) := by decide +kernel
theorem dL_build_139 : decode cL_build 139 = .ok (.iload 5, 2) := by decide +kernel
theorem dL_build_141 : decode cL_build 141 = .ok (.iconst 5, 1) := by decide +kernel
theorem dL_build_142 : decode cL_build 142 = .ok (.ishr, 1) := by decide +kernel
theorem dL_build_143 : decode cL_build 143 = .ok (.aload_n 2, 1) := by decide +kernel
theorem dL_build_144 : decode cL_build 144 = .ok (.getfield 79, 3) := by decide +kernel
theorem dL_build_147 : decode cL_build 147 = .ok (.invokestatic 9, 3) := by decide +kernel
theorem dL_build_150 : decode cL_build 150 = .ok (.istore 8, 2) := by decide +kernel
theorem dL_build_152 : decode cL_build 152 = .ok (.aload_n 0, 1) := by decide +kernel
theorem dL_build_153 : decode cL_build 153 = .ok (.iload 6, 2) := by decide +kernel
theorem dL_build_155 : decode cL_build 155 = .ok (.iload 7, 2) := by decide +kernel
theorem dL_build_157 : decode cL_build 157 = .ok (.iload 8, 2) := by decide +kernel
theorem dL_build_159 : decode cL_build 159 = .ok (.invokevirtual 99, 3) := by decide +kernel
theorem dL_build_162 : decode cL_build 162 = .ok (.aload_n 2, 1) := by decide +kernel
theorem dL_build_163 : decode cL_build 163 = .ok (.getfield 31, 3) := by decide +kernel
theorem dL_build_166 : decode cL_build 166 = .ok (.iload 6, 2) := by decide +kernel
theorem dL_build_168 : decode cL_build 168 = .ok (.aaload, 1) := by decide +kernel
theorem dL_build_169 : decode cL_build 169 = .ok (.iload 7, 2) := by decide +kernel
theorem dL_build_171 : decode cL_build 171 = .ok (.iaload, 1) := by decide +kernel
theorem dL_build_172 : decode cL_build 172 = .ok (.if_icmp .eq 5, 3) := by decide +kernel
theorem dL_build_175 : decode cL_build 175 = .ok (.aconst_null, 1) := by decide +kernel
theorem dL_build_176 : decode cL_build 176 = .ok (.areturn, 1) := by decide +kernel
theorem dL_build_177 : decode cL_build 177 = .ok (.aload_n 2, 1) := by decide +kernel
theorem dL_build_178 : decode cL_build 178 = .ok (.getfield 31, 3) := by decide +kernel
theorem dL_build_181 : decode cL_build 181 = .ok (.iload 6, 2) := by decide +kernel
theorem dL_build_183 : decode cL_build 183 = .ok (.aaload, 1) := by decide +kernel
theorem dL_build_184 : decode cL_build 184 = .ok (.iload 7, 2) := by decide +kernel
theorem dL_build_186 : decode cL_build 186 = .ok (.iload 8, 2) := by decide +kernel
theorem dL_build_188 : decode cL_build 188 = .ok (.iastore, 1) := by decide +kernel
theorem dL_build_189 : decode cL_build 189 = .ok (.iinc 4 1, 3) := by decide +kernel
theorem dL_build_192 : decode cL_build 192 = .ok (.goto (-113), 3) := by decide +kernel
theorem dL_build_195 : decode cL_build 195 = .ok (.aload_n 2, 1) := by decide +kernel
theorem dL_build_196 : decode cL_build 196 = .ok (.areturn, 1) := by decide +kernel
set_option maxRecDepth 20000 in
theorem ggL_law_X0_init : GoodIn wsL_law wsX0_init := goodIn_r _ [13, 14, 15, 16, 3, 17, 18, 19, 20, 2, 21, 22, 23, 24, 25, 26, 27, 28, 29, 30, 31, 32, 33, 34, 35, 36, 37, 38, 39, 40, 41, 42, 43, 44, 45, 46, 47, 345, 346, 347, 348, 349, 350, 351] (by decide +kernel) (by decide +kernel)
set_option maxRecDepth 20000 in
theorem gL_law_X0_init : GoodIn wsL_law (wsX0_init) := ggL_law_X0_init

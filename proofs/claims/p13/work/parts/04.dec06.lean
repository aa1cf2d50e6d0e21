theorem dX12_statement_106 : decode cX12_statement 106 = .ok (.ireturn, 1) := by decide +kernel
theorem dX12_statement_107 : decode cX12_statement 107 = .ok (.iload_n 1, 1) := by decide +kernel
theorem dX12_statement_108 : decode cX12_statement 108 = .ok (.bipush 44, 2) := by decide +kernel
theorem dX12_statement_110 : decode cX12_statement 110 = .ok (.if_icmp .ne 12, 3) := by decide +kernel
theorem dX12_statement_113 : decode cX12_statement 113 = .ok (.aload_n 0, 1) := by decide +kernel
theorem dX12_statement_114 : decode cX12_statement 114 = .ok (.sipush 4864, 3) := by decide +kernel
theorem dX12_statement_117 : decode cX12_statement 117 = .ok (.invokevirtual 485, 3) := by decide +kernel
theorem dX12_statement_120 : decode cX12_statement 120 = .ok (.iconst 1, 1) := by decide +kernel
theorem dX12_statement_121 : decode cX12_statement 121 = .ok (.ireturn, 1) := by decide +kernel
theorem dX12_statement_122 : decode cX12_statement 122 = .ok (.iconst 0, 1) := by decide +kernel
theorem dX12_statement_123 : decode cX12_statement 123 = .ok (.istore_n 2, 1) := by decide +kernel
theorem dX12_statement_124 : decode cX12_statement 124 = .ok (.iload_n 1, 1) := by decide +kernel
theorem dX12_statement_125 : decode cX12_statement 125 = .ok (.bipush 12, 2) := by decide +kernel
theorem dX12_statement_127 : decode cX12_statement 127 = .ok (.if_icmp .lt 21, 3) := by decide +kernel
theorem dX12_statement_130 : decode cX12_statement 130 = .ok (.iload_n 1, 1) := by decide +kernel
theorem dX12_statement_131 : decode cX12_statement 131 = .ok (.bipush 20, 2) := by decide +kernel
theorem dX12_statement_133 : decode cX12_statement 133 = .ok (.if_icmp .eq 15, 3) := by decide +kernel
theorem dX12_statement_136 : decode cX12_statement 136 = .ok (.iload_n 1, 1) := by decide +kernel
theorem dX12_statement_137 : decode cX12_statement 137 = .ok (.bipush 22, 2) := by decide +kernel
theorem dX12_statement_139 : decode cX12_statement 139 = .ok (.if_icmp .eq 9, 3) := by decide +kernel
theorem dX12_statement_142 : decode cX12_statement 142 = .ok (.iload_n 1, 1) := by decide +kernel
theorem dX12_statement_143 : decode cX12_statement 143 = .ok (.bipush 24, 2) := by decide +kernel
theorem dX12_statement_145 : decode cX12_statement 145 = .ok (.if_icmp .ne 120, 3) := by decide +kernel
theorem dX12_statement_148 : decode cX12_statement 148 = .ok (.aload_n 0, 1) := by decide +kernel
theorem dX12_statement_149 : decode cX12_statement 149 = .ok (.invokevirtual 344, 3) := by decide +kernel
theorem dX12_statement_152 : decode cX12_statement 152 = .ok (.bipush 46, 2) := by decide +kernel
theorem dX12_statement_154 : decode cX12_statement 154 = .ok (.if_icmp .ne 111, 3) := by decide +kernel
theorem dX12_statement_157 : decode cX12_statement 157 = .ok (.aload_n 0, 1) := by decide +kernel
theorem dX12_statement_158 : decode cX12_statement 158 = .ok (.getfield 338, 3) := by decide +kernel
theorem dX12_statement_161 : decode cX12_statement 161 = .ok (.iconst 1, 1) := by decide +kernel
theorem dX12_statement_162 : decode cX12_statement 162 = .ok (.iadd, 1) := by decide +kernel
theorem dX12_statement_163 : decode cX12_statement 163 = .ok (.aload_n 0, 1) := by decide +kernel
theorem dX12_statement_164 : decode cX12_statement 164 = .ok (.getfield 341, 3) := by decide +kernel
theorem dX12_statement_167 : decode cX12_statement 167 = .ok (.if_icmp .ge 70, 3) := by decide +kernel
theorem dX12_statement_170 : decode cX12_statement 170 = .ok (.aload_n 0, 1) := by decide +kernel
theorem dX12_statement_171 : decode cX12_statement 171 = .ok (.getfield 30, 3) := by decide +kernel
theorem dX12_statement_174 : decode cX12_statement 174 = .ok (.aload_n 0, 1) := by decide +kernel
theorem dX12_statement_175 : decode cX12_statement 175 = .ok (.getfield 338, 3) := by decide +kernel
theorem dX12_statement_178 : decode cX12_statement 178 = .ok (.iconst 1, 1) := by decide +kernel
theorem dX12_statement_179 : decode cX12_statement 179 = .ok (.iadd, 1) := by decide +kernel
theorem dX12_statement_180 : decode cX12_statement 180 = .ok (.baload, 1) := by decide +kernel
theorem dX12_statement_181 : decode cX12_statement 181 = .ok (.bipush 98, 2) := by decide +kernel
theorem dX12_statement_183 : decode cX12_statement 183 = .ok (.if_icmp .ne 54, 3) := by decide +kernel
theorem dX12_statement_186 : decode cX12_statement 186 = .ok (.aload_n 0, 1) := by decide +kernel
theorem dX12_statement_187 : decode cX12_statement 187 = .ok (.getfield 338, 3) := by decide +kernel
theorem dX12_statement_190 : decode cX12_statement 190 = .ok (.iconst 2, 1) := by decide +kernel
theorem dX12_statement_191 : decode cX12_statement 191 = .ok (.iadd, 1) := by decide +kernel
theorem dX12_statement_192 : decode cX12_statement 192 = .ok (.aload_n 0, 1) := by decide +kernel
theorem dX12_statement_193 : decode cX12_statement 193 = .ok (.getfield 341, 3) := by decide +kernel
theorem dX12_statement_196 : decode cX12_statement 196 = .ok (.if_icmp .ge 37, 3) := by decide +kernel
theorem dX12_statement_199 : decode cX12_statement 199 = .ok (.aload_n 0, 1) := by decide +kernel
theorem dX12_statement_200 : decode cX12_statement 200 = .ok (.getfield 30, 3) := by decide +kernel
theorem dX12_statement_203 : decode cX12_statement 203 = .ok (.aload_n 0, 1) := by decide +kernel
theorem dX12_statement_204 : decode cX12_statement 204 = .ok (.getfield 338, 3) := by decide +kernel
theorem dX12_statement_207 : decode cX12_statement 207 = .ok (.iconst 2, 1) := by decide +kernel
theorem dX12_statement_208 : decode cX12_statement 208 = .ok (.iadd, 1) := by decide +kernel
theorem dX12_statement_209 : decode cX12_statement 209 = .ok (.baload, 1) := by decide +kernel
theorem dX12_statement_210 : decode cX12_statement 210 = .ok (.invokestatic 357, 3) := by decide +kernel
theorem dX12_statement_213 : decode cX12_statement 213 = .ok (.ifCond .ne 24, 3) := by decide +kernel
theorem dX12_statement_216 : decode cX12_statement 216 = .ok (.aload_n 0, 1) := by decide +kernel
theorem dX12_statement_217 : decode cX12_statement 217 = .ok (.getfield 30, 3) := by decide +kernel
theorem dX12_statement_220 : decode cX12_statement 220 = .ok (.aload_n 0, 1) := by decide +kernel
theorem dX12_statement_221 : decode cX12_statement 221 = .ok (.getfield 338, 3) := by decide +kernel
theorem dX12_statement_224 : decode cX12_statement 224 = .ok (.iconst 2, 1) := by decide +kernel
theorem dX12_statement_225 : decode cX12_statement 225 = .ok (.iadd, 1) := by decide +kernel
theorem dX12_statement_226 : decode cX12_statement 226 = .ok (.baload, 1) := by decide +kernel
theorem dX12_statement_227 : decode cX12_statement 227 = .ok (.invokestatic 364, 3) := by decide +kernel
theorem dX12_statement_230 : decode cX12_statement 230 = .ok (.ifCond .ne 7, 3) := by decide +kernel
theorem dX12_statement_233 : decode cX12_statement 233 = .ok (.iconst 1, 1) := by decide +kernel
theorem dX12_statement_234 : decode cX12_statement 234 = .ok (.goto 4, 3) := by decide +kernel
theorem dX12_statement_237 : decode cX12_statement 237 = .ok (.iconst 0, 1) := by decide +kernel
theorem dX12_statement_238 : decode cX12_statement 238 = .ok (.istore_n 3, 1) := by decide +kernel
theorem dX12_statement_239 : decode cX12_statement 239 = .ok (.iload_n 3, 1) := by decide +kernel
theorem dX12_statement_240 : decode cX12_statement 240 = .ok (.ifCond .ne 13, 3) := by decide +kernel
theorem dX12_statement_243 : decode cX12_statement 243 = .ok (.aload_n 0, 1) := by decide +kernel
theorem dX12_statement_244 : decode cX12_statement 244 = .ok (.iconst 1, 1) := by decide +kernel
theorem dX12_statement_245 : decode cX12_statement 245 = .ok (.aload_n 0, 1) := by decide +kernel
theorem dX12_statement_246 : decode cX12_statement 246 = .ok (.getfield 338, 3) := by decide +kernel
theorem dX12_statement_249 : decode cX12_statement 249 = .ok (.invokevirtual 350, 3) := by decide +kernel
theorem dX12_statement_252 : decode cX12_statement 252 = .ok (.ireturn, 1) := by decide +kernel
theorem dX12_statement_253 : decode cX12_statement 253 = .ok (.aload_n 0, 1) := by decide +kernel
theorem dX12_statement_254 : decode cX12_statement 254 = .ok (.dup, 1) := by decide +kernel
theorem dX12_statement_255 : decode cX12_statement 255 = .ok (.getfield 338, 3) := by decide +kernel
theorem dX12_statement_258 : decode cX12_statement 258 = .ok (.iconst 2, 1) := by decide +kernel
theorem dX12_statement_259 : decode cX12_statement 259 = .ok (.iadd, 1) := by decide +kernel
theorem dX12_statement_260 : decode cX12_statement 260 = .ok (.putfield 338, 3) := by decide +kernel
theorem dX12_statement_263 : decode cX12_statement 263 = .ok (.iconst 1, 1) := by decide +kernel
theorem dX12_statement_264 : decode cX12_statement 264 = .ok (.istore_n 2, 1) := by decide +kernel
theorem dX12_statement_265 : decode cX12_statement 265 = .ok (.iload_n 1, 1) := by decide +kernel
theorem dX12_statement_266 : decode cX12_statement 266 = .ok (.bipush 48, 2) := by decide +kernel
theorem dX12_statement_268 : decode cX12_statement 268 = .ok (.if_icmp .ne 15, 3) := by decide +kernel
theorem dX12_statement_271 : decode cX12_statement 271 = .ok (.aload_n 0, 1) := by decide +kernel
theorem dX12_statement_272 : decode cX12_statement 272 = .ok (.iconst 3, 1) := by decide +kernel
theorem dX12_statement_273 : decode cX12_statement 273 = .ok (.iconst 0, 1) := by decide +kernel
theorem dX12_statement_274 : decode cX12_statement 274 = .ok (.iconst 0, 1) := by decide +kernel
theorem dX12_statement_275 : decode cX12_statement 275 = .ok (.iconst 0, 1) := by decide +kernel
theorem dX12_statement_276 : decode cX12_statement 276 = .ok (.iconst 0, 1) := by decide +kernel
theorem dX12_statement_277 : decode cX12_statement 277 = .ok (.invokevirtual 462, 3) := by decide +kernel
theorem dX12_statement_280 : decode cX12_statement 280 = .ok (.goto 47, 3) := by decide +kernel
theorem dX12_statement_283 : decode cX12_statement 283 = .ok (.iload_n 1, 1) := by decide +kernel
theorem dX12_statement_284 : decode cX12_statement 284 = .ok (.bipush 47, 2) := by decide +kernel
theorem dX12_statement_286 : decode cX12_statement 286 = .ok (.if_icmp .ne 15, 3) := by decide +kernel
theorem dX12_statement_289 : decode cX12_statement 289 = .ok (.aload_n 0, 1) := by decide +kernel
theorem dX12_statement_290 : decode cX12_statement 290 = .ok (.iconst 1, 1) := by decide +kernel
theorem dX12_statement_291 : decode cX12_statement 291 = .ok (.iconst 3, 1) := by decide +kernel
theorem dX12_statement_292 : decode cX12_statement 292 = .ok (.iconst 0, 1) := by decide +kernel
theorem dX12_statement_293 : decode cX12_statement 293 = .ok (.iconst 0, 1) := by decide +kernel
theorem dX12_statement_294 : decode cX12_statement 294 = .ok (.iconst 0, 1) := by decide +kernel
theorem dX12_statement_295 : decode cX12_statement 295 = .ok (.invokevirtual 462, 3) := by decide +kernel
theorem dX12_statement_298 : decode cX12_statement 298 = .ok (.goto 29, 3) := by decide +kernel
theorem dX12_statement_301 : decode cX12_statement 301 = .ok (.aload_n 0, 1) := by decide +kernel
theorem dX12_statement_302 : decode cX12_statement 302 = .ok (.iload_n 1, 1) := by decide +kernel
theorem dX12_statement_303 : decode cX12_statement 303 = .ok (.bipush 24, 2) := by decide +kernel
theorem dX12_statement_305 : decode cX12_statement 305 = .ok (.if_icmp .eq 9, 3) := by decide +kernel
theorem dX12_statement_308 : decode cX12_statement 308 = .ok (.iload_n 1, 1) := by decide +kernel
theorem dX12_statement_309 : decode cX12_statement 309 = .ok (.bipush 25, 2) := by decide +kernel
theorem dX12_statement_311 : decode cX12_statement 311 = .ok (.if_icmp .ne 7, 3) := by decide +kernel
theorem dX12_statement_314 : decode cX12_statement 314 = .ok (.iconst 1, 1) := by decide +kernel
theorem dX12_statement_315 : decode cX12_statement 315 = .ok (.goto 4, 3) := by decide +kernel
theorem dX12_statement_318 : decode cX12_statement 318 = .ok (.iconst 0, 1) := by decide +kernel
theorem dX12_statement_319 : decode cX12_statement 319 = .ok (.invokevirtual 488, 3) := by decide +kernel
theorem dX12_statement_322 : decode cX12_statement 322 = .ok (.ifCond .ne 5, 3) := by decide +kernel
theorem dX12_statement_325 : decode cX12_statement 325 = .ok (.iconst 0, 1) := by decide +kernel
theorem dX12_statement_326 : decode cX12_statement 326 = .ok (.ireturn, 1) := by decide +kernel
theorem dX12_statement_327 : decode cX12_statement 327 = .ok (.aload_n 0, 1) := by decide +kernel
theorem dX12_statement_328 : decode cX12_statement 328 = .ok (.getfield 441, 3) := by decide +kernel
theorem dX12_statement_331 : decode cX12_statement 331 = .ok (.istore_n 3, 1) := by decide +kernel
theorem dX12_statement_332 : decode cX12_statement 332 = .ok (.aload_n 0, 1) := by decide +kernel
theorem dX12_statement_333 : decode cX12_statement 333 = .ok (.getfield 444, 3) := by decide +kernel
theorem dX12_statement_336 : decode cX12_statement 336 = .ok (.istore 4, 2) := by decide +kernel
theorem dX12_statement_338 : decode cX12_statement 338 = .ok (.aload_n 0, 1) := by decide +kernel
theorem dX12_statement_339 : decode cX12_statement 339 = .ok (.getfield 447, 3) := by decide +kernel
theorem dX12_statement_342 : decode cX12_statement 342 = .ok (.istore 5, 2) := by decide +kernel
theorem dX12_statement_344 : decode cX12_statement 344 = .ok (.aload_n 0, 1) := by decide +kernel
theorem dX12_statement_345 : decode cX12_statement 345 = .ok (.getfield 453, 3) := by decide +kernel
theorem dX12_statement_348 : decode cX12_statement 348 = .ok (.istore 6, 2) := by decide +kernel
theorem dX12_statement_350 : decode cX12_statement 350 = .ok (.aload_n 0, 1) := by decide +kernel
theorem dX12_statement_351 : decode cX12_statement 351 = .ok (.getfield 450, 3) := by decide +kernel
theorem dX12_statement_354 : decode cX12_statement 354 = .ok (.istore 7, 2) := by decide +kernel
theorem dX12_statement_356 : decode cX12_statement 356 = .ok (.aload_n 0, 1) := by decide +kernel
theorem dX12_statement_357 : decode cX12_statement 357 = .ok (.getfield 432, 3) := by decide +kernel
theorem dX12_statement_360 : decode cX12_statement 360 = .ok (.istore 8, 2) := by decide +kernel
theorem dX12_statement_362 : decode cX12_statement 362 = .ok (.iload_n 1, 1) := by decide +kernel
theorem dX12_statement_363 : decode cX12_statement 363 = .ok (.bipush 20, 2) := by decide +kernel
theorem dX12_statement_365 : decode cX12_statement 365 = .ok (.if_icmp .lt 70, 3) := by decide +kernel
theorem dX12_statement_368 : decode cX12_statement 368 = .ok (.iload_n 1, 1) := by decide +kernel
theorem dX12_statement_369 : decode cX12_statement 369 = .ok (.bipush 30, 2) := by decide +kernel
theorem dX12_statement_371 : decode cX12_statement 371 = .ok (.if_icmp .ge 64, 3) := by decide +kernel
theorem dX12_statement_374 : decode cX12_statement 374 = .ok (.aload_n 0, 1) := by decide +kernel
theorem dX12_statement_375 : decode cX12_statement 375 = .ok (.sipush 4096, 3) := by decide +kernel
theorem dX12_statement_378 : decode cX12_statement 378 = .ok (.iload_n 1, 1) := by decide +kernel
theorem dX12_statement_379 : decode cX12_statement 379 = .ok (.bipush 20, 2) := by decide +kernel
theorem dX12_statement_381 : decode cX12_statement 381 = .ok (.isub, 1) := by decide +kernel
theorem dX12_statement_382 : decode cX12_statement 382 = .ok (.bipush 7, 2) := by decide +kernel
theorem dX12_statement_384 : decode cX12_statement 384 = .ok (.ishl, 1) := by decide +kernel
theorem dX12_statement_385 : decode cX12_statement 385 = .ok (.ior, 1) := by decide +kernel
theorem dX12_statement_386 : decode cX12_statement 386 = .ok (.iload_n 2, 1) := by decide +kernel
theorem dX12_statement_387 : decode cX12_statement 387 = .ok (.ifCond .eq 8, 3) := by decide +kernel
theorem dX12_statement_390 : decode cX12_statement 390 = .ok (.bipush 64, 2) := by decide +kernel
theorem dX12_statement_392 : decode cX12_statement 392 = .ok (.goto 4, 3) := by decide +kernel
theorem dX12_statement_395 : decode cX12_statement 395 = .ok (.iconst 0, 1) := by decide +kernel
theorem dX12_statement_396 : decode cX12_statement 396 = .ok (.ior, 1) := by decide +kernel
theorem dX12_statement_397 : decode cX12_statement 397 = .ok (.iload 4, 2) := by decide +kernel
theorem dX12_statement_399 : decode cX12_statement 399 = .ok (.iconst 4, 1) := by decide +kernel
theorem dX12_statement_400 : decode cX12_statement 400 = .ok (.ishl, 1) := by decide +kernel
theorem dX12_statement_401 : decode cX12_statement 401 = .ok (.ior, 1) := by decide +kernel
theorem dX12_statement_402 : decode cX12_statement 402 = .ok (.iload_n 3, 1) := by decide +kernel
theorem dX12_statement_403 : decode cX12_statement 403 = .ok (.ior, 1) := by decide +kernel
theorem dX12_statement_404 : decode cX12_statement 404 = .ok (.invokevirtual 485, 3) := by decide +kernel
theorem dX12_statement_407 : decode cX12_statement 407 = .ok (.iload 5, 2) := by decide +kernel
theorem dX12_statement_409 : decode cX12_statement 409 = .ok (.ifCond .eq 24, 3) := by decide +kernel
theorem dX12_statement_412 : decode cX12_statement 412 = .ok (.aload_n 0, 1) := by decide +kernel
theorem dX12_statement_413 : decode cX12_statement 413 = .ok (.iload 6, 2) := by decide +kernel
theorem dX12_statement_415 : decode cX12_statement 415 = .ok (.ifCond .eq 13, 3) := by decide +kernel
theorem dX12_statement_418 : decode cX12_statement 418 = .ok (.iload 7, 2) := by decide +kernel
theorem dX12_statement_420 : decode cX12_statement 420 = .ok (.aload_n 0, 1) := by decide +kernel
theorem dX12_statement_421 : decode cX12_statement 421 = .ok (.getfield 432, 3) := by decide +kernel
theorem dX12_statement_424 : decode cX12_statement 424 = .ok (.isub, 1) := by decide +kernel
theorem dX12_statement_425 : decode cX12_statement 425 = .ok (.goto 5, 3) := by decide +kernel
theorem dX12_statement_428 : decode cX12_statement 428 = .ok (.iload 7, 2) := by decide +kernel
theorem dX12_statement_430 : decode cX12_statement 430 = .ok (.invokevirtual 485, 3) := by decide +kernel
theorem dX12_statement_433 : decode cX12_statement 433 = .ok (.iconst 1, 1) := by decide +kernel
theorem dX12_statement_434 : decode cX12_statement 434 = .ok (.ireturn, 1) := by decide +kernel
theorem dX12_statement_435 : decode cX12_statement 435 = .ok (.iload_n 1, 1) := by decide +kernel
theorem dX12_statement_436 : decode cX12_statement 436 = .ok (.bipush 46, 2) := by decide +kernel
theorem dX12_statement_438 : decode cX12_statement 438 = .ok (.if_icmp .ne 15, 3) := by decide +kernel
theorem dX12_statement_441 : decode cX12_statement 441 = .ok (.aload_n 0, 1) := by decide +kernel
theorem dX12_statement_442 : decode cX12_statement 442 = .ok (.iconst 0, 1) := by decide +kernel
theorem dX12_statement_443 : decode cX12_statement 443 = .ok (.iconst 0, 1) := by decide +kernel
theorem dX12_statement_444 : decode cX12_statement 444 = .ok (.iconst 0, 1) := by decide +kernel
theorem dX12_statement_445 : decode cX12_statement 445 = .ok (.iconst 0, 1) := by decide +kernel
theorem dX12_statement_446 : decode cX12_statement 446 = .ok (.iconst 0, 1) := by decide +kernel
theorem dX12_statement_447 : decode cX12_statement 447 = .ok (.invokevirtual 462, 3) := by decide +kernel
theorem dX12_statement_450 : decode cX12_statement 450 = .ok (.goto 27, 3) := by decide +kernel
theorem dX12_statement_453 : decode cX12_statement 453 = .ok (.iload_n 1, 1) := by decide +kernel
theorem dX12_statement_454 : decode cX12_statement 454 = .ok (.bipush 12, 2) := by decide +kernel
theorem dX12_statement_456 : decode cX12_statement 456 = .ok (.if_icmp .ge 12, 3) := by decide +kernel
theorem dX12_statement_459 : decode cX12_statement 459 = .ok (.aload_n 0, 1) := by decide +kernel
theorem dX12_statement_460 : decode cX12_statement 460 = .ok (.bipush 44, 2) := by decide +kernel
theorem dX12_statement_462 : decode cX12_statement 462 = .ok (.invokevirtual 469, 3) := by decide +kernel
theorem dX12_statement_465 : decode cX12_statement 465 = .ok (.ifCond .eq 10, 3) := by decide +kernel
theorem dX12_statement_468 : decode cX12_statement 468 = .ok (.aload_n 0, 1) := by decide +kernel
theorem dX12_statement_469 : decode cX12_statement 469 = .ok (.invokevirtual 472, 3) := by decide +kernel
theorem dX12_statement_472 : decode cX12_statement 472 = .ok (.ifCond .ne 5, 3) := by decide +kernel
theorem dX12_statement_475 : decode cX12_statement 475 = .ok (.iconst 0, 1) := by decide +kernel
theorem dX12_statement_476 : decode cX12_statement 476 = .ok (.ireturn, 1) := by decide +kernel
theorem dX12_statement_477 : decode cX12_statement 477 = .ok (.iload_n 1, 1) := by decide +kernel
theorem dX12_statement_478 : decode cX12_statement 478 = .ok (.bipush 12, 2) := by decide +kernel
theorem dX12_statement_480 : decode cX12_statement 480 = .ok (.if_icmp .ge 9, 3) := by decide +kernel
theorem dX12_statement_483 : decode cX12_statement 483 = .ok (.iload_n 1, 1) := by decide +kernel
theorem dX12_statement_484 : decode cX12_statement 484 = .ok (.iconst 4, 1) := by decide +kernel
theorem dX12_statement_485 : decode cX12_statement 485 = .ok (.iadd, 1) := by decide +kernel
theorem dX12_statement_486 : decode cX12_statement 486 = .ok (.goto 4, 3) := by decide +kernel
theorem dX12_statement_489 : decode cX12_statement 489 = .ok (.iconst 4, 1) := by decide +kernel
theorem dX12_statement_490 : decode cX12_statement 490 = .ok (.istore 9, 2) := by decide +kernel
theorem dX12_statement_492 : decode cX12_statement 492 = .ok (.aload_n 0, 1) := by decide +kernel
theorem dX12_statement_493 : decode cX12_statement 493 = .ok (.iload 9, 2) := by decide +kernel
theorem dX12_statement_495 : decode cX12_statement 495 = .ok (.bipush 12, 2) := by decide +kernel
theorem dX12_statement_497 : decode cX12_statement 497 = .ok (.ishl, 1) := by decide +kernel
theorem dX12_statement_498 : decode cX12_statement 498 = .ok (.iload_n 3, 1) := by decide +kernel
theorem dX12_statement_499 : decode cX12_statement 499 = .ok (.bipush 8, 2) := by decide +kernel
theorem dX12_statement_501 : decode cX12_statement 501 = .ok (.ishl, 1) := by decide +kernel
theorem dX12_statement_502 : decode cX12_statement 502 = .ok (.ior, 1) := by decide +kernel
theorem dX12_statement_503 : decode cX12_statement 503 = .ok (.aload_n 0, 1) := by decide +kernel
theorem dX12_statement_504 : decode cX12_statement 504 = .ok (.getfield 444, 3) := by decide +kernel
theorem dX12_statement_507 : decode cX12_statement 507 = .ok (.iconst 1, 1) := by decide +kernel
theorem dX12_statement_508 : decode cX12_statement 508 = .ok (.if_icmp .ne 9, 3) := by decide +kernel
theorem dX12_statement_511 : decode cX12_statement 511 = .ok (.sipush 128, 3) := by decide +kernel
theorem dX12_statement_514 : decode cX12_statement 514 = .ok (.goto 4, 3) := by decide +kernel
theorem dX12_statement_517 : decode cX12_statement 517 = .ok (.iconst 0, 1) := by decide +kernel
theorem dX12_statement_518 : decode cX12_statement 518 = .ok (.ior, 1) := by decide +kernel
theorem dX12_statement_519 : decode cX12_statement 519 = .ok (.iload_n 2, 1) := by decide +kernel
theorem dX12_statement_520 : decode cX12_statement 520 = .ok (.ifCond .eq 8, 3) := by decide +kernel
theorem dX12_statement_523 : decode cX12_statement 523 = .ok (.bipush 64, 2) := by decide +kernel
theorem dX12_statement_525 : decode cX12_statement 525 = .ok (.goto 4, 3) := by decide +kernel
theorem dX12_statement_528 : decode cX12_statement 528 = .ok (.iconst 0, 1) := by decide +kernel
theorem dX12_statement_529 : decode cX12_statement 529 = .ok (.ior, 1) := by decide +kernel
theorem dX12_statement_530 : decode cX12_statement 530 = .ok (.iload 4, 2) := by decide +kernel
theorem dX12_statement_532 : decode cX12_statement 532 = .ok (.iconst 4, 1) := by decide +kernel
theorem dX12_statement_533 : decode cX12_statement 533 = .ok (.ishl, 1) := by decide +kernel
theorem dX12_statement_534 : decode cX12_statement 534 = .ok (.ior, 1) := by decide +kernel
theorem dX12_statement_535 : decode cX12_statement 535 = .ok (.aload_n 0, 1) := by decide +kernel
theorem dX12_statement_536 : decode cX12_statement 536 = .ok (.getfield 441, 3) := by decide +kernel
theorem dX12_statement_539 : decode cX12_statement 539 = .ok (.ior, 1) := by decide +kernel
theorem dX12_statement_540 : decode cX12_statement 540 = .ok (.invokevirtual 485, 3) := by decide +kernel
theorem dX12_statement_543 : decode cX12_statement 543 = .ok (.iload 5, 2) := by decide +kernel
theorem dX12_statement_545 : decode cX12_statement 545 = .ok (.ifCond .eq 24, 3) := by decide +kernel
theorem dX12_statement_548 : decode cX12_statement 548 = .ok (.aload_n 0, 1) := by decide +kernel
theorem dX12_statement_549 : decode cX12_statement 549 = .ok (.iload 6, 2) := by decide +kernel
theorem dX12_statement_551 : decode cX12_statement 551 = .ok (.ifCond .eq 13, 3) := by decide +kernel
theorem dX12_statement_554 : decode cX12_statement 554 = .ok (.iload 7, 2) := by decide +kernel
theorem dX12_statement_556 : decode cX12_statement 556 = .ok (.aload_n 0, 1) := by decide +kernel
theorem dX12_statement_557 : decode cX12_statement 557 = .ok (.getfield 432, 3) := by decide +kernel
theorem dX12_statement_560 : decode cX12_statement 560 = .ok (.isub, 1) := by decide +kernel
theorem dX12_statement_561 : decode cX12_statement 561 = .ok (.goto 5, 3) := by decide +kernel
theorem dX12_statement_564 : decode cX12_statement 564 = .ok (.iload 7, 2) := by decide +kernel
theorem dX12_statement_566 : decode cX12_statement 566 = .ok (.invokevirtual 485, 3) := by decide +kernel
theorem dX12_statement_569 : decode cX12_statement 569 = .ok (.aload_n 0, 1) := by decide +kernel
theorem dX12_statement_570 : decode cX12_statement 570 = .ok (.getfield 447, 3) := by decide +kernel
theorem dX12_statement_573 : decode cX12_statement 573 = .ok (.ifCond .eq 30, 3) := by decide +kernel
theorem dX12_statement_576 : decode cX12_statement 576 = .ok (.aload_n 0, 1) := by decide +kernel
theorem dX12_statement_577 : decode cX12_statement 577 = .ok (.aload_n 0, 1) := by decide +kernel
theorem dX12_statement_578 : decode cX12_statement 578 = .ok (.getfield 453, 3) := by decide +kernel
theorem dX12_statement_581 : decode cX12_statement 581 = .ok (.ifCond .eq 15, 3) := by decide +kernel
theorem dX12_statement_584 : decode cX12_statement 584 = .ok (.aload_n 0, 1) := by decide +kernel
theorem dX12_statement_585 : decode cX12_statement 585 = .ok (.getfield 450, 3) := by decide +kernel
theorem dX12_statement_588 : decode cX12_statement 588 = .ok (.aload_n 0, 1) := by decide +kernel
theorem dX12_statement_589 : decode cX12_statement 589 = .ok (.getfield 432, 3) := by decide +kernel
theorem dX12_statement_592 : decode cX12_statement 592 = .ok (.isub, 1) := by decide +kernel
theorem dX12_statement_593 : decode cX12_statement 593 = .ok (.goto 7, 3) := by decide +kernel
theorem dX12_statement_596 : decode cX12_statement 596 = .ok (.aload_n 0, 1) := by decide +kernel
theorem dX12_statement_597 : decode cX12_statement 597 = .ok (.getfield 450, 3) := by decide +kernel
theorem dX12_statement_600 : decode cX12_statement 600 = .ok (.invokevirtual 485, 3) := by decide +kernel
theorem dX12_statement_603 : decode cX12_statement 603 = .ok (.aload_n 0, 1) := by decide +kernel
theorem dX12_statement_604 : decode cX12_statement 604 = .ok (.getfield 432, 3) := by decide +kernel
theorem dX12_statement_607 : decode cX12_statement 607 = .ok (.iload 8, 2) := by decide +kernel
theorem dX12_statement_609 : decode cX12_statement 609 = .ok (.if_icmp .le 7, 3) := by decide +kernel
theorem dX12_statement_612 : decode cX12_statement 612 = .ok (.iconst 1, 1) := by decide +kernel
theorem dX12_statement_613 : decode cX12_statement 613 = .ok (.goto 4, 3) := by decide +kernel
theorem dX12_statement_616 : decode cX12_statement 616 = .ok (.iconst 0, 1) := by decide +kernel
theorem dX12_statement_617 : decode cX12_statement 617 = .ok (.ireturn, 1) := by decide +kernel
theorem dX12_makeTwo_0 : decode cX12_makeTwo 0 = .ok (.aload_n 0, 1) := by decide +kernel
theorem dX12_makeTwo_1 : decode cX12_makeTwo 1 = .ok (.iload_n 1, 1) := by decide +kernel
theorem dX12_makeTwo_2 : decode cX12_makeTwo 2 = .ok (.bipush 12, 2) := by decide +kernel
theorem dX12_makeTwo_4 : decode cX12_makeTwo 4 = .ok (.ishl, 1) := by decide +kernel
theorem dX12_makeTwo_5 : decode cX12_makeTwo 5 = .ok (.iload_n 2, 1) := by decide +kernel
theorem dX12_makeTwo_6 : decode cX12_makeTwo 6 = .ok (.bipush 8, 2) := by decide +kernel
theorem dX12_makeTwo_8 : decode cX12_makeTwo 8 = .ok (.ishl, 1) := by decide +kernel
theorem dX12_makeTwo_9 : decode cX12_makeTwo 9 = .ok (.ior, 1) := by decide +kernel
theorem dX12_makeTwo_10 : decode cX12_makeTwo 10 = .ok (.iload 5, 2) := by decide +kernel
theorem dX12_makeTwo_12 : decode cX12_makeTwo 12 = .ok (.ifCond .eq 8, 3) := by decide +kernel
theorem dX12_makeTwo_15 : decode cX12_makeTwo 15 = .ok (.bipush 64, 2) := by decide +kernel
theorem dX12_makeTwo_17 : decode cX12_makeTwo 17 = .ok (.goto 4, 3) := by decide +kernel
theorem dX12_makeTwo_20 : decode cX12_makeTwo 20 = .ok (.iconst 0, 1) := by decide +kernel
theorem dX12_makeTwo_21 : decode cX12_makeTwo 21 = .ok (.ior, 1) := by decide +kernel
theorem dX12_makeTwo_22 : decode cX12_makeTwo 22 = .ok (.iload_n 3, 1) := by decide +kernel
theorem dX12_makeTwo_23 : decode cX12_makeTwo 23 = .ok (.iconst 4, 1) := by decide +kernel
theorem dX12_makeTwo_24 : decode cX12_makeTwo 24 = .ok (.ishl, 1) := by decide +kernel
theorem dX12_makeTwo_25 : decode cX12_makeTwo 25 = .ok (.ior, 1) := by decide +kernel
theorem dX12_makeTwo_26 : decode cX12_makeTwo 26 = .ok (.iload 4, 2) := by decide +kernel
theorem dX12_makeTwo_28 : decode cX12_makeTwo 28 = .ok (.ior, 1) := by decide +kernel
theorem dX12_makeTwo_29 : decode cX12_makeTwo 29 = .ok (.invokevirtual 485, 3) := by decide +kernel
theorem dX12_makeTwo_32 : decode cX12_makeTwo 32 = .ok (.iconst 1, 1) := by decide +kernel
theorem dX12_makeTwo_33 : decode cX12_makeTwo 33 = .ok (.ireturn, 1) := by decide +kernel
theorem dX12_list0_0 : decode cX12_list0 0 = .ok (.iconst 1, 1) := by decide +kernel
theorem dX12_list0_1 : decode cX12_list0 1 = .ok (.istore_n 2, 1) := by decide +kernel
theorem dX12_list0_2 : decode cX12_list0 2 = .ok (.iload_n 2, 1) := by decide +kernel
theorem dX12_list0_3 : decode cX12_list0 3 = .ok (.ifCond .eq 116, 3) := by decide +kernel
theorem dX12_list0_6 : decode cX12_list0 6 = .ok (.aload_n 0, 1) := by decide +kernel
theorem dX12_list0_7 : decode cX12_list0 7 = .ok (.iconst 1, 1) := by decide +kernel
theorem dX12_list0_8 : decode cX12_list0 8 = .ok (.invokevirtual 459, 3) := by decide +kernel
theorem dX12_list0_11 : decode cX12_list0 11 = .ok (.ifCond .ne 5, 3) := by decide +kernel
theorem dX12_list0_14 : decode cX12_list0 14 = .ok (.iconst 0, 1) := by decide +kernel
theorem dX12_list0_15 : decode cX12_list0 15 = .ok (.ireturn, 1) := by decide +kernel
theorem dX12_list0_16 : decode cX12_list0 16 = .ok (.iload_n 1, 1) := by decide +kernel
theorem dX12_list0_17 : decode cX12_list0 17 = .ok (.ifCond .eq 39, 3) := by decide +kernel
theorem dX12_list0_20 : decode cX12_list0 20 = .ok (.aload_n 0, 1) := by decide +kernel
theorem dX12_list0_21 : decode cX12_list0 21 = .ok (.getfield 401, 3) := by decide +kernel
theorem dX12_list0_24 : decode cX12_list0 24 = .ok (.ifCond .ne 32, 3) := by decide +kernel
theorem dX12_list0_27 : decode cX12_list0 27 = .ok (.aload_n 0, 1) := by decide +kernel
theorem dX12_list0_28 : decode cX12_list0 28 = .ok (.getfield 410, 3) := by decide +kernel
theorem dX12_list0_31 : decode cX12_list0 31 = .ok (.bipush (-128), 2) := by decide +kernel
theorem dX12_list0_33 : decode cX12_list0 33 = .ok (.if_icmp .lt 13, 3) := by decide +kernel
theorem dX12_list0_36 : decode cX12_list0 36 = .ok (.aload_n 0, 1) := by decide +kernel
theorem dX12_list0_37 : decode cX12_list0 37 = .ok (.getfield 410, 3) := by decide +kernel
theorem dX12_list0_40 : decode cX12_list0 40 = .ok (.sipush 255, 3) := by decide +kernel
theorem dX12_list0_43 : decode cX12_list0 43 = .ok (.if_icmp .le 13, 3) := by decide +kernel
theorem dX12_list0_46 : decode cX12_list0 46 = .ok (.aload_n 0, 1) := by decide +kernel
theorem dX12_list0_47 : decode cX12_list0 47 = .ok (.iconst 2, 1) := by decide +kernel
theorem dX12_list0_48 : decode cX12_list0 48 = .ok (.aload_n 0, 1) := by decide +kernel
theorem dX12_list0_49 : decode cX12_list0 49 = .ok (.getfield 398, 3) := by decide +kernel
theorem dX12_list0_52 : decode cX12_list0 52 = .ok (.invokevirtual 350, 3) := by decide +kernel
theorem dX12_list0_55 : decode cX12_list0 55 = .ok (.ireturn, 1) := by decide +kernel
theorem dX12_list0_56 : decode cX12_list0 56 = .ok (.iload_n 1, 1) := by decide +kernel
theorem dX12_list0_57 : decode cX12_list0 57 = .ok (.ifCond .eq 18, 3) := by decide +kernel
theorem dX12_list0_60 : decode cX12_list0 60 = .ok (.aload_n 0, 1) := by decide +kernel
theorem dX12_list0_61 : decode cX12_list0 61 = .ok (.aload_n 0, 1) := by decide +kernel
theorem dX12_list0_62 : decode cX12_list0 62 = .ok (.getfield 407, 3) := by decide +kernel
theorem dX12_list0_65 : decode cX12_list0 65 = .ok (.sipush 255, 3) := by decide +kernel
theorem dX12_list0_68 : decode cX12_list0 68 = .ok (.iand, 1) := by decide +kernel
theorem dX12_list0_69 : decode cX12_list0 69 = .ok (.invokevirtual 438, 3) := by decide +kernel
theorem dX12_list0_72 : decode cX12_list0 72 = .ok (.goto 11, 3) := by decide +kernel
theorem dX12_list0_75 : decode cX12_list0 75 = .ok (.aload_n 0, 1) := by decide +kernel
theorem dX12_list0_76 : decode cX12_list0 76 = .ok (.aload_n 0, 1) := by decide +kernel
theorem dX12_list0_77 : decode cX12_list0 77 = .ok (.getfield 407, 3) := by decide +kernel
theorem dX12_list0_80 : decode cX12_list0 80 = .ok (.invokevirtual 485, 3) := by decide +kernel
theorem dX12_list0_83 : decode cX12_list0 83 = .ok (.aload_n 0, 1) := by decide +kernel
theorem dX12_list0_84 : decode cX12_list0 84 = .ok (.invokevirtual 347, 3) := by decide +kernel
theorem dX12_list0_87 : decode cX12_list0 87 = .ok (.aload_n 0, 1) := by decide +kernel
theorem dX12_list0_88 : decode cX12_list0 88 = .ok (.invokevirtual 344, 3) := by decide +kernel
theorem dX12_list0_91 : decode cX12_list0 91 = .ok (.bipush 44, 2) := by decide +kernel
theorem dX12_list0_93 : decode cX12_list0 93 = .ok (.if_icmp .ne 7, 3) := by decide +kernel
theorem dX12_list0_96 : decode cX12_list0 96 = .ok (.iconst 1, 1) := by decide +kernel
theorem dX12_list0_97 : decode cX12_list0 97 = .ok (.goto 4, 3) := by decide +kernel
theorem dX12_list0_100 : decode cX12_list0 100 = .ok (.iconst 0, 1) := by decide +kernel
theorem dX12_list0_101 : decode cX12_list0 101 = .ok (.istore_n 2, 1) := by decide +kernel
theorem dX12_list0_102 : decode cX12_list0 102 = .ok (.iload_n 2, 1) := by decide +kernel
theorem dX12_list0_103 : decode cX12_list0 103 = .ok (.ifCond .eq (-101), 3) := by decide +kernel
theorem dX12_list0_106 : decode cX12_list0 106 = .ok (.aload_n 0, 1) := by decide +kernel
theorem dX12_list0_107 : decode cX12_list0 107 = .ok (.dup, 1) := by decide +kernel
theorem dX12_list0_108 : decode cX12_list0 108 = .ok (.getfield 338, 3) := by decide +kernel
theorem dX12_list0_111 : decode cX12_list0 111 = .ok (.iconst 1, 1) := by decide +kernel
theorem dX12_list0_112 : decode cX12_list0 112 = .ok (.iadd, 1) := by decide +kernel
theorem dX12_list0_113 : decode cX12_list0 113 = .ok (.putfield 338, 3) := by decide +kernel
theorem dX12_list0_116 : decode cX12_list0 116 = .ok (.goto (-114), 3) := by decide +kernel
theorem dX12_list0_119 : decode cX12_list0 119 = .ok (.iconst 1, 1) := by decide +kernel
theorem dX12_list0_120 : decode cX12_list0 120 = .ok (.ireturn, 1) := by decide +kernel
theorem dX12_jump_0 : decode cX12_jump 0 = .ok (.aload_n 0, 1) := by decide +kernel
theorem dX12_jump_1 : decode cX12_jump 1 = .ok (.iconst 1, 1) := by decide +kernel
theorem dX12_jump_2 : decode cX12_jump 2 = .ok (.invokevirtual 459, 3) := by decide +kernel
theorem dX12_jump_5 : decode cX12_jump 5 = .ok (.ifCond .ne 5, 3) := by decide +kernel
theorem dX12_jump_8 : decode cX12_jump 8 = .ok (.iconst 0, 1) := by decide +kernel
theorem dX12_jump_9 : decode cX12_jump 9 = .ok (.ireturn, 1) := by decide +kernel
theorem dX12_jump_10 : decode cX12_jump 10 = .ok (.aload_n 0, 1) := by decide +kernel
theorem dX12_jump_11 : decode cX12_jump 11 = .ok (.getfield 407, 3) := by decide +kernel
theorem dX12_jump_14 : decode cX12_jump 14 = .ok (.aload_n 0, 1) := by decide +kernel
theorem dX12_jump_15 : decode cX12_jump 15 = .ok (.getfield 432, 3) := by decide +kernel
theorem dX12_jump_18 : decode cX12_jump 18 = .ok (.isub, 1) := by decide +kernel
theorem dX12_jump_19 : decode cX12_jump 19 = .ok (.iconst 2, 1) := by decide +kernel
theorem dX12_jump_20 : decode cX12_jump 20 = .ok (.isub, 1) := by decide +kernel
theorem dX12_jump_21 : decode cX12_jump 21 = .ok (.i2s, 1) := by decide +kernel
theorem dX12_jump_22 : decode cX12_jump 22 = .ok (.istore_n 2, 1) := by decide +kernel
theorem dX12_jump_23 : decode cX12_jump 23 = .ok (.aload_n 0, 1) := by decide +kernel
theorem dX12_jump_24 : decode cX12_jump 24 = .ok (.getfield 426, 3) := by decide +kernel
theorem dX12_jump_27 : decode cX12_jump 27 = .ok (.ifCond .eq 33, 3) := by decide +kernel
theorem dX12_jump_30 : decode cX12_jump 30 = .ok (.iload_n 2, 1) := by decide +kernel
theorem dX12_jump_31 : decode cX12_jump 31 = .ok (.iconst 1, 1) := by decide +kernel
theorem dX12_jump_32 : decode cX12_jump 32 = .ok (.iand, 1) := by decide +kernel
theorem dX12_jump_33 : decode cX12_jump 33 = .ok (.iconst 1, 1) := by decide +kernel
theorem dX12_jump_34 : decode cX12_jump 34 = .ok (.if_icmp .eq 17, 3) := by decide +kernel
theorem dX12_jump_37 : decode cX12_jump 37 = .ok (.iload_n 2, 1) := by decide +kernel
theorem dX12_jump_38 : decode cX12_jump 38 = .ok (.sipush (-1024), 3) := by decide +kernel
theorem dX12_jump_41 : decode cX12_jump 41 = .ok (.if_icmp .lt 10, 3) := by decide +kernel
theorem dX12_jump_44 : decode cX12_jump 44 = .ok (.iload_n 2, 1) := by decide +kernel
theorem dX12_jump_45 : decode cX12_jump 45 = .ok (.sipush 1022, 3) := by decide +kernel
theorem dX12_jump_48 : decode cX12_jump 48 = .ok (.if_icmp .le 12, 3) := by decide +kernel
theorem dX12_jump_51 : decode cX12_jump 51 = .ok (.aload_n 0, 1) := by decide +kernel
theorem dX12_jump_52 : decode cX12_jump 52 = .ok (.iconst 5, 1) := by decide +kernel
theorem dX12_jump_53 : decode cX12_jump 53 = .ok (.aload_n 0, 1) := by decide +kernel
theorem dX12_jump_54 : decode cX12_jump 54 = .ok (.getfield 398, 3) := by decide +kernel
theorem dX12_jump_57 : decode cX12_jump 57 = .ok (.invokevirtual 429, 3) := by decide +kernel
theorem dX12_jump_60 : decode cX12_jump 60 = .ok (.aload_n 0, 1) := by decide +kernel
theorem dX12_jump_61 : decode cX12_jump 61 = .ok (.sipush 8192, 3) := by decide +kernel
theorem dX12_jump_64 : decode cX12_jump 64 = .ok (.iload_n 1, 1) := by decide +kernel
theorem dX12_jump_65 : decode cX12_jump 65 = .ok (.bipush 10, 2) := by decide +kernel
theorem dX12_jump_67 : decode cX12_jump 67 = .ok (.ishl, 1) := by decide +kernel
theorem dX12_jump_68 : decode cX12_jump 68 = .ok (.ior, 1) := by decide +kernel
theorem dX12_jump_69 : decode cX12_jump 69 = .ok (.iload_n 2, 1) := by decide +kernel
theorem dX12_jump_70 : decode cX12_jump 70 = .ok (.iconst 1, 1) := by decide +kernel
theorem dX12_jump_71 : decode cX12_jump 71 = .ok (.ishr, 1) := by decide +kernel
theorem dX12_jump_72 : decode cX12_jump 72 = .ok (.sipush 1023, 3) := by decide +kernel
theorem dX12_jump_75 : decode cX12_jump 75 = .ok (.iand, 1) := by decide +kernel
theorem dX12_jump_76 : decode cX12_jump 76 = .ok (.ior, 1) := by decide +kernel
theorem dX12_jump_77 : decode cX12_jump 77 = .ok (.invokevirtual 485, 3) := by decide +kernel
theorem dX12_jump_80 : decode cX12_jump 80 = .ok (.iconst 1, 1) := by decide +kernel
theorem dX12_jump_81 : decode cX12_jump 81 = .ok (.ireturn, 1) := by decide +kernel
theorem dX12_line_0 : decode cX12_line 0 = .ok (.aload_n 0, 1) := by decide +kernel
theorem dX12_line_1 : decode cX12_line 1 = .ok (.invokevirtual 347, 3) := by decide +kernel
theorem dX12_line_4 : decode cX12_line 4 = .ok (.aload_n 0, 1) := by decide +kernel
theorem dX12_line_5 : decode cX12_line 5 = .ok (.getfield 338, 3) := by decide +kernel
theorem dX12_line_8 : decode cX12_line 8 = .ok (.aload_n 0, 1) := by decide +kernel
theorem dX12_line_9 : decode cX12_line 9 = .ok (.getfield 341, 3) := by decide +kernel
theorem dX12_line_12 : decode cX12_line 12 = .ok (.if_icmp .ne 5, 3) := by decide +kernel
theorem dX12_line_15 : decode cX12_line 15 = .ok (.iconst 1, 1) := by decide +kernel
theorem dX12_line_16 : decode cX12_line 16 = .ok (.ireturn, 1) := by decide +kernel
theorem dX12_line_17 : decode cX12_line 17 = .ok (.aload_n 0, 1) := by decide +kernel
theorem dX12_line_18 : decode cX12_line 18 = .ok (.invokevirtual 413, 3) := by decide +kernel
theorem dX12_line_21 : decode cX12_line 21 = .ok (.ifCond .ne 5, 3) := by decide +kernel
theorem dX12_line_24 : decode cX12_line 24 = .ok (.iconst 0, 1) := by decide +kernel
theorem dX12_line_25 : decode cX12_line 25 = .ok (.ireturn, 1) := by decide +kernel
theorem dX12_line_26 : decode cX12_line 26 = .ok (.aload_n 0, 1) := by decide +kernel
theorem dX12_line_27 : decode cX12_line 27 = .ok (.invokevirtual 419, 3) := by decide +kernel
theorem dX12_line_30 : decode cX12_line 30 = .ok (.istore_n 2, 1) := by decide +kernel
theorem dX12_line_31 : decode cX12_line 31 = .ok (.iconst (-1), 1) := by decide +kernel
theorem dX12_line_32 : decode cX12_line 32 = .ok (.istore_n 3, 1) := by decide +kernel
theorem dX12_line_33 : decode cX12_line 33 = .ok (.iload_n 2, 1) := by decide +kernel
theorem dX12_line_34 : decode cX12_line 34 = .ok (.ifCond .ge 186, 3) := by decide +kernel
theorem dX12_line_37 : decode cX12_line 37 = .ok (.aload_n 0, 1) := by decide +kernel
theorem dX12_line_38 : decode cX12_line 38 = .ok (.invokevirtual 416, 3) := by decide +kernel
theorem dX12_line_41 : decode cX12_line 41 = .ok (.ifCond .lt 13, 3) := by decide +kernel
theorem dX12_line_44 : decode cX12_line 44 = .ok (.aload_n 0, 1) := by decide +kernel
theorem dX12_line_45 : decode cX12_line 45 = .ok (.iconst 1, 1) := by decide +kernel
theorem dX12_line_46 : decode cX12_line 46 = .ok (.aload_n 0, 1) := by decide +kernel
theorem dX12_line_47 : decode cX12_line 47 = .ok (.getfield 354, 3) := by decide +kernel
theorem dX12_line_50 : decode cX12_line 50 = .ok (.invokevirtual 350, 3) := by decide +kernel
theorem dX12_line_53 : decode cX12_line 53 = .ok (.ireturn, 1) := by decide +kernel
theorem dX12_line_54 : decode cX12_line 54 = .ok (.aload_n 0, 1) := by decide +kernel
theorem dX12_line_55 : decode cX12_line 55 = .ok (.getfield 360, 3) := by decide +kernel
theorem dX12_line_58 : decode cX12_line 58 = .ok (.lstore 4, 2) := by decide +kernel
theorem dX12_line_60 : decode cX12_line 60 = .ok (.aload_n 0, 1) := by decide +kernel
theorem dX12_line_61 : decode cX12_line 61 = .ok (.getfield 354, 3) := by decide +kernel
theorem dX12_line_64 : decode cX12_line 64 = .ok (.istore 6, 2) := by decide +kernel
theorem dX12_line_66 : decode cX12_line 66 = .ok (.aload_n 0, 1) := by decide +kernel
theorem dX12_line_67 : decode cX12_line 67 = .ok (.getfield 426, 3) := by decide +kernel
theorem dX12_line_70 : decode cX12_line 70 = .ok (.ifCond .ne 29, 3) := by decide +kernel
theorem dX12_line_73 : decode cX12_line 73 = .ok (.aload_n 0, 1) := by decide +kernel
theorem dX12_line_74 : decode cX12_line 74 = .ok (.lload 4, 2) := by decide +kernel
theorem dX12_line_76 : decode cX12_line 76 = .ok (.invokevirtual 422, 3) := by decide +kernel
theorem dX12_line_79 : decode cX12_line 79 = .ok (.ifCond .ge 12, 3) := by decide +kernel
theorem dX12_line_82 : decode cX12_line 82 = .ok (.aload_n 0, 1) := by decide +kernel
theorem dX12_line_83 : decode cX12_line 83 = .ok (.getfield 386, 3) := by decide +kernel
theorem dX12_line_86 : decode cX12_line 86 = .ok (.bipush 60, 2) := by decide +kernel
theorem dX12_line_88 : decode cX12_line 88 = .ok (.if_icmp .ne 11, 3) := by decide +kernel
theorem dX12_line_91 : decode cX12_line 91 = .ok (.aload_n 0, 1) := by decide +kernel
theorem dX12_line_92 : decode cX12_line 92 = .ok (.iconst 3, 1) := by decide +kernel
theorem dX12_line_93 : decode cX12_line 93 = .ok (.iload 6, 2) := by decide +kernel
theorem dX12_line_95 : decode cX12_line 95 = .ok (.invokevirtual 350, 3) := by decide +kernel
theorem dX12_line_98 : decode cX12_line 98 = .ok (.ireturn, 1) := by decide +kernel
theorem dX12_line_99 : decode cX12_line 99 = .ok (.aload_n 0, 1) := by decide +kernel
theorem dX12_line_100 : decode cX12_line 100 = .ok (.bipush 58, 2) := by decide +kernel
theorem dX12_line_102 : decode cX12_line 102 = .ok (.invokevirtual 469, 3) := by decide +kernel
theorem dX12_line_105 : decode cX12_line 105 = .ok (.ifCond .ne 5, 3) := by decide +kernel
theorem dX12_line_108 : decode cX12_line 108 = .ok (.iconst 0, 1) := by decide +kernel
theorem dX12_line_109 : decode cX12_line 109 = .ok (.ireturn, 1) := by decide +kernel
theorem dX12_line_110 : decode cX12_line 110 = .ok (.aload_n 0, 1) := by decide +kernel
theorem dX12_line_111 : decode cX12_line 111 = .ok (.getfield 426, 3) := by decide +kernel
theorem dX12_line_114 : decode cX12_line 114 = .ok (.ifCond .ne 34, 3) := by decide +kernel
theorem dX12_line_117 : decode cX12_line 117 = .ok (.aload_n 0, 1) := by decide +kernel
theorem dX12_line_118 : decode cX12_line 118 = .ok (.getfield 110, 3) := by decide +kernel
theorem dX12_line_121 : decode cX12_line 121 = .ok (.aload_n 0, 1) := by decide +kernel
theorem dX12_line_122 : decode cX12_line 122 = .ok (.getfield 386, 3) := by decide +kernel
theorem dX12_line_125 : decode cX12_line 125 = .ok (.lload 4, 2) := by decide +kernel
theorem dX12_line_127 : decode cX12_line 127 = .ok (.lastore, 1) := by decide +kernel
theorem dX12_line_128 : decode cX12_line 128 = .ok (.aload_n 0, 1) := by decide +kernel
theorem dX12_line_129 : decode cX12_line 129 = .ok (.getfield 116, 3) := by decide +kernel
theorem dX12_line_132 : decode cX12_line 132 = .ok (.aload_n 0, 1) := by decide +kernel
theorem dX12_line_133 : decode cX12_line 133 = .ok (.getfield 386, 3) := by decide +kernel
theorem dX12_line_136 : decode cX12_line 136 = .ok (.iload_n 1, 1) := by decide +kernel
theorem dX12_line_137 : decode cX12_line 137 = .ok (.iastore, 1) := by decide +kernel
theorem dX12_line_138 : decode cX12_line 138 = .ok (.aload_n 0, 1) := by decide +kernel
theorem dX12_line_139 : decode cX12_line 139 = .ok (.dup, 1) := by decide +kernel
theorem dX12_line_140 : decode cX12_line 140 = .ok (.getfield 386, 3) := by decide +kernel
theorem dX12_line_143 : decode cX12_line 143 = .ok (.iconst 1, 1) := by decide +kernel
theorem dX12_line_144 : decode cX12_line 144 = .ok (.iadd, 1) := by decide +kernel
theorem dX12_line_145 : decode cX12_line 145 = .ok (.putfield 386, 3) := by decide +kernel
theorem dX12_line_148 : decode cX12_line 148 = .ok (.aload_n 0, 1) := by decide +kernel
theorem dX12_line_149 : decode cX12_line 149 = .ok (.lload 4, 2) := by decide +kernel
theorem dX12_line_151 : decode cX12_line 151 = .ok (.invokevirtual 422, 3) := by decide +kernel
theorem dX12_line_154 : decode cX12_line 154 = .ok (.istore_n 3, 1) := by decide +kernel
theorem dX12_line_155 : decode cX12_line 155 = .ok (.aload_n 0, 1) := by decide +kernel
theorem dX12_line_156 : decode cX12_line 156 = .ok (.getfield 426, 3) := by decide +kernel
theorem dX12_line_159 : decode cX12_line 159 = .ok (.ifCond .ne 16, 3) := by decide +kernel
theorem dX12_line_162 : decode cX12_line 162 = .ok (.aload_n 0, 1) := by decide +kernel
theorem dX12_line_163 : decode cX12_line 163 = .ok (.getfield 113, 3) := by decide +kernel
theorem dX12_line_166 : decode cX12_line 166 = .ok (.iload_n 3, 1) := by decide +kernel
theorem dX12_line_167 : decode cX12_line 167 = .ok (.aload_n 0, 1) := by decide +kernel
theorem dX12_line_168 : decode cX12_line 168 = .ok (.getfield 432, 3) := by decide +kernel
theorem dX12_line_171 : decode cX12_line 171 = .ok (.ldc 205, 2) := by decide +kernel
theorem dX12_line_173 : decode cX12_line 173 = .ok (.iand, 1) := by decide +kernel
theorem dX12_line_174 : decode cX12_line 174 = .ok (.iastore, 1) := by decide +kernel
theorem dX12_line_175 : decode cX12_line 175 = .ok (.aload_n 0, 1) := by decide +kernel
theorem dX12_line_176 : decode cX12_line 176 = .ok (.invokevirtual 347, 3) := by decide +kernel
theorem dX12_line_179 : decode cX12_line 179 = .ok (.aload_n 0, 1) := by decide +kernel
theorem dX12_line_180 : decode cX12_line 180 = .ok (.getfield 338, 3) := by decide +kernel
theorem dX12_line_183 : decode cX12_line 183 = .ok (.aload_n 0, 1) := by decide +kernel
theorem dX12_line_184 : decode cX12_line 184 = .ok (.getfield 341, 3) := by decide +kernel
theorem dX12_line_187 : decode cX12_line 187 = .ok (.if_icmp .ne 5, 3) := by decide +kernel
theorem dX12_line_190 : decode cX12_line 190 = .ok (.iconst 1, 1) := by decide +kernel
theorem dX12_line_191 : decode cX12_line 191 = .ok (.ireturn, 1) := by decide +kernel
theorem dX12_line_192 : decode cX12_line 192 = .ok (.aload_n 0, 1) := by decide +kernel
theorem dX12_line_193 : decode cX12_line 193 = .ok (.invokevirtual 413, 3) := by decide +kernel
theorem dX12_line_196 : decode cX12_line 196 = .ok (.ifCond .ne 5, 3) := by decide +kernel
theorem dX12_line_199 : decode cX12_line 199 = .ok (.iconst 0, 1) := by decide +kernel
theorem dX12_line_200 : decode cX12_line 200 = .ok (.ireturn, 1) := by decide +kernel
theorem dX12_line_201 : decode cX12_line 201 = .ok (.aload_n 0, 1) := by decide +kernel
theorem dX12_line_202 : decode cX12_line 202 = .ok (.invokevirtual 419, 3) := by decide +kernel
theorem dX12_line_205 : decode cX12_line 205 = .ok (.istore_n 2, 1) := by decide +kernel
theorem dX12_line_206 : decode cX12_line 206 = .ok (.iload_n 2, 1) := by decide +kernel
theorem dX12_line_207 : decode cX12_line 207 = .ok (.ifCond .ge 13, 3) := by decide +kernel
theorem dX12_line_210 : decode cX12_line 210 = .ok (.aload_n 0, 1) := by decide +kernel
theorem dX12_line_211 : decode cX12_line 211 = .ok (.iconst 1, 1) := by decide +kernel
theorem dX12_line_212 : decode cX12_line 212 = .ok (.aload_n 0, 1) := by decide +kernel
theorem dX12_line_213 : decode cX12_line 213 = .ok (.getfield 354, 3) := by decide +kernel
theorem dX12_line_216 : decode cX12_line 216 = .ok (.invokevirtual 350, 3) := by decide +kernel
theorem dX12_line_219 : decode cX12_line 219 = .ok (.ireturn, 1) := by decide +kernel
theorem dX12_line_220 : decode cX12_line 220 = .ok (.iload_n 2, 1) := by decide +kernel
theorem dX12_line_221 : decode cX12_line 221 = .ok (.bipush 40, 2) := by decide +kernel
theorem dX12_line_223 : decode cX12_line 223 = .ok (.if_icmp .eq 13, 3) := by decide +kernel
theorem dX12_line_226 : decode cX12_line 226 = .ok (.iload_n 2, 1) := by decide +kernel
theorem dX12_line_227 : decode cX12_line 227 = .ok (.bipush 42, 2) := by decide +kernel
theorem dX12_line_229 : decode cX12_line 229 = .ok (.if_icmp .eq 7, 3) := by decide +kernel
theorem dX12_line_232 : decode cX12_line 232 = .ok (.aload_n 0, 1) := by decide +kernel
theorem dX12_line_233 : decode cX12_line 233 = .ok (.invokevirtual 491, 3) := by decide +kernel
theorem dX12_line_236 : decode cX12_line 236 = .ok (.iload_n 3, 1) := by decide +kernel
theorem dX12_line_237 : decode cX12_line 237 = .ok (.ifCond .lt 23, 3) := by decide +kernel
theorem dX12_line_240 : decode cX12_line 240 = .ok (.aload_n 0, 1) := by decide +kernel
theorem dX12_line_241 : decode cX12_line 241 = .ok (.getfield 426, 3) := by decide +kernel
theorem dX12_line_244 : decode cX12_line 244 = .ok (.ifCond .ne 16, 3) := by decide +kernel
theorem dX12_line_247 : decode cX12_line 247 = .ok (.aload_n 0, 1) := by decide +kernel
theorem dX12_line_248 : decode cX12_line 248 = .ok (.getfield 113, 3) := by decide +kernel
theorem dX12_line_251 : decode cX12_line 251 = .ok (.iload_n 3, 1) := by decide +kernel
theorem dX12_line_252 : decode cX12_line 252 = .ok (.aload_n 0, 1) := by decide +kernel
theorem dX12_line_253 : decode cX12_line 253 = .ok (.getfield 432, 3) := by decide +kernel
theorem dX12_line_256 : decode cX12_line 256 = .ok (.ldc 205, 2) := by decide +kernel
theorem dX12_line_258 : decode cX12_line 258 = .ok (.iand, 1) := by decide +kernel
theorem dX12_line_259 : decode cX12_line 259 = .ok (.iastore, 1) := by decide +kernel
theorem dX12_line_260 : decode cX12_line 260 = .ok (.aload_n 0, 1) := by decide +kernel
theorem dX12_line_261 : decode cX12_line 261 = .ok (.iload_n 2, 1) := by decide +kernel
theorem dX12_line_262 : decode cX12_line 262 = .ok (.invokevirtual 494, 3) := by decide +kernel
theorem dX12_line_265 : decode cX12_line 265 = .ok (.ifCond .ne 5, 3) := by decide +kernel
theorem dX12_line_268 : decode cX12_line 268 = .ok (.iconst 0, 1) := by decide +kernel
theorem dX12_line_269 : decode cX12_line 269 = .ok (.ireturn, 1) := by decide +kernel
theorem dX12_line_270 : decode cX12_line 270 = .ok (.iload_n 3, 1) := by decide +kernel
theorem dX12_line_271 : decode cX12_line 271 = .ok (.ifCond .lt 26, 3) := by decide +kernel
theorem dX12_line_274 : decode cX12_line 274 = .ok (.aload_n 0, 1) := by decide +kernel
theorem dX12_line_275 : decode cX12_line 275 = .ok (.getfield 426, 3) := by decide +kernel
theorem dX12_line_278 : decode cX12_line 278 = .ok (.ifCond .ne 19, 3) := by decide +kernel
theorem dX12_line_281 : decode cX12_line 281 = .ok (.iload_n 2, 1) := by decide +kernel
theorem dX12_line_282 : decode cX12_line 282 = .ok (.bipush 40, 2) := by decide +kernel
theorem dX12_line_284 : decode cX12_line 284 = .ok (.if_icmp .ne 13, 3) := by decide +kernel
theorem dX12_line_287 : decode cX12_line 287 = .ok (.aload_n 0, 1) := by decide +kernel
theorem dX12_line_288 : decode cX12_line 288 = .ok (.getfield 113, 3) := by decide +kernel
theorem dX12_line_291 : decode cX12_line 291 = .ok (.iload_n 3, 1) := by decide +kernel
theorem dX12_line_292 : decode cX12_line 292 = .ok (.aload_n 0, 1) := by decide +kernel
theorem dX12_line_293 : decode cX12_line 293 = .ok (.getfield 432, 3) := by decide +kernel
theorem dX12_line_296 : decode cX12_line 296 = .ok (.iastore, 1) := by decide +kernel
theorem dX12_line_297 : decode cX12_line 297 = .ok (.aload_n 0, 1) := by decide +kernel
theorem dX12_line_298 : decode cX12_line 298 = .ok (.invokevirtual 347, 3) := by decide +kernel
theorem dX12_line_301 : decode cX12_line 301 = .ok (.aload_n 0, 1) := by decide +kernel
theorem dX12_line_302 : decode cX12_line 302 = .ok (.getfield 338, 3) := by decide +kernel
theorem dX12_line_305 : decode cX12_line 305 = .ok (.aload_n 0, 1) := by decide +kernel
theorem dX12_line_306 : decode cX12_line 306 = .ok (.getfield 341, 3) := by decide +kernel
theorem dX12_line_309 : decode cX12_line 309 = .ok (.if_icmp .ge 13, 3) := by decide +kernel
theorem dX12_line_312 : decode cX12_line 312 = .ok (.aload_n 0, 1) := by decide +kernel
theorem dX12_line_313 : decode cX12_line 313 = .ok (.iconst 1, 1) := by decide +kernel
theorem dX12_line_314 : decode cX12_line 314 = .ok (.aload_n 0, 1) := by decide +kernel
theorem dX12_line_315 : decode cX12_line 315 = .ok (.getfield 338, 3) := by decide +kernel
theorem dX12_line_318 : decode cX12_line 318 = .ok (.invokevirtual 350, 3) := by decide +kernel
theorem dX12_line_321 : decode cX12_line 321 = .ok (.ireturn, 1) := by decide +kernel
theorem dX12_line_322 : decode cX12_line 322 = .ok (.aload_n 0, 1) := by decide +kernel
theorem dX12_line_323 : decode cX12_line 323 = .ok (.getfield 432, 3) := by decide +kernel
theorem dX12_line_326 : decode cX12_line 326 = .ok (.ldc 7, 2) := by decide +kernel
theorem dX12_line_328 : decode cX12_line 328 = .ok (.if_icmp .le 15, 3) := by decide +kernel
theorem dX12_line_331 : decode cX12_line 331 = .ok (.aload_n 0, 1) := by decide +kernel
theorem dX12_line_332 : decode cX12_line 332 = .ok (.iconst 2, 1) := by decide +kernel
theorem dX12_line_333 : decode cX12_line 333 = .ok (.aload_n 0, 1) := by decide +kernel
theorem dX12_line_334 : decode cX12_line 334 = .ok (.getfield 341, 3) := by decide +kernel
theorem dX12_line_337 : decode cX12_line 337 = .ok (.invokevirtual 350, 3) := by decide +kernel
theorem dX12_line_340 : decode cX12_line 340 = .ok (.ifCond .eq 7, 3) := by decide +kernel
theorem dX12_line_343 : decode cX12_line 343 = .ok (.iconst 1, 1) := by decide +kernel
theorem dX12_line_344 : decode cX12_line 344 = .ok (.goto 4, 3) := by decide +kernel
theorem dX12_line_347 : decode cX12_line 347 = .ok (.iconst 0, 1) := by decide +kernel
theorem dX12_line_348 : decode cX12_line 348 = .ok (.ireturn, 1) := by decide +kernel
theorem dX12_reading_0 : decode cX12_reading 0 = .ok (.aload_n 0, 1) := by decide +kernel
theorem dX12_reading_1 : decode cX12_reading 1 = .ok (.iload_n 1, 1) := by decide +kernel
theorem dX12_reading_2 : decode cX12_reading 2 = .ok (.putfield 426, 3) := by decide +kernel
theorem dX12_reading_5 : decode cX12_reading 5 = .ok (.aload_n 0, 1) := by decide +kernel
theorem dX12_reading_6 : decode cX12_reading 6 = .ok (.ldc_w 497, 3) := by decide +kernel
theorem dX12_reading_9 : decode cX12_reading 9 = .ok (.putfield 432, 3) := by decide +kernel
theorem dX12_reading_12 : decode cX12_reading 12 = .ok (.aload_n 0, 1) := by decide +kernel
theorem dX12_reading_13 : decode cX12_reading 13 = .ok (.iconst 0, 1) := by decide +kernel
theorem dX12_reading_14 : decode cX12_reading 14 = .ok (.putfield 435, 3) := by decide +kernel
theorem dX12_reading_17 : decode cX12_reading 17 = .ok (.aload_n 0, 1) := by decide +kernel
theorem dX12_reading_18 : decode cX12_reading 18 = .ok (.iconst 0, 1) := by decide +kernel
theorem dX12_reading_19 : decode cX12_reading 19 = .ok (.putfield 338, 3) := by decide +kernel
theorem dX12_reading_22 : decode cX12_reading 22 = .ok (.iconst 0, 1) := by decide +kernel
theorem dX12_reading_23 : decode cX12_reading 23 = .ok (.istore_n 2, 1) := by decide +kernel
theorem dX12_reading_24 : decode cX12_reading 24 = .ok (.iconst 0, 1) := by decide +kernel
theorem dX12_reading_25 : decode cX12_reading 25 = .ok (.istore_n 3, 1) := by decide +kernel
theorem dX12_reading_26 : decode cX12_reading 26 = .ok (.iload_n 3, 1) := by decide +kernel
theorem dX12_reading_27 : decode cX12_reading 27 = .ok (.aload_n 0, 1) := by decide +kernel
theorem dX12_reading_28 : decode cX12_reading 28 = .ok (.getfield 498, 3) := by decide +kernel
theorem dX12_reading_31 : decode cX12_reading 31 = .ok (.if_icmp .gt 74, 3) := by decide +kernel
theorem dX12_reading_34 : decode cX12_reading 34 = .ok (.aload_n 0, 1) := by decide +kernel
theorem dX12_reading_35 : decode cX12_reading 35 = .ok (.iload_n 3, 1) := by decide +kernel
theorem dX12_reading_36 : decode cX12_reading 36 = .ok (.putfield 341, 3) := by decide +kernel
theorem dX12_reading_39 : decode cX12_reading 39 = .ok (.aload_n 0, 1) := by decide +kernel
theorem dX12_reading_40 : decode cX12_reading 40 = .ok (.getfield 341, 3) := by decide +kernel
theorem dX12_reading_43 : decode cX12_reading 43 = .ok (.aload_n 0, 1) := by decide +kernel
theorem dX12_reading_44 : decode cX12_reading 44 = .ok (.getfield 498, 3) := by decide +kernel
theorem dX12_reading_47 : decode cX12_reading 47 = .ok (.if_icmp .ge 30, 3) := by decide +kernel
theorem dX12_reading_50 : decode cX12_reading 50 = .ok (.aload_n 0, 1) := by decide +kernel
theorem dX12_reading_51 : decode cX12_reading 51 = .ok (.getfield 30, 3) := by decide +kernel
theorem dX12_reading_54 : decode cX12_reading 54 = .ok (.aload_n 0, 1) := by decide +kernel
theorem dX12_reading_55 : decode cX12_reading 55 = .ok (.getfield 341, 3) := by decide +kernel
theorem dX12_reading_58 : decode cX12_reading 58 = .ok (.baload, 1) := by decide +kernel
theorem dX12_reading_59 : decode cX12_reading 59 = .ok (.bipush 10, 2) := by decide +kernel
theorem dX12_reading_61 : decode cX12_reading 61 = .ok (.if_icmp .eq 16, 3) := by decide +kernel
theorem dX12_reading_64 : decode cX12_reading 64 = .ok (.aload_n 0, 1) := by decide +kernel
theorem dX12_reading_65 : decode cX12_reading 65 = .ok (.dup, 1) := by decide +kernel
theorem dX12_reading_66 : decode cX12_reading 66 = .ok (.getfield 341, 3) := by decide +kernel
theorem dX12_reading_69 : decode cX12_reading 69 = .ok (.iconst 1, 1) := by decide +kernel
theorem dX12_reading_70 : decode cX12_reading 70 = .ok (.iadd, 1) := by decide +kernel
theorem dX12_reading_71 : decode cX12_reading 71 = .ok (.putfield 341, 3) := by decide +kernel
theorem dX12_reading_74 : decode cX12_reading 74 = .ok (.goto (-35), 3) := by decide +kernel
theorem dX12_reading_77 : decode cX12_reading 77 = .ok (.aload_n 0, 1) := by decide +kernel
theorem dX12_reading_78 : decode cX12_reading 78 = .ok (.iload_n 3, 1) := by decide +kernel
theorem dX12_reading_79 : decode cX12_reading 79 = .ok (.putfield 338, 3) := by decide +kernel
theorem dX12_reading_82 : decode cX12_reading 82 = .ok (.aload_n 0, 1) := by decide +kernel
theorem dX12_reading_83 : decode cX12_reading 83 = .ok (.iload_n 2, 1) := by decide +kernel
theorem dX12_reading_84 : decode cX12_reading 84 = .ok (.invokevirtual 501, 3) := by decide +kernel
theorem dX12_reading_87 : decode cX12_reading 87 = .ok (.ifCond .ne 5, 3) := by decide +kernel
theorem dX12_reading_90 : decode cX12_reading 90 = .ok (.iconst 0, 1) := by decide +kernel
theorem dX12_reading_91 : decode cX12_reading 91 = .ok (.ireturn, 1) := by decide +kernel
theorem dX12_reading_92 : decode cX12_reading 92 = .ok (.aload_n 0, 1) := by decide +kernel
theorem dX12_reading_93 : decode cX12_reading 93 = .ok (.getfield 341, 3) := by decide +kernel
theorem dX12_reading_96 : decode cX12_reading 96 = .ok (.iconst 1, 1) := by decide +kernel
theorem dX12_reading_97 : decode cX12_reading 97 = .ok (.iadd, 1) := by decide +kernel
theorem dX12_reading_98 : decode cX12_reading 98 = .ok (.istore_n 3, 1) := by decide +kernel
theorem dX12_reading_99 : decode cX12_reading 99 = .ok (.iinc 2 1, 3) := by decide +kernel
theorem dX12_reading_102 : decode cX12_reading 102 = .ok (.goto (-76), 3) := by decide +kernel
theorem dX12_reading_105 : decode cX12_reading 105 = .ok (.iconst 1, 1) := by decide +kernel
theorem dX12_reading_106 : decode cX12_reading 106 = .ok (.ireturn, 1) := by decide +kernel
theorem dX12_assemble_0 : decode cX12_assemble 0 = .ok (.aload_n 0, 1) := by decide +kernel
theorem dX12_assemble_1 : decode cX12_assemble 1 = .ok (.iconst 0, 1) := by decide +kernel
theorem dX12_assemble_2 : decode cX12_assemble 2 = .ok (.putfield 134, 3) := by decide +kernel
theorem dX12_assemble_5 : decode cX12_assemble 5 = .ok (.aload_n 0, 1) := by decide +kernel
theorem dX12_assemble_6 : decode cX12_assemble 6 = .ok (.aload_n 0, 1) := by decide +kernel
theorem dX12_assemble_7 : decode cX12_assemble 7 = .ok (.getfield 326, 3) := by decide +kernel
theorem dX12_assemble_10 : decode cX12_assemble 10 = .ok (.putfield 498, 3) := by decide +kernel
theorem dX12_assemble_13 : decode cX12_assemble 13 = .ok (.aload_n 0, 1) := by decide +kernel
theorem dX12_assemble_14 : decode cX12_assemble 14 = .ok (.iconst 0, 1) := by decide +kernel
theorem dX12_assemble_15 : decode cX12_assemble 15 = .ok (.putfield 326, 3) := by decide +kernel
theorem dX12_assemble_18 : decode cX12_assemble 18 = .ok (.aload_n 0, 1) := by decide +kernel
theorem dX12_assemble_19 : decode cX12_assemble 19 = .ok (.iconst 0, 1) := by decide +kernel
theorem dX12_assemble_20 : decode cX12_assemble 20 = .ok (.putfield 332, 3) := by decide +kernel
theorem dX12_assemble_23 : decode cX12_assemble 23 = .ok (.aload_n 0, 1) := by decide +kernel
theorem dX12_assemble_24 : decode cX12_assemble 24 = .ok (.iconst 0, 1) := by decide +kernel
theorem dX12_assemble_25 : decode cX12_assemble 25 = .ok (.putfield 392, 3) := by decide +kernel
theorem dX12_assemble_28 : decode cX12_assemble 28 = .ok (.aload_n 0, 1) := by decide +kernel
theorem dX12_assemble_29 : decode cX12_assemble 29 = .ok (.iconst 0, 1) := by decide +kernel
theorem dX12_assemble_30 : decode cX12_assemble 30 = .ok (.putfield 386, 3) := by decide +kernel
theorem dX12_assemble_33 : decode cX12_assemble 33 = .ok (.aload_n 0, 1) := by decide +kernel
theorem dX12_assemble_34 : decode cX12_assemble 34 = .ok (.getfield 498, 3) := by decide +kernel
theorem dX12_assemble_37 : decode cX12_assemble 37 = .ok (.sipush 2500, 3) := by decide +kernel
theorem dX12_assemble_40 : decode cX12_assemble 40 = .ok (.if_icmp .le 13, 3) := by decide +kernel
theorem dX12_assemble_43 : decode cX12_assemble 43 = .ok (.aload_n 0, 1) := by decide +kernel
theorem dX12_assemble_44 : decode cX12_assemble 44 = .ok (.bipush 6, 2) := by decide +kernel
theorem dX12_assemble_46 : decode cX12_assemble 46 = .ok (.putfield 332, 3) := by decide +kernel
theorem dX12_assemble_49 : decode cX12_assemble 49 = .ok (.sipush (-2501), 3) := by decide +kernel
theorem dX12_assemble_52 : decode cX12_assemble 52 = .ok (.ireturn, 1) := by decide +kernel
theorem dX12_assemble_53 : decode cX12_assemble 53 = .ok (.aload_n 0, 1) := by decide +kernel
theorem dX12_assemble_54 : decode cX12_assemble 54 = .ok (.iconst 0, 1) := by decide +kernel
theorem dX12_assemble_55 : decode cX12_assemble 55 = .ok (.invokevirtual 504, 3) := by decide +kernel
theorem dX12_assemble_58 : decode cX12_assemble 58 = .ok (.ifCond .ne 10, 3) := by decide +kernel
theorem dX12_assemble_61 : decode cX12_assemble 61 = .ok (.iconst (-1), 1) := by decide +kernel
theorem dX12_assemble_62 : decode cX12_assemble 62 = .ok (.aload_n 0, 1) := by decide +kernel
theorem dX12_assemble_63 : decode cX12_assemble 63 = .ok (.getfield 335, 3) := by decide +kernel
theorem dX12_assemble_66 : decode cX12_assemble 66 = .ok (.isub, 1) := by decide +kernel
theorem dX12_assemble_67 : decode cX12_assemble 67 = .ok (.ireturn, 1) := by decide +kernel
theorem dX12_assemble_68 : decode cX12_assemble 68 = .ok (.aload_n 0, 1) := by decide +kernel
theorem dX12_assemble_69 : decode cX12_assemble 69 = .ok (.iconst 1, 1) := by decide +kernel
theorem dX12_assemble_70 : decode cX12_assemble 70 = .ok (.invokevirtual 504, 3) := by decide +kernel
theorem dX12_assemble_73 : decode cX12_assemble 73 = .ok (.pop, 1) := by decide +kernel
theorem dX12_assemble_74 : decode cX12_assemble 74 = .ok (.aload_n 0, 1) := by decide +kernel
theorem dX12_assemble_75 : decode cX12_assemble 75 = .ok (.getfield 392, 3) := by decide +kernel
theorem dX12_assemble_78 : decode cX12_assemble 78 = .ok (.ifCond .le 18, 3) := by decide +kernel
theorem dX12_assemble_81 : decode cX12_assemble 81 = .ok (.aload_n 0, 1) := by decide +kernel
theorem dX12_assemble_82 : decode cX12_assemble 82 = .ok (.aload_n 0, 1) := by decide +kernel
theorem dX12_assemble_83 : decode cX12_assemble 83 = .ok (.getfield 392, 3) := by decide +kernel
theorem dX12_assemble_86 : decode cX12_assemble 86 = .ok (.putfield 332, 3) := by decide +kernel
theorem dX12_assemble_89 : decode cX12_assemble 89 = .ok (.iconst (-1), 1) := by decide +kernel
theorem dX12_assemble_90 : decode cX12_assemble 90 = .ok (.aload_n 0, 1) := by decide +kernel
theorem dX12_assemble_91 : decode cX12_assemble 91 = .ok (.getfield 395, 3) := by decide +kernel
theorem dX12_assemble_94 : decode cX12_assemble 94 = .ok (.isub, 1) := by decide +kernel
theorem dX12_assemble_95 : decode cX12_assemble 95 = .ok (.ireturn, 1) := by decide +kernel
theorem dX12_assemble_96 : decode cX12_assemble 96 = .ok (.aload_n 0, 1) := by decide +kernel
theorem dX12_assemble_97 : decode cX12_assemble 97 = .ok (.aload_n 0, 1) := by decide +kernel
theorem dX12_assemble_98 : decode cX12_assemble 98 = .ok (.getfield 386, 3) := by decide +kernel
theorem dX12_assemble_101 : decode cX12_assemble 101 = .ok (.putfield 389, 3) := by decide +kernel
theorem dX12_assemble_104 : decode cX12_assemble 104 = .ok (.iconst 0, 1) := by decide +kernel
theorem dX12_assemble_105 : decode cX12_assemble 105 = .ok (.istore_n 1, 1) := by decide +kernel
theorem dX12_assemble_106 : decode cX12_assemble 106 = .ok (.iload_n 1, 1) := by decide +kernel
theorem dX12_assemble_107 : decode cX12_assemble 107 = .ok (.aload_n 0, 1) := by decide +kernel
theorem dX12_assemble_108 : decode cX12_assemble 108 = .ok (.getfield 386, 3) := by decide +kernel
theorem dX12_assemble_111 : decode cX12_assemble 111 = .ok (.if_icmp .ge 33, 3) := by decide +kernel
theorem dX12_assemble_114 : decode cX12_assemble 114 = .ok (.aload_n 0, 1) := by decide +kernel
theorem dX12_assemble_115 : decode cX12_assemble 115 = .ok (.getfield 119, 3) := by decide +kernel
theorem dX12_assemble_118 : decode cX12_assemble 118 = .ok (.iload_n 1, 1) := by decide +kernel
theorem dX12_assemble_119 : decode cX12_assemble 119 = .ok (.aload_n 0, 1) := by decide +kernel
theorem dX12_assemble_120 : decode cX12_assemble 120 = .ok (.getfield 113, 3) := by decide +kernel
theorem dX12_assemble_123 : decode cX12_assemble 123 = .ok (.iload_n 1, 1) := by decide +kernel
theorem dX12_assemble_124 : decode cX12_assemble 124 = .ok (.iaload, 1) := by decide +kernel
theorem dX12_assemble_125 : decode cX12_assemble 125 = .ok (.iastore, 1) := by decide +kernel
theorem dX12_assemble_126 : decode cX12_assemble 126 = .ok (.aload_n 0, 1) := by decide +kernel
theorem dX12_assemble_127 : decode cX12_assemble 127 = .ok (.getfield 122, 3) := by decide +kernel
theorem dX12_assemble_130 : decode cX12_assemble 130 = .ok (.iload_n 1, 1) := by decide +kernel
theorem dX12_assemble_131 : decode cX12_assemble 131 = .ok (.aload_n 0, 1) := by decide +kernel
theorem dX12_assemble_132 : decode cX12_assemble 132 = .ok (.getfield 116, 3) := by decide +kernel
theorem dX12_assemble_135 : decode cX12_assemble 135 = .ok (.iload_n 1, 1) := by decide +kernel
theorem dX12_assemble_136 : decode cX12_assemble 136 = .ok (.iaload, 1) := by decide +kernel
theorem dX12_assemble_137 : decode cX12_assemble 137 = .ok (.iastore, 1) := by decide +kernel
theorem dX12_assemble_138 : decode cX12_assemble 138 = .ok (.iinc 1 1, 3) := by decide +kernel
theorem dX12_assemble_141 : decode cX12_assemble 141 = .ok (.goto (-35), 3) := by decide +kernel
theorem dX12_assemble_144 : decode cX12_assemble 144 = .ok (.iconst 0, 1) := by decide +kernel
theorem dX12_assemble_145 : decode cX12_assemble 145 = .ok (.istore_n 1, 1) := by decide +kernel
theorem dX12_assemble_146 : decode cX12_assemble 146 = .ok (.iload_n 1, 1) := by decide +kernel
theorem dX12_assemble_147 : decode cX12_assemble 147 = .ok (.aload_n 0, 1) := by decide +kernel
theorem dX12_assemble_148 : decode cX12_assemble 148 = .ok (.getfield 435, 3) := by decide +kernel
theorem dX12_assemble_151 : decode cX12_assemble 151 = .ok (.if_icmp .ge 29, 3) := by decide +kernel
theorem dX12_assemble_154 : decode cX12_assemble 154 = .ok (.aload_n 0, 1) := by decide +kernel
theorem dX12_assemble_155 : decode cX12_assemble 155 = .ok (.aload_n 0, 1) := by decide +kernel
theorem dX12_assemble_156 : decode cX12_assemble 156 = .ok (.getfield 125, 3) := by decide +kernel
theorem dX12_assemble_159 : decode cX12_assemble 159 = .ok (.iload_n 1, 1) := by decide +kernel
theorem dX12_assemble_160 : decode cX12_assemble 160 = .ok (.iaload, 1) := by decide +kernel
theorem dX12_assemble_161 : decode cX12_assemble 161 = .ok (.aload_n 0, 1) := by decide +kernel
theorem dX12_assemble_162 : decode cX12_assemble 162 = .ok (.getfield 128, 3) := by decide +kernel
theorem dX12_assemble_165 : decode cX12_assemble 165 = .ok (.iload_n 1, 1) := by decide +kernel
theorem dX12_assemble_166 : decode cX12_assemble 166 = .ok (.baload, 1) := by decide +kernel
theorem dX12_assemble_167 : decode cX12_assemble 167 = .ok (.sipush 255, 3) := by decide +kernel
theorem dX12_assemble_170 : decode cX12_assemble 170 = .ok (.iand, 1) := by decide +kernel
theorem dX12_assemble_171 : decode cX12_assemble 171 = .ok (.invokevirtual 233, 3) := by decide +kernel
theorem dX12_assemble_174 : decode cX12_assemble 174 = .ok (.iinc 1 1, 3) := by decide +kernel
theorem dX12_assemble_177 : decode cX12_assemble 177 = .ok (.goto (-31), 3) := by decide +kernel
theorem dX12_assemble_180 : decode cX12_assemble 180 = .ok (.aload_n 0, 1) := by decide +kernel
theorem dX12_assemble_181 : decode cX12_assemble 181 = .ok (.getfield 435, 3) := by decide +kernel
theorem dX12_assemble_184 : decode cX12_assemble 184 = .ok (.ireturn, 1) := by decide +kernel
theorem dX12_fault_0 : decode cX12_fault 0 = .ok (.aload_n 0, 1) := by decide +kernel
theorem dX12_fault_1 : decode cX12_fault 1 = .ok (.iconst 0, 1) := by decide +kernel
theorem dX12_fault_2 : decode cX12_fault 2 = .ok (.putfield 134, 3) := by decide +kernel
theorem dX12_fault_5 : decode cX12_fault 5 = .ok (.aload_n 0, 1) := by decide +kernel
theorem dX12_fault_6 : decode cX12_fault 6 = .ok (.getfield 332, 3) := by decide +kernel
theorem dX12_fault_9 : decode cX12_fault 9 = .ok (.ireturn, 1) := by decide +kernel
theorem dX12_say_0 : decode cX12_say 0 = .ok (.aload_n 0, 1) := by decide +kernel
theorem dX12_say_1 : decode cX12_say 1 = .ok (.getfield 131, 3) := by decide +kernel
theorem dX12_say_4 : decode cX12_say 4 = .ok (.aload_n 0, 1) := by decide +kernel
theorem dX12_say_5 : decode cX12_say 5 = .ok (.getfield 507, 3) := by decide +kernel
theorem dX12_say_8 : decode cX12_say 8 = .ok (.iload_n 1, 1) := by decide +kernel
theorem dX12_say_9 : decode cX12_say 9 = .ok (.i2b, 1) := by decide +kernel
theorem dX12_say_10 : decode cX12_say 10 = .ok (.bastore, 1) := by decide +kernel
theorem dX12_say_11 : decode cX12_say 11 = .ok (.aload_n 0, 1) := by decide +kernel
theorem dX12_say_12 : decode cX12_say 12 = .ok (.dup, 1) := by decide +kernel
theorem dX12_say_13 : decode cX12_say 13 = .ok (.getfield 507, 3) := by decide +kernel
theorem dX12_say_16 : decode cX12_say 16 = .ok (.iconst 1, 1) := by decide +kernel
theorem dX12_say_17 : decode cX12_say 17 = .ok (.iadd, 1) := by decide +kernel
theorem dX12_say_18 : decode cX12_say 18 = .ok (.putfield 507, 3) := by decide +kernel
theorem dX12_say_21 : decode cX12_say 21 = .ok (.return_, 1) := by decide +kernel
theorem dX12_sayName_0 : decode cX12_sayName 0 = .ok (.iconst 0, 1) := by decide +kernel
theorem dX12_sayName_1 : decode cX12_sayName 1 = .ok (.istore_n 2, 1) := by decide +kernel
theorem dX12_sayName_2 : decode cX12_sayName 2 = .ok (.iload_n 2, 1) := by decide +kernel
theorem dX12_sayName_3 : decode cX12_sayName 3 = .ok (.bipush 35, 2) := by decide +kernel
theorem dX12_sayName_5 : decode cX12_sayName 5 = .ok (.if_icmp .ge 61, 3) := by decide +kernel
theorem dX12_sayName_8 : decode cX12_sayName 8 = .ok (.aload_n 0, 1) := by decide +kernel
theorem dX12_sayName_9 : decode cX12_sayName 9 = .ok (.getfield 107, 3) := by decide +kernel
theorem dX12_sayName_12 : decode cX12_sayName 12 = .ok (.iload_n 2, 1) := by decide +kernel
theorem dX12_sayName_13 : decode cX12_sayName 13 = .ok (.iaload, 1) := by decide +kernel
theorem dX12_sayName_14 : decode cX12_sayName 14 = .ok (.iload_n 1, 1) := by decide +kernel
theorem dX12_sayName_15 : decode cX12_sayName 15 = .ok (.if_icmp .eq 6, 3) := by decide +kernel
theorem dX12_sayName_18 : decode cX12_sayName 18 = .ok (.goto 42, 3) := by decide +kernel
theorem dX12_sayName_21 : decode cX12_sayName 21 = .ok (.bipush 56, 2) := by decide +kernel
theorem dX12_sayName_23 : decode cX12_sayName 23 = .ok (.istore_n 3, 1) := by decide +kernel
theorem dX12_sayName_24 : decode cX12_sayName 24 = .ok (.iload_n 3, 1) := by decide +kernel
theorem dX12_sayName_25 : decode cX12_sayName 25 = .ok (.ifCond .lt 35, 3) := by decide +kernel
theorem dX12_sayName_28 : decode cX12_sayName 28 = .ok (.aload_n 0, 1) := by decide +kernel
theorem dX12_sayName_29 : decode cX12_sayName 29 = .ok (.getfield 103, 3) := by decide +kernel
theorem dX12_sayName_32 : decode cX12_sayName 32 = .ok (.iload_n 2, 1) := by decide +kernel
theorem dX12_sayName_33 : decode cX12_sayName 33 = .ok (.laload, 1) := by decide +kernel
theorem dX12_sayName_34 : decode cX12_sayName 34 = .ok (.iload_n 3, 1) := by decide +kernel
theorem dX12_sayName_35 : decode cX12_sayName 35 = .ok (.lshr, 1) := by decide +kernel
theorem dX12_sayName_36 : decode cX12_sayName 36 = .ok (.ldc2_w 375, 3) := by decide +kernel
theorem dX12_sayName_39 : decode cX12_sayName 39 = .ok (.land, 1) := by decide +kernel
theorem dX12_sayName_40 : decode cX12_sayName 40 = .ok (.l2i, 1) := by decide +kernel
theorem dX12_sayName_41 : decode cX12_sayName 41 = .ok (.istore 4, 2) := by decide +kernel
theorem dX12_sayName_43 : decode cX12_sayName 43 = .ok (.iload 4, 2) := by decide +kernel
theorem dX12_sayName_45 : decode cX12_sayName 45 = .ok (.ifCond .le 9, 3) := by decide +kernel
theorem dX12_sayName_48 : decode cX12_sayName 48 = .ok (.aload_n 0, 1) := by decide +kernel
theorem dX12_sayName_49 : decode cX12_sayName 49 = .ok (.iload 4, 2) := by decide +kernel
theorem dX12_sayName_51 : decode cX12_sayName 51 = .ok (.invokevirtual 510, 3) := by decide +kernel
theorem dX12_sayName_54 : decode cX12_sayName 54 = .ok (.iinc 3 (-8), 3) := by decide +kernel
theorem dX12_sayName_57 : decode cX12_sayName 57 = .ok (.goto (-33), 3) := by decide +kernel
theorem dX12_sayName_60 : decode cX12_sayName 60 = .ok (.iinc 2 1, 3) := by decide +kernel
theorem dX12_sayName_63 : decode cX12_sayName 63 = .ok (.goto (-61), 3) := by decide +kernel
theorem dX12_sayName_66 : decode cX12_sayName 66 = .ok (.return_, 1) := by decide +kernel
theorem dX12_sayNumber_0 : decode cX12_sayNumber 0 = .ok (.sipush 10000, 3) := by decide +kernel
theorem dX12_sayNumber_3 : decode cX12_sayNumber 3 = .ok (.istore_n 2, 1) := by decide +kernel
theorem dX12_sayNumber_4 : decode cX12_sayNumber 4 = .ok (.iload_n 2, 1) := by decide +kernel
theorem dX12_sayNumber_5 : decode cX12_sayNumber 5 = .ok (.iconst 1, 1) := by decide +kernel
theorem dX12_sayNumber_6 : decode cX12_sayNumber 6 = .ok (.if_icmp .le 16, 3) := by decide +kernel
theorem dX12_sayNumber_9 : decode cX12_sayNumber 9 = .ok (.iload_n 1, 1) := by decide +kernel
theorem dX12_sayNumber_10 : decode cX12_sayNumber 10 = .ok (.iload_n 2, 1) := by decide +kernel
theorem dX12_sayNumber_11 : decode cX12_sayNumber 11 = .ok (.if_icmp .ge 11, 3) := by decide +kernel
theorem dX12_sayNumber_14 : decode cX12_sayNumber 14 = .ok (.iload_n 2, 1) := by decide +kernel
theorem dX12_sayNumber_15 : decode cX12_sayNumber 15 = .ok (.bipush 10, 2) := by decide +kernel
theorem dX12_sayNumber_17 : decode cX12_sayNumber 17 = .ok (.idiv, 1) := by decide +kernel
theorem dX12_sayNumber_18 : decode cX12_sayNumber 18 = .ok (.istore_n 2, 1) := by decide +kernel
theorem dX12_sayNumber_19 : decode cX12_sayNumber 19 = .ok (.goto (-15), 3) := by decide +kernel
theorem dX12_sayNumber_22 : decode cX12_sayNumber 22 = .ok (.iload_n 2, 1) := by decide +kernel
theorem dX12_sayNumber_23 : decode cX12_sayNumber 23 = .ok (.ifCond .le 24, 3) := by decide +kernel
theorem dX12_sayNumber_26 : decode cX12_sayNumber 26 = .ok (.aload_n 0, 1) := by decide +kernel
theorem dX12_sayNumber_27 : decode cX12_sayNumber 27 = .ok (.bipush 48, 2) := by decide +kernel
theorem dX12_sayNumber_29 : decode cX12_sayNumber 29 = .ok (.iload_n 1, 1) := by decide +kernel
theorem dX12_sayNumber_30 : decode cX12_sayNumber 30 = .ok (.iload_n 2, 1) := by decide +kernel
theorem dX12_sayNumber_31 : decode cX12_sayNumber 31 = .ok (.idiv, 1) := by decide +kernel
theorem dX12_sayNumber_32 : decode cX12_sayNumber 32 = .ok (.bipush 10, 2) := by decide +kernel
theorem dX12_sayNumber_34 : decode cX12_sayNumber 34 = .ok (.irem, 1) := by decide +kernel
theorem dX12_sayNumber_35 : decode cX12_sayNumber 35 = .ok (.iadd, 1) := by decide +kernel
theorem dX12_sayNumber_36 : decode cX12_sayNumber 36 = .ok (.invokevirtual 510, 3) := by decide +kernel
theorem dX12_sayNumber_39 : decode cX12_sayNumber 39 = .ok (.iload_n 2, 1) := by decide +kernel
theorem dX12_sayNumber_40 : decode cX12_sayNumber 40 = .ok (.bipush 10, 2) := by decide +kernel
theorem dX12_sayNumber_42 : decode cX12_sayNumber 42 = .ok (.idiv, 1) := by decide +kernel
theorem dX12_sayNumber_43 : decode cX12_sayNumber 43 = .ok (.istore_n 2, 1) := by decide +kernel
theorem dX12_sayNumber_44 : decode cX12_sayNumber 44 = .ok (.goto (-22), 3) := by decide +kernel
theorem dX12_sayNumber_47 : decode cX12_sayNumber 47 = .ok (.return_, 1) := by decide +kernel
theorem dX12_sayRegister_0 : decode cX12_sayRegister 0 = .ok (.aload_n 0, 1) := by decide +kernel
theorem dX12_sayRegister_1 : decode cX12_sayRegister 1 = .ok (.bipush 114, 2) := by decide +kernel
theorem dX12_sayRegister_3 : decode cX12_sayRegister 3 = .ok (.invokevirtual 510, 3) := by decide +kernel
theorem dX12_sayRegister_6 : decode cX12_sayRegister 6 = .ok (.aload_n 0, 1) := by decide +kernel
theorem dX12_sayRegister_7 : decode cX12_sayRegister 7 = .ok (.iload_n 1, 1) := by decide +kernel
theorem dX12_sayRegister_8 : decode cX12_sayRegister 8 = .ok (.invokevirtual 513, 3) := by decide +kernel
theorem dX12_sayRegister_11 : decode cX12_sayRegister 11 = .ok (.return_, 1) := by decide +kernel
theorem dX12_nextWord_0 : decode cX12_nextWord 0 = .ok (.aload_n 0, 1) := by decide +kernel
theorem dX12_nextWord_1 : decode cX12_nextWord 1 = .ok (.getfield 516, 3) := by decide +kernel
theorem dX12_nextWord_4 : decode cX12_nextWord 4 = .ok (.ldc 196, 2) := by decide +kernel
theorem dX12_nextWord_6 : decode cX12_nextWord 6 = .ok (.if_icmp .le 10, 3) := by decide +kernel
theorem dX12_nextWord_9 : decode cX12_nextWord 9 = .ok (.aload_n 0, 1) := by decide +kernel
theorem dX12_nextWord_10 : decode cX12_nextWord 10 = .ok (.iconst 0, 1) := by decide +kernel
theorem dX12_nextWord_11 : decode cX12_nextWord 11 = .ok (.putfield 519, 3) := by decide +kernel
theorem dX12_nextWord_14 : decode cX12_nextWord 14 = .ok (.iconst 0, 1) := by decide +kernel
theorem dX12_nextWord_15 : decode cX12_nextWord 15 = .ok (.ireturn, 1) := by decide +kernel
theorem dX12_nextWord_16 : decode cX12_nextWord 16 = .ok (.aload_n 0, 1) := by decide +kernel
theorem dX12_nextWord_17 : decode cX12_nextWord 17 = .ok (.aload_n 0, 1) := by decide +kernel
theorem dX12_nextWord_18 : decode cX12_nextWord 18 = .ok (.getfield 516, 3) := by decide +kernel
theorem dX12_nextWord_21 : decode cX12_nextWord 21 = .ok (.invokevirtual 197, 3) := by decide +kernel
theorem dX12_nextWord_24 : decode cX12_nextWord 24 = .ok (.istore_n 1, 1) := by decide +kernel
theorem dX12_nextWord_25 : decode cX12_nextWord 25 = .ok (.aload_n 0, 1) := by decide +kernel
theorem dX12_nextWord_26 : decode cX12_nextWord 26 = .ok (.dup, 1) := by decide +kernel
theorem dX12_nextWord_27 : decode cX12_nextWord 27 = .ok (.getfield 516, 3) := by decide +kernel
theorem dX12_nextWord_30 : decode cX12_nextWord 30 = .ok (.iconst 2, 1) := by decide +kernel
theorem dX12_nextWord_31 : decode cX12_nextWord 31 = .ok (.iadd, 1) := by decide +kernel
theorem dX12_nextWord_32 : decode cX12_nextWord 32 = .ok (.putfield 516, 3) := by decide +kernel
theorem dX12_nextWord_35 : decode cX12_nextWord 35 = .ok (.iload_n 1, 1) := by decide +kernel
theorem dX12_nextWord_36 : decode cX12_nextWord 36 = .ok (.ireturn, 1) := by decide +kernel
theorem dX12_sayX_0 : decode cX12_sayX 0 = .ok (.aload_n 0, 1) := by decide +kernel
theorem dX12_sayX_1 : decode cX12_sayX 1 = .ok (.getfield 516, 3) := by decide +kernel
theorem dX12_sayX_4 : decode cX12_sayX 4 = .ok (.istore_n 2, 1) := by decide +kernel
theorem dX12_sayX_5 : decode cX12_sayX 5 = .ok (.aload_n 0, 1) := by decide +kernel
theorem dX12_sayX_6 : decode cX12_sayX 6 = .ok (.invokevirtual 522, 3) := by decide +kernel
theorem dX12_sayX_9 : decode cX12_sayX 9 = .ok (.istore_n 3, 1) := by decide +kernel
theorem dX12_sayX_10 : decode cX12_sayX 10 = .ok (.iload_n 1, 1) := by decide +kernel
theorem dX12_sayX_11 : decode cX12_sayX 11 = .ok (.ifCond .ne 16, 3) := by decide +kernel
theorem dX12_sayX_14 : decode cX12_sayX 14 = .ok (.aload_n 0, 1) := by decide +kernel
theorem dX12_sayX_15 : decode cX12_sayX 15 = .ok (.iload_n 3, 1) := by decide +kernel
theorem dX12_sayX_16 : decode cX12_sayX 16 = .ok (.iload_n 2, 1) := by decide +kernel
theorem dX12_sayX_17 : decode cX12_sayX 17 = .ok (.iadd, 1) := by decide +kernel
theorem dX12_sayX_18 : decode cX12_sayX 18 = .ok (.ldc 205, 2) := by decide +kernel
theorem dX12_sayX_20 : decode cX12_sayX 20 = .ok (.iand, 1) := by decide +kernel
theorem dX12_sayX_21 : decode cX12_sayX 21 = .ok (.invokevirtual 513, 3) := by decide +kernel
theorem dX12_sayX_24 : decode cX12_sayX 24 = .ok (.goto 44, 3) := by decide +kernel
theorem dX12_sayX_27 : decode cX12_sayX 27 = .ok (.iload_n 1, 1) := by decide +kernel
theorem dX12_sayX_28 : decode cX12_sayX 28 = .ok (.iconst 2, 1) := by decide +kernel
theorem dX12_sayX_29 : decode cX12_sayX 29 = .ok (.if_icmp .ne 17, 3) := by decide +kernel
theorem dX12_sayX_32 : decode cX12_sayX 32 = .ok (.aload_n 0, 1) := by decide +kernel
theorem dX12_sayX_33 : decode cX12_sayX 33 = .ok (.bipush 38, 2) := by decide +kernel
theorem dX12_sayX_35 : decode cX12_sayX 35 = .ok (.invokevirtual 510, 3) := by decide +kernel
theorem dX12_sayX_38 : decode cX12_sayX 38 = .ok (.aload_n 0, 1) := by decide +kernel
theorem dX12_sayX_39 : decode cX12_sayX 39 = .ok (.iload_n 3, 1) := by decide +kernel
theorem dX12_sayX_40 : decode cX12_sayX 40 = .ok (.invokevirtual 513, 3) := by decide +kernel
theorem dX12_sayX_43 : decode cX12_sayX 43 = .ok (.goto 25, 3) := by decide +kernel
theorem dX12_sayX_46 : decode cX12_sayX 46 = .ok (.aload_n 0, 1) := by decide +kernel
theorem dX12_sayX_47 : decode cX12_sayX 47 = .ok (.iload_n 3, 1) := by decide +kernel
theorem dX12_sayX_48 : decode cX12_sayX 48 = .ok (.invokevirtual 513, 3) := by decide +kernel
theorem dX12_sayX_51 : decode cX12_sayX 51 = .ok (.aload_n 0, 1) := by decide +kernel
theorem dX12_sayX_52 : decode cX12_sayX 52 = .ok (.bipush 40, 2) := by decide +kernel
theorem dX12_sayX_54 : decode cX12_sayX 54 = .ok (.invokevirtual 510, 3) := by decide +kernel
theorem dX12_sayX_57 : decode cX12_sayX 57 = .ok (.aload_n 0, 1) := by decide +kernel
theorem dX12_sayX_58 : decode cX12_sayX 58 = .ok (.iload_n 1, 1) := by decide +kernel
theorem dX12_sayX_59 : decode cX12_sayX 59 = .ok (.invokevirtual 525, 3) := by decide +kernel
theorem dX12_sayX_62 : decode cX12_sayX 62 = .ok (.aload_n 0, 1) := by decide +kernel
theorem dX12_sayX_63 : decode cX12_sayX 63 = .ok (.bipush 41, 2) := by decide +kernel
theorem dX12_sayX_65 : decode cX12_sayX 65 = .ok (.invokevirtual 510, 3) := by decide +kernel
theorem dX12_sayX_68 : decode cX12_sayX 68 = .ok (.return_, 1) := by decide +kernel
theorem dX12_saySharp_0 : decode cX12_saySharp 0 = .ok (.aload_n 0, 1) := by decide +kernel
theorem dX12_saySharp_1 : decode cX12_saySharp 1 = .ok (.bipush 35, 2) := by decide +kernel
theorem dX12_saySharp_3 : decode cX12_saySharp 3 = .ok (.invokevirtual 510, 3) := by decide +kernel
theorem dX12_saySharp_6 : decode cX12_saySharp 6 = .ok (.iload_n 1, 1) := by decide +kernel
theorem dX12_saySharp_7 : decode cX12_saySharp 7 = .ok (.ldc 205, 2) := by decide +kernel
theorem dX12_saySharp_9 : decode cX12_saySharp 9 = .ok (.if_icmp .ne 18, 3) := by decide +kernel
theorem dX12_saySharp_12 : decode cX12_saySharp 12 = .ok (.aload_n 0, 1) := by decide +kernel
theorem dX12_saySharp_13 : decode cX12_saySharp 13 = .ok (.bipush 45, 2) := by decide +kernel
theorem dX12_saySharp_15 : decode cX12_saySharp 15 = .ok (.invokevirtual 510, 3) := by decide +kernel
theorem dX12_saySharp_18 : decode cX12_saySharp 18 = .ok (.aload_n 0, 1) := by decide +kernel
theorem dX12_saySharp_19 : decode cX12_saySharp 19 = .ok (.bipush 49, 2) := by decide +kernel
theorem dX12_saySharp_21 : decode cX12_saySharp 21 = .ok (.invokevirtual 510, 3) := by decide +kernel
theorem dX12_saySharp_24 : decode cX12_saySharp 24 = .ok (.goto 8, 3) := by decide +kernel
theorem dX12_saySharp_27 : decode cX12_saySharp 27 = .ok (.aload_n 0, 1) := by decide +kernel
theorem dX12_saySharp_28 : decode cX12_saySharp 28 = .ok (.iload_n 1, 1) := by decide +kernel
theorem dX12_saySharp_29 : decode cX12_saySharp 29 = .ok (.invokevirtual 513, 3) := by decide +kernel
theorem dX12_saySharp_32 : decode cX12_saySharp 32 = .ok (.return_, 1) := by decide +kernel
theorem dX12_saySource_0 : decode cX12_saySource 0 = .ok (.iload_n 1, 1) := by decide +kernel
theorem dX12_saySource_1 : decode cX12_saySource 1 = .ok (.iconst 3, 1) := by decide +kernel
theorem dX12_saySource_2 : decode cX12_saySource 2 = .ok (.if_icmp .ne 7, 3) := by decide +kernel
theorem dX12_saySource_5 : decode cX12_saySource 5 = .ok (.iload_n 2, 1) := by decide +kernel
theorem dX12_saySource_6 : decode cX12_saySource 6 = .ok (.ifCond .gt 13, 3) := by decide +kernel
theorem dX12_saySource_9 : decode cX12_saySource 9 = .ok (.iload_n 1, 1) := by decide +kernel
theorem dX12_saySource_10 : decode cX12_saySource 10 = .ok (.iconst 2, 1) := by decide +kernel
theorem dX12_saySource_11 : decode cX12_saySource 11 = .ok (.if_icmp .ne 12, 3) := by decide +kernel
theorem dX12_saySource_14 : decode cX12_saySource 14 = .ok (.iload_n 2, 1) := by decide +kernel
theorem dX12_saySource_15 : decode cX12_saySource 15 = .ok (.iconst 1, 1) := by decide +kernel
theorem dX12_saySource_16 : decode cX12_saySource 16 = .ok (.if_icmp .le 7, 3) := by decide +kernel
theorem dX12_saySource_19 : decode cX12_saySource 19 = .ok (.iconst 1, 1) := by decide +kernel
theorem dX12_saySource_20 : decode cX12_saySource 20 = .ok (.goto 4, 3) := by decide +kernel
theorem dX12_saySource_23 : decode cX12_saySource 23 = .ok (.iconst 0, 1) := by decide +kernel
theorem dX12_saySource_24 : decode cX12_saySource 24 = .ok (.istore 4, 2) := by decide +kernel
theorem dX12_saySource_26 : decode cX12_saySource 26 = .ok (.iload 4, 2) := by decide +kernel
theorem dX12_saySource_28 : decode cX12_saySource 28 = .ok (.ifCond .ne 12, 3) := by decide +kernel
theorem dX12_saySource_31 : decode cX12_saySource 31 = .ok (.iload_n 1, 1) := by decide +kernel
theorem dX12_saySource_32 : decode cX12_saySource 32 = .ok (.iconst 3, 1) := by decide +kernel
theorem dX12_saySource_33 : decode cX12_saySource 33 = .ok (.if_icmp .ne 53, 3) := by decide +kernel
theorem dX12_saySource_36 : decode cX12_saySource 36 = .ok (.iload_n 3, 1) := by decide +kernel
theorem dX12_saySource_37 : decode cX12_saySource 37 = .ok (.ifCond .ne 49, 3) := by decide +kernel
theorem dX12_saySource_40 : decode cX12_saySource 40 = .ok (.iload_n 3, 1) := by decide +kernel
theorem dX12_saySource_41 : decode cX12_saySource 41 = .ok (.ifCond .eq 8, 3) := by decide +kernel
theorem dX12_saySource_44 : decode cX12_saySource 44 = .ok (.aload_n 0, 1) := by decide +kernel
theorem dX12_saySource_45 : decode cX12_saySource 45 = .ok (.iconst 0, 1) := by decide +kernel
theorem dX12_saySource_46 : decode cX12_saySource 46 = .ok (.putfield 519, 3) := by decide +kernel
theorem dX12_saySource_49 : decode cX12_saySource 49 = .ok (.aload_n 0, 1) := by decide +kernel
theorem dX12_saySource_50 : decode cX12_saySource 50 = .ok (.iload_n 1, 1) := by decide +kernel
theorem dX12_saySource_51 : decode cX12_saySource 51 = .ok (.iconst 2, 1) := by decide +kernel
theorem dX12_saySource_52 : decode cX12_saySource 52 = .ok (.if_icmp .ne 17, 3) := by decide +kernel
theorem dX12_saySource_55 : decode cX12_saySource 55 = .ok (.iload_n 2, 1) := by decide +kernel
theorem dX12_saySource_56 : decode cX12_saySource 56 = .ok (.iconst 2, 1) := by decide +kernel
theorem dX12_saySource_57 : decode cX12_saySource 57 = .ok (.if_icmp .ne 7, 3) := by decide +kernel
theorem dX12_saySource_60 : decode cX12_saySource 60 = .ok (.iconst 4, 1) := by decide +kernel
theorem dX12_saySource_61 : decode cX12_saySource 61 = .ok (.goto 19, 3) := by decide +kernel
theorem dX12_saySource_64 : decode cX12_saySource 64 = .ok (.bipush 8, 2) := by decide +kernel
theorem dX12_saySource_66 : decode cX12_saySource 66 = .ok (.goto 14, 3) := by decide +kernel
theorem dX12_saySource_69 : decode cX12_saySource 69 = .ok (.iload_n 2, 1) := by decide +kernel
theorem dX12_saySource_70 : decode cX12_saySource 70 = .ok (.iconst 3, 1) := by decide +kernel
theorem dX12_saySource_71 : decode cX12_saySource 71 = .ok (.if_icmp .ne 8, 3) := by decide +kernel
theorem dX12_saySource_74 : decode cX12_saySource 74 = .ok (.ldc 205, 2) := by decide +kernel
theorem dX12_saySource_76 : decode cX12_saySource 76 = .ok (.goto 4, 3) := by decide +kernel
theorem dX12_saySource_79 : decode cX12_saySource 79 = .ok (.iload_n 2, 1) := by decide +kernel
theorem dX12_saySource_80 : decode cX12_saySource 80 = .ok (.invokevirtual 528, 3) := by decide +kernel
theorem dX12_saySource_83 : decode cX12_saySource 83 = .ok (.goto 123, 3) := by decide +kernel
theorem dX12_saySource_86 : decode cX12_saySource 86 = .ok (.iload_n 2, 1) := by decide +kernel
theorem dX12_saySource_87 : decode cX12_saySource 87 = .ok (.ifCond .ne 11, 3) := by decide +kernel
theorem dX12_saySource_90 : decode cX12_saySource 90 = .ok (.aload_n 0, 1) := by decide +kernel
theorem dX12_saySource_91 : decode cX12_saySource 91 = .ok (.iload_n 1, 1) := by decide +kernel
theorem dX12_saySource_92 : decode cX12_saySource 92 = .ok (.invokevirtual 525, 3) := by decide +kernel
theorem dX12_saySource_95 : decode cX12_saySource 95 = .ok (.goto 111, 3) := by decide +kernel
theorem dX12_saySource_98 : decode cX12_saySource 98 = .ok (.iload_n 2, 1) := by decide +kernel
theorem dX12_saySource_99 : decode cX12_saySource 99 = .ok (.iconst 1, 1) := by decide +kernel
theorem dX12_saySource_100 : decode cX12_saySource 100 = .ok (.if_icmp .ne 11, 3) := by decide +kernel
theorem dX12_saySource_103 : decode cX12_saySource 103 = .ok (.aload_n 0, 1) := by decide +kernel
theorem dX12_saySource_104 : decode cX12_saySource 104 = .ok (.iload_n 1, 1) := by decide +kernel
theorem dX12_saySource_105 : decode cX12_saySource 105 = .ok (.invokevirtual 531, 3) := by decide +kernel
theorem dX12_saySource_108 : decode cX12_saySource 108 = .ok (.goto 98, 3) := by decide +kernel
theorem dX12_saySource_111 : decode cX12_saySource 111 = .ok (.iload_n 1, 1) := by decide +kernel
theorem dX12_saySource_112 : decode cX12_saySource 112 = .ok (.ifCond .ne 72, 3) := by decide +kernel
theorem dX12_saySource_115 : decode cX12_saySource 115 = .ok (.iload_n 2, 1) := by decide +kernel
theorem dX12_saySource_116 : decode cX12_saySource 116 = .ok (.iconst 2, 1) := by decide +kernel
theorem dX12_saySource_117 : decode cX12_saySource 117 = .ok (.if_icmp .ne 8, 3) := by decide +kernel
theorem dX12_saySource_120 : decode cX12_saySource 120 = .ok (.aload_n 0, 1) := by decide +kernel
theorem dX12_saySource_121 : decode cX12_saySource 121 = .ok (.iconst 0, 1) := by decide +kernel
theorem dX12_saySource_122 : decode cX12_saySource 122 = .ok (.putfield 519, 3) := by decide +kernel
theorem dX12_saySource_125 : decode cX12_saySource 125 = .ok (.iload_n 2, 1) := by decide +kernel
theorem dX12_saySource_126 : decode cX12_saySource 126 = .ok (.iconst 3, 1) := by decide +kernel
theorem dX12_saySource_127 : decode cX12_saySource 127 = .ok (.if_icmp .ne 10, 3) := by decide +kernel
theorem dX12_saySource_130 : decode cX12_saySource 130 = .ok (.aload_n 0, 1) := by decide +kernel
theorem dX12_saySource_131 : decode cX12_saySource 131 = .ok (.invokevirtual 522, 3) := by decide +kernel
theorem dX12_saySource_134 : decode cX12_saySource 134 = .ok (.goto 4, 3) := by decide +kernel
theorem dX12_saySource_137 : decode cX12_saySource 137 = .ok (.iconst 0, 1) := by decide +kernel
theorem dX12_saySource_138 : decode cX12_saySource 138 = .ok (.istore 5, 2) := by decide +kernel
theorem dX12_saySource_140 : decode cX12_saySource 140 = .ok (.iload_n 3, 1) := by decide +kernel
theorem dX12_saySource_141 : decode cX12_saySource 141 = .ok (.ifCond .ne 34, 3) := by decide +kernel
theorem dX12_saySource_144 : decode cX12_saySource 144 = .ok (.iload 5, 2) := by decide +kernel
theorem dX12_saySource_146 : decode cX12_saySource 146 = .ok (.iconst 3, 1) := by decide +kernel
theorem dX12_saySource_147 : decode cX12_saySource 147 = .ok (.if_icmp .lt 23, 3) := by decide +kernel
theorem dX12_saySource_150 : decode cX12_saySource 150 = .ok (.iload 5, 2) := by decide +kernel
theorem dX12_saySource_152 : decode cX12_saySource 152 = .ok (.iconst 4, 1) := by decide +kernel
theorem dX12_saySource_153 : decode cX12_saySource 153 = .ok (.if_icmp .eq 17, 3) := by decide +kernel
theorem dX12_saySource_156 : decode cX12_saySource 156 = .ok (.iload 5, 2) := by decide +kernel
theorem dX12_saySource_158 : decode cX12_saySource 158 = .ok (.bipush 8, 2) := by decide +kernel
theorem dX12_saySource_160 : decode cX12_saySource 160 = .ok (.if_icmp .eq 10, 3) := by decide +kernel
theorem dX12_saySource_163 : decode cX12_saySource 163 = .ok (.iload 5, 2) := by decide +kernel
theorem dX12_saySource_165 : decode cX12_saySource 165 = .ok (.ldc 205, 2) := by decide +kernel
theorem dX12_saySource_167 : decode cX12_saySource 167 = .ok (.if_icmp .ne 8, 3) := by decide +kernel
theorem dX12_saySource_170 : decode cX12_saySource 170 = .ok (.aload_n 0, 1) := by decide +kernel
theorem dX12_saySource_171 : decode cX12_saySource 171 = .ok (.iconst 0, 1) := by decide +kernel
theorem dX12_saySource_172 : decode cX12_saySource 172 = .ok (.putfield 519, 3) := by decide +kernel
theorem dX12_saySource_175 : decode cX12_saySource 175 = .ok (.aload_n 0, 1) := by decide +kernel
theorem dX12_saySource_176 : decode cX12_saySource 176 = .ok (.iload 5, 2) := by decide +kernel
theorem dX12_saySource_178 : decode cX12_saySource 178 = .ok (.invokevirtual 528, 3) := by decide +kernel
theorem dX12_saySource_181 : decode cX12_saySource 181 = .ok (.goto 25, 3) := by decide +kernel
theorem dX12_saySource_184 : decode cX12_saySource 184 = .ok (.aload_n 0, 1) := by decide +kernel
theorem dX12_saySource_185 : decode cX12_saySource 185 = .ok (.bipush 64, 2) := by decide +kernel
theorem dX12_saySource_187 : decode cX12_saySource 187 = .ok (.invokevirtual 510, 3) := by decide +kernel
theorem dX12_saySource_190 : decode cX12_saySource 190 = .ok (.aload_n 0, 1) := by decide +kernel
theorem dX12_saySource_191 : decode cX12_saySource 191 = .ok (.iload_n 1, 1) := by decide +kernel
theorem dX12_saySource_192 : decode cX12_saySource 192 = .ok (.invokevirtual 525, 3) := by decide +kernel
theorem dX12_saySource_195 : decode cX12_saySource 195 = .ok (.iload_n 2, 1) := by decide +kernel
theorem dX12_saySource_196 : decode cX12_saySource 196 = .ok (.iconst 3, 1) := by decide +kernel
theorem dX12_saySource_197 : decode cX12_saySource 197 = .ok (.if_icmp .ne 9, 3) := by decide +kernel
theorem dX12_saySource_200 : decode cX12_saySource 200 = .ok (.aload_n 0, 1) := by decide +kernel
theorem dX12_saySource_201 : decode cX12_saySource 201 = .ok (.bipush 43, 2) := by decide +kernel
theorem dX12_saySource_203 : decode cX12_saySource 203 = .ok (.invokevirtual 510, 3) := by decide +kernel
theorem dX12_saySource_206 : decode cX12_saySource 206 = .ok (.return_, 1) := by decide +kernel
theorem dX12_spell_0 : decode cX12_spell 0 = .ok (.iload_n 1, 1) := by decide +kernel
theorem dX12_spell_1 : decode cX12_spell 1 = .ok (.bipush 12, 2) := by decide +kernel
theorem dX12_spell_3 : decode cX12_spell 3 = .ok (.ishr, 1) := by decide +kernel
theorem dX12_spell_4 : decode cX12_spell 4 = .ok (.istore_n 2, 1) := by decide +kernel
theorem dX12_spell_5 : decode cX12_spell 5 = .ok (.iload_n 1, 1) := by decide +kernel
theorem dX12_spell_6 : decode cX12_spell 6 = .ok (.bipush 6, 2) := by decide +kernel
theorem dX12_spell_8 : decode cX12_spell 8 = .ok (.ishr, 1) := by decide +kernel
theorem dX12_spell_9 : decode cX12_spell 9 = .ok (.iconst 1, 1) := by decide +kernel
theorem dX12_spell_10 : decode cX12_spell 10 = .ok (.iand, 1) := by decide +kernel
theorem dX12_spell_11 : decode cX12_spell 11 = .ok (.iconst 1, 1) := by decide +kernel
theorem dX12_spell_12 : decode cX12_spell 12 = .ok (.if_icmp .ne 7, 3) := by decide +kernel
theorem dX12_spell_15 : decode cX12_spell 15 = .ok (.iconst 1, 1) := by decide +kernel
theorem dX12_spell_16 : decode cX12_spell 16 = .ok (.goto 4, 3) := by decide +kernel
theorem dX12_spell_19 : decode cX12_spell 19 = .ok (.iconst 0, 1) := by decide +kernel
theorem dX12_spell_20 : decode cX12_spell 20 = .ok (.istore_n 3, 1) := by decide +kernel
theorem dX12_spell_21 : decode cX12_spell 21 = .ok (.iload_n 1, 1) := by decide +kernel
theorem dX12_spell_22 : decode cX12_spell 22 = .ok (.iconst 4, 1) := by decide +kernel
theorem dX12_spell_23 : decode cX12_spell 23 = .ok (.ishr, 1) := by decide +kernel
theorem dX12_spell_24 : decode cX12_spell 24 = .ok (.iconst 3, 1) := by decide +kernel
theorem dX12_spell_25 : decode cX12_spell 25 = .ok (.iand, 1) := by decide +kernel
theorem dX12_spell_26 : decode cX12_spell 26 = .ok (.istore 4, 2) := by decide +kernel
theorem dX12_spell_28 : decode cX12_spell 28 = .ok (.iload_n 2, 1) := by decide +kernel
theorem dX12_spell_29 : decode cX12_spell 29 = .ok (.iconst 2, 1) := by decide +kernel
theorem dX12_spell_30 : decode cX12_spell 30 = .ok (.if_icmp .eq 8, 3) := by decide +kernel
theorem dX12_spell_33 : decode cX12_spell 33 = .ok (.iload_n 2, 1) := by decide +kernel
theorem dX12_spell_34 : decode cX12_spell 34 = .ok (.iconst 3, 1) := by decide +kernel
theorem dX12_spell_35 : decode cX12_spell 35 = .ok (.if_icmp .ne 51, 3) := by decide +kernel
theorem dX12_spell_38 : decode cX12_spell 38 = .ok (.aload_n 0, 1) := by decide +kernel
theorem dX12_spell_39 : decode cX12_spell 39 = .ok (.bipush 30, 2) := by decide +kernel
theorem dX12_spell_41 : decode cX12_spell 41 = .ok (.iload_n 1, 1) := by decide +kernel
theorem dX12_spell_42 : decode cX12_spell 42 = .ok (.bipush 10, 2) := by decide +kernel
theorem dX12_spell_44 : decode cX12_spell 44 = .ok (.ishr, 1) := by decide +kernel
theorem dX12_spell_45 : decode cX12_spell 45 = .ok (.bipush 7, 2) := by decide +kernel
theorem dX12_spell_47 : decode cX12_spell 47 = .ok (.iand, 1) := by decide +kernel
theorem dX12_spell_48 : decode cX12_spell 48 = .ok (.iadd, 1) := by decide +kernel
theorem dX12_spell_49 : decode cX12_spell 49 = .ok (.invokevirtual 534, 3) := by decide +kernel
theorem dX12_spell_52 : decode cX12_spell 52 = .ok (.aload_n 0, 1) := by decide +kernel
theorem dX12_spell_53 : decode cX12_spell 53 = .ok (.bipush 32, 2) := by decide +kernel
theorem dX12_spell_55 : decode cX12_spell 55 = .ok (.invokevirtual 510, 3) := by decide +kernel
theorem dX12_spell_58 : decode cX12_spell 58 = .ok (.aload_n 0, 1) := by decide +kernel
theorem dX12_spell_59 : decode cX12_spell 59 = .ok (.aload_n 0, 1) := by decide +kernel
theorem dX12_spell_60 : decode cX12_spell 60 = .ok (.getfield 537, 3) := by decide +kernel
theorem dX12_spell_63 : decode cX12_spell 63 = .ok (.iconst 2, 1) := by decide +kernel
theorem dX12_spell_64 : decode cX12_spell 64 = .ok (.iadd, 1) := by decide +kernel
theorem dX12_spell_65 : decode cX12_spell 65 = .ok (.iconst 2, 1) := by decide +kernel
theorem dX12_spell_66 : decode cX12_spell 66 = .ok (.iload_n 1, 1) := by decide +kernel
theorem dX12_spell_67 : decode cX12_spell 67 = .ok (.sipush 1023, 3) := by decide +kernel
theorem dX12_spell_70 : decode cX12_spell 70 = .ok (.iand, 1) := by decide +kernel
theorem dX12_spell_71 : decode cX12_spell 71 = .ok (.bipush 22, 2) := by decide +kernel
theorem dX12_spell_73 : decode cX12_spell 73 = .ok (.ishl, 1) := by decide +kernel
theorem dX12_spell_74 : decode cX12_spell 74 = .ok (.bipush 22, 2) := by decide +kernel
theorem dX12_spell_76 : decode cX12_spell 76 = .ok (.ishr, 1) := by decide +kernel
theorem dX12_spell_77 : decode cX12_spell 77 = .ok (.imul, 1) := by decide +kernel
theorem dX12_spell_78 : decode cX12_spell 78 = .ok (.iadd, 1) := by decide +kernel
theorem dX12_spell_79 : decode cX12_spell 79 = .ok (.ldc 205, 2) := by decide +kernel
theorem dX12_spell_81 : decode cX12_spell 81 = .ok (.iand, 1) := by decide +kernel
theorem dX12_spell_82 : decode cX12_spell 82 = .ok (.invokevirtual 513, 3) := by decide +kernel
theorem dX12_spell_85 : decode cX12_spell 85 = .ok (.return_, 1) := by decide +kernel
theorem dX12_spell_86 : decode cX12_spell 86 = .ok (.iload_n 1, 1) := by decide +kernel
theorem dX12_spell_87 : decode cX12_spell 87 = .ok (.bipush 7, 2) := by decide +kernel
theorem dX12_spell_89 : decode cX12_spell 89 = .ok (.ishr, 1) := by decide +kernel
theorem dX12_spell_90 : decode cX12_spell 90 = .ok (.bipush 7, 2) := by decide +kernel
theorem dX12_spell_92 : decode cX12_spell 92 = .ok (.iand, 1) := by decide +kernel
theorem dX12_spell_93 : decode cX12_spell 93 = .ok (.istore 5, 2) := by decide +kernel
theorem dX12_spell_95 : decode cX12_spell 95 = .ok (.iload_n 2, 1) := by decide +kernel
theorem dX12_spell_96 : decode cX12_spell 96 = .ok (.iconst 1, 1) := by decide +kernel
theorem dX12_spell_97 : decode cX12_spell 97 = .ok (.if_icmp .ne 40, 3) := by decide +kernel
theorem dX12_spell_100 : decode cX12_spell 100 = .ok (.iload 5, 2) := by decide +kernel
theorem dX12_spell_102 : decode cX12_spell 102 = .ok (.bipush 6, 2) := by decide +kernel
theorem dX12_spell_104 : decode cX12_spell 104 = .ok (.if_icmp .ne 33, 3) := by decide +kernel
theorem dX12_spell_107 : decode cX12_spell 107 = .ok (.aload_n 0, 1) := by decide +kernel
theorem dX12_spell_108 : decode cX12_spell 108 = .ok (.aload_n 0, 1) := by decide +kernel
theorem dX12_spell_109 : decode cX12_spell 109 = .ok (.getfield 519, 3) := by decide +kernel
theorem dX12_spell_112 : decode cX12_spell 112 = .ok (.ifCond .eq 14, 3) := by decide +kernel
theorem dX12_spell_115 : decode cX12_spell 115 = .ok (.iload_n 1, 1) := by decide +kernel
theorem dX12_spell_116 : decode cX12_spell 116 = .ok (.sipush 4864, 3) := by decide +kernel
theorem dX12_spell_119 : decode cX12_spell 119 = .ok (.if_icmp .ne 7, 3) := by decide +kernel
theorem dX12_spell_122 : decode cX12_spell 122 = .ok (.iconst 1, 1) := by decide +kernel
theorem dX12_spell_123 : decode cX12_spell 123 = .ok (.goto 4, 3) := by decide +kernel
theorem dX12_spell_126 : decode cX12_spell 126 = .ok (.iconst 0, 1) := by decide +kernel
theorem dX12_spell_127 : decode cX12_spell 127 = .ok (.putfield 519, 3) := by decide +kernel
theorem dX12_spell_130 : decode cX12_spell 130 = .ok (.aload_n 0, 1) := by decide +kernel
theorem dX12_spell_131 : decode cX12_spell 131 = .ok (.bipush 44, 2) := by decide +kernel
theorem dX12_spell_133 : decode cX12_spell 133 = .ok (.invokevirtual 534, 3) := by decide +kernel
theorem dX12_spell_136 : decode cX12_spell 136 = .ok (.return_, 1) := by decide +kernel
theorem dX12_spell_137 : decode cX12_spell 137 = .ok (.aload_n 0, 1) := by decide +kernel
theorem dX12_spell_138 : decode cX12_spell 138 = .ok (.iload_n 2, 1) := by decide +kernel
theorem dX12_spell_139 : decode cX12_spell 139 = .ok (.iconst 1, 1) := by decide +kernel
theorem dX12_spell_140 : decode cX12_spell 140 = .ok (.if_icmp .ne 11, 3) := by decide +kernel
theorem dX12_spell_143 : decode cX12_spell 143 = .ok (.bipush 20, 2) := by decide +kernel
theorem dX12_spell_145 : decode cX12_spell 145 = .ok (.iload 5, 2) := by decide +kernel
theorem dX12_spell_147 : decode cX12_spell 147 = .ok (.iadd, 1) := by decide +kernel
theorem dX12_spell_148 : decode cX12_spell 148 = .ok (.goto 6, 3) := by decide +kernel
theorem dX12_spell_151 : decode cX12_spell 151 = .ok (.iload_n 2, 1) := by decide +kernel
theorem dX12_spell_152 : decode cX12_spell 152 = .ok (.iconst 4, 1) := by decide +kernel
theorem dX12_spell_153 : decode cX12_spell 153 = .ok (.isub, 1) := by decide +kernel
theorem dX12_spell_154 : decode cX12_spell 154 = .ok (.invokevirtual 534, 3) := by decide +kernel
theorem dX12_spell_157 : decode cX12_spell 157 = .ok (.iload_n 3, 1) := by decide +kernel
theorem dX12_spell_158 : decode cX12_spell 158 = .ok (.ifCond .eq 15, 3) := by decide +kernel
theorem dX12_spell_161 : decode cX12_spell 161 = .ok (.aload_n 0, 1) := by decide +kernel
theorem dX12_spell_162 : decode cX12_spell 162 = .ok (.bipush 46, 2) := by decide +kernel
theorem dX12_spell_164 : decode cX12_spell 164 = .ok (.invokevirtual 510, 3) := by decide +kernel
theorem dX12_spell_167 : decode cX12_spell 167 = .ok (.aload_n 0, 1) := by decide +kernel
theorem dX12_spell_168 : decode cX12_spell 168 = .ok (.bipush 98, 2) := by decide +kernel
theorem dX12_spell_170 : decode cX12_spell 170 = .ok (.invokevirtual 510, 3) := by decide +kernel
theorem dX12_spell_173 : decode cX12_spell 173 = .ok (.aload_n 0, 1) := by decide +kernel
theorem dX12_spell_174 : decode cX12_spell 174 = .ok (.bipush 32, 2) := by decide +kernel
theorem dX12_spell_176 : decode cX12_spell 176 = .ok (.invokevirtual 510, 3) := by decide +kernel
theorem dX12_spell_179 : decode cX12_spell 179 = .ok (.iload_n 2, 1) := by decide +kernel
theorem dX12_spell_180 : decode cX12_spell 180 = .ok (.iconst 1, 1) := by decide +kernel
theorem dX12_spell_181 : decode cX12_spell 181 = .ok (.if_icmp .ne 25, 3) := by decide +kernel
theorem dX12_spell_184 : decode cX12_spell 184 = .ok (.aload_n 0, 1) := by decide +kernel
theorem dX12_spell_185 : decode cX12_spell 185 = .ok (.iload_n 1, 1) := by decide +kernel
theorem dX12_spell_186 : decode cX12_spell 186 = .ok (.bipush 15, 2) := by decide +kernel
theorem dX12_spell_188 : decode cX12_spell 188 = .ok (.iand, 1) := by decide +kernel
theorem dX12_spell_189 : decode cX12_spell 189 = .ok (.iload 4, 2) := by decide +kernel
theorem dX12_spell_191 : decode cX12_spell 191 = .ok (.iload 5, 2) := by decide +kernel
theorem dX12_spell_193 : decode cX12_spell 193 = .ok (.iconst 3, 1) := by decide +kernel
theorem dX12_spell_194 : decode cX12_spell 194 = .ok (.if_icmp .le 7, 3) := by decide +kernel
theorem dX12_spell_197 : decode cX12_spell 197 = .ok (.iconst 1, 1) := by decide +kernel
theorem dX12_spell_198 : decode cX12_spell 198 = .ok (.goto 4, 3) := by decide +kernel
theorem dX12_spell_201 : decode cX12_spell 201 = .ok (.iconst 0, 1) := by decide +kernel
theorem dX12_spell_202 : decode cX12_spell 202 = .ok (.invokevirtual 540, 3) := by decide +kernel
theorem dX12_spell_205 : decode cX12_spell 205 = .ok (.return_, 1) := by decide +kernel
theorem dX12_spell_206 : decode cX12_spell 206 = .ok (.aload_n 0, 1) := by decide +kernel
theorem dX12_spell_207 : decode cX12_spell 207 = .ok (.iload_n 1, 1) := by decide +kernel
theorem dX12_spell_208 : decode cX12_spell 208 = .ok (.bipush 8, 2) := by decide +kernel
theorem dX12_spell_210 : decode cX12_spell 210 = .ok (.ishr, 1) := by decide +kernel
theorem dX12_spell_211 : decode cX12_spell 211 = .ok (.bipush 15, 2) := by decide +kernel
theorem dX12_spell_213 : decode cX12_spell 213 = .ok (.iand, 1) := by decide +kernel
theorem dX12_spell_214 : decode cX12_spell 214 = .ok (.iload 4, 2) := by decide +kernel
theorem dX12_spell_216 : decode cX12_spell 216 = .ok (.iconst 0, 1) := by decide +kernel
theorem dX12_spell_217 : decode cX12_spell 217 = .ok (.invokevirtual 540, 3) := by decide +kernel
theorem dX12_spell_220 : decode cX12_spell 220 = .ok (.aload_n 0, 1) := by decide +kernel
theorem dX12_spell_221 : decode cX12_spell 221 = .ok (.bipush 44, 2) := by decide +kernel
theorem dX12_spell_223 : decode cX12_spell 223 = .ok (.invokevirtual 510, 3) := by decide +kernel
theorem dX12_spell_226 : decode cX12_spell 226 = .ok (.iload_n 1, 1) := by decide +kernel
theorem dX12_spell_227 : decode cX12_spell 227 = .ok (.bipush 15, 2) := by decide +kernel
theorem dX12_spell_229 : decode cX12_spell 229 = .ok (.iand, 1) := by decide +kernel
theorem dX12_spell_230 : decode cX12_spell 230 = .ok (.istore 6, 2) := by decide +kernel
theorem dX12_spell_232 : decode cX12_spell 232 = .ok (.iload_n 1, 1) := by decide +kernel
theorem dX12_spell_233 : decode cX12_spell 233 = .ok (.bipush 7, 2) := by decide +kernel
theorem dX12_spell_235 : decode cX12_spell 235 = .ok (.ishr, 1) := by decide +kernel
theorem dX12_spell_236 : decode cX12_spell 236 = .ok (.iconst 1, 1) := by decide +kernel
theorem dX12_spell_237 : decode cX12_spell 237 = .ok (.iand, 1) := by decide +kernel
theorem dX12_spell_238 : decode cX12_spell 238 = .ok (.ifCond .ne 12, 3) := by decide +kernel
theorem dX12_spell_241 : decode cX12_spell 241 = .ok (.aload_n 0, 1) := by decide +kernel
theorem dX12_spell_242 : decode cX12_spell 242 = .ok (.iload 6, 2) := by decide +kernel
theorem dX12_spell_244 : decode cX12_spell 244 = .ok (.invokevirtual 525, 3) := by decide +kernel
theorem dX12_spell_247 : decode cX12_spell 247 = .ok (.goto 20, 3) := by decide +kernel
theorem dX12_spell_250 : decode cX12_spell 250 = .ok (.iload 6, 2) := by decide +kernel
theorem dX12_spell_252 : decode cX12_spell 252 = .ok (.iconst 3, 1) := by decide +kernel
theorem dX12_spell_253 : decode cX12_spell 253 = .ok (.if_icmp .ne 8, 3) := by decide +kernel
theorem dX12_spell_256 : decode cX12_spell 256 = .ok (.aload_n 0, 1) := by decide +kernel
theorem dX12_spell_257 : decode cX12_spell 257 = .ok (.iconst 0, 1) := by decide +kernel
theorem dX12_spell_258 : decode cX12_spell 258 = .ok (.putfield 519, 3) := by decide +kernel
theorem dX12_spell_261 : decode cX12_spell 261 = .ok (.aload_n 0, 1) := by decide +kernel
theorem dX12_spell_262 : decode cX12_spell 262 = .ok (.iload 6, 2) := by decide +kernel
theorem dX12_spell_264 : decode cX12_spell 264 = .ok (.invokevirtual 531, 3) := by decide +kernel
theorem dX12_spell_267 : decode cX12_spell 267 = .ok (.return_, 1) := by decide +kernel
theorem dX12_list_0 : decode cX12_list 0 = .ok (.aload_n 0, 1) := by decide +kernel
theorem dX12_list_1 : decode cX12_list 1 = .ok (.iload_n 1, 1) := by decide +kernel
theorem dX12_list_2 : decode cX12_list 2 = .ok (.ifCond .lt 9, 3) := by decide +kernel
theorem dX12_list_5 : decode cX12_list 5 = .ok (.iload_n 1, 1) := by decide +kernel
theorem dX12_list_6 : decode cX12_list 6 = .ok (.ldc 205, 2) := by decide +kernel
theorem dX12_list_8 : decode cX12_list 8 = .ok (.if_icmp .le 7, 3) := by decide +kernel
theorem dX12_list_11 : decode cX12_list 11 = .ok (.iconst 1, 1) := by decide +kernel
theorem dX12_list_12 : decode cX12_list 12 = .ok (.goto 4, 3) := by decide +kernel
theorem dX12_list_15 : decode cX12_list 15 = .ok (.iconst 0, 1) := by decide +kernel
theorem dX12_list_16 : decode cX12_list 16 = .ok (.invokevirtual 315, 3) := by decide +kernel
theorem dX12_list_19 : decode cX12_list 19 = .ok (.ifCond .eq 5, 3) := by decide +kernel
theorem dX12_list_22 : decode cX12_list 22 = .ok (.iconst 0, 1) := by decide +kernel
theorem dX12_list_23 : decode cX12_list 23 = .ok (.ireturn, 1) := by decide +kernel
theorem dX12_list_24 : decode cX12_list 24 = .ok (.aload_n 0, 1) := by decide +kernel
theorem dX12_list_25 : decode cX12_list 25 = .ok (.iload_n 1, 1) := by decide +kernel
theorem dX12_list_26 : decode cX12_list 26 = .ok (.ldc 196, 2) := by decide +kernel
theorem dX12_list_28 : decode cX12_list 28 = .ok (.iand, 1) := by decide +kernel
theorem dX12_list_29 : decode cX12_list 29 = .ok (.putfield 537, 3) := by decide +kernel
theorem dX12_list_32 : decode cX12_list 32 = .ok (.aload_n 0, 1) := by decide +kernel
theorem dX12_list_33 : decode cX12_list 33 = .ok (.aload_n 0, 1) := by decide +kernel
theorem dX12_list_34 : decode cX12_list 34 = .ok (.getfield 537, 3) := by decide +kernel
theorem dX12_list_37 : decode cX12_list 37 = .ok (.iconst 2, 1) := by decide +kernel
theorem dX12_list_38 : decode cX12_list 38 = .ok (.iadd, 1) := by decide +kernel
theorem dX12_list_39 : decode cX12_list 39 = .ok (.putfield 516, 3) := by decide +kernel
theorem dX12_list_42 : decode cX12_list 42 = .ok (.aload_n 0, 1) := by decide +kernel
theorem dX12_list_43 : decode cX12_list 43 = .ok (.iconst 0, 1) := by decide +kernel
theorem dX12_list_44 : decode cX12_list 44 = .ok (.putfield 507, 3) := by decide +kernel
theorem dX12_list_47 : decode cX12_list 47 = .ok (.aload_n 0, 1) := by decide +kernel
theorem dX12_list_48 : decode cX12_list 48 = .ok (.aload_n 0, 1) := by decide +kernel
theorem dX12_list_49 : decode cX12_list 49 = .ok (.getfield 537, 3) := by decide +kernel
theorem dX12_list_52 : decode cX12_list 52 = .ok (.invokevirtual 197, 3) := by decide +kernel
theorem dX12_list_55 : decode cX12_list 55 = .ok (.istore_n 2, 1) := by decide +kernel
theorem dX12_list_56 : decode cX12_list 56 = .ok (.aload_n 0, 1) := by decide +kernel
theorem dX12_list_57 : decode cX12_list 57 = .ok (.iload_n 2, 1) := by decide +kernel
theorem dX12_list_58 : decode cX12_list 58 = .ok (.invokestatic 303, 3) := by decide +kernel
theorem dX12_list_61 : decode cX12_list 61 = .ok (.putfield 519, 3) := by decide +kernel
theorem dX12_list_64 : decode cX12_list 64 = .ok (.aload_n 0, 1) := by decide +kernel
theorem dX12_list_65 : decode cX12_list 65 = .ok (.getfield 519, 3) := by decide +kernel
theorem dX12_list_68 : decode cX12_list 68 = .ok (.ifCond .eq 8, 3) := by decide +kernel
theorem dX12_list_71 : decode cX12_list 71 = .ok (.aload_n 0, 1) := by decide +kernel
theorem dX12_list_72 : decode cX12_list 72 = .ok (.iload_n 2, 1) := by decide +kernel
theorem dX12_list_73 : decode cX12_list 73 = .ok (.invokevirtual 544, 3) := by decide +kernel
theorem dX12_list_76 : decode cX12_list 76 = .ok (.aload_n 0, 1) := by decide +kernel
theorem dX12_list_77 : decode cX12_list 77 = .ok (.getfield 519, 3) := by decide +kernel
theorem dX12_list_80 : decode cX12_list 80 = .ok (.ifCond .ne 35, 3) := by decide +kernel
theorem dX12_list_83 : decode cX12_list 83 = .ok (.aload_n 0, 1) := by decide +kernel
theorem dX12_list_84 : decode cX12_list 84 = .ok (.iconst 0, 1) := by decide +kernel
theorem dX12_list_85 : decode cX12_list 85 = .ok (.putfield 507, 3) := by decide +kernel
theorem dX12_list_88 : decode cX12_list 88 = .ok (.aload_n 0, 1) := by decide +kernel
theorem dX12_list_89 : decode cX12_list 89 = .ok (.aload_n 0, 1) := by decide +kernel
theorem dX12_list_90 : decode cX12_list 90 = .ok (.getfield 537, 3) := by decide +kernel
theorem dX12_list_93 : decode cX12_list 93 = .ok (.iconst 2, 1) := by decide +kernel
theorem dX12_list_94 : decode cX12_list 94 = .ok (.iadd, 1) := by decide +kernel
theorem dX12_list_95 : decode cX12_list 95 = .ok (.putfield 516, 3) := by decide +kernel
theorem dX12_list_98 : decode cX12_list 98 = .ok (.aload_n 0, 1) := by decide +kernel
theorem dX12_list_99 : decode cX12_list 99 = .ok (.bipush 41, 2) := by decide +kernel
theorem dX12_list_101 : decode cX12_list 101 = .ok (.invokevirtual 534, 3) := by decide +kernel
theorem dX12_list_104 : decode cX12_list 104 = .ok (.aload_n 0, 1) := by decide +kernel
theorem dX12_list_105 : decode cX12_list 105 = .ok (.bipush 32, 2) := by decide +kernel
theorem dX12_list_107 : decode cX12_list 107 = .ok (.invokevirtual 510, 3) := by decide +kernel
theorem dX12_list_110 : decode cX12_list 110 = .ok (.aload_n 0, 1) := by decide +kernel
theorem dX12_list_111 : decode cX12_list 111 = .ok (.iload_n 2, 1) := by decide +kernel
theorem dX12_list_112 : decode cX12_list 112 = .ok (.invokevirtual 513, 3) := by decide +kernel
theorem dX12_list_115 : decode cX12_list 115 = .ok (.aload_n 0, 1) := by decide +kernel
theorem dX12_list_116 : decode cX12_list 116 = .ok (.aload_n 0, 1) := by decide +kernel
theorem dX12_list_117 : decode cX12_list 117 = .ok (.getfield 516, 3) := by decide +kernel
theorem dX12_list_120 : decode cX12_list 120 = .ok (.ldc 205, 2) := by decide +kernel
theorem dX12_list_122 : decode cX12_list 122 = .ok (.iand, 1) := by decide +kernel
theorem dX12_list_123 : decode cX12_list 123 = .ok (.putfield 547, 3) := by decide +kernel
theorem dX12_list_126 : decode cX12_list 126 = .ok (.aload_n 0, 1) := by decide +kernel
theorem dX12_list_127 : decode cX12_list 127 = .ok (.getfield 507, 3) := by decide +kernel
theorem dX12_list_130 : decode cX12_list 130 = .ok (.ireturn, 1) := by decide +kernel
theorem dX12_octet_0 : decode cX12_octet 0 = .ok (.aload_n 0, 1) := by decide +kernel
theorem dX12_octet_1 : decode cX12_octet 1 = .ok (.iload_n 1, 1) := by decide +kernel
theorem dX12_octet_2 : decode cX12_octet 2 = .ok (.ifCond .lt 11, 3) := by decide +kernel
theorem dX12_octet_5 : decode cX12_octet 5 = .ok (.iload_n 1, 1) := by decide +kernel
theorem dX12_octet_6 : decode cX12_octet 6 = .ok (.aload_n 0, 1) := by decide +kernel
theorem dX12_octet_7 : decode cX12_octet 7 = .ok (.getfield 507, 3) := by decide +kernel
theorem dX12_octet_10 : decode cX12_octet 10 = .ok (.if_icmp .lt 7, 3) := by decide +kernel
theorem dX12_octet_13 : decode cX12_octet 13 = .ok (.iconst 1, 1) := by decide +kernel
theorem dX12_octet_14 : decode cX12_octet 14 = .ok (.goto 4, 3) := by decide +kernel
theorem dX12_octet_17 : decode cX12_octet 17 = .ok (.iconst 0, 1) := by decide +kernel
theorem dX12_octet_18 : decode cX12_octet 18 = .ok (.invokevirtual 315, 3) := by decide +kernel
theorem dX12_octet_21 : decode cX12_octet 21 = .ok (.ifCond .eq 7, 3) := by decide +kernel
theorem dX12_octet_24 : decode cX12_octet 24 = .ok (.iconst 0, 1) := by decide +kernel
theorem dX12_octet_25 : decode cX12_octet 25 = .ok (.goto 9, 3) := by decide +kernel
theorem dX12_octet_28 : decode cX12_octet 28 = .ok (.aload_n 0, 1) := by decide +kernel
theorem dX12_octet_29 : decode cX12_octet 29 = .ok (.getfield 131, 3) := by decide +kernel
theorem dX12_octet_32 : decode cX12_octet 32 = .ok (.iload_n 1, 1) := by decide +kernel
theorem dX12_octet_33 : decode cX12_octet 33 = .ok (.baload, 1) := by decide +kernel
theorem dX12_octet_34 : decode cX12_octet 34 = .ok (.ireturn, 1) := by decide +kernel
theorem dX12_count__0 : decode cX12_count_ 0 = .ok (.aload_n 0, 1) := by decide +kernel
theorem dX12_count__1 : decode cX12_count_ 1 = .ok (.iconst 0, 1) := by decide +kernel
theorem dX12_count__2 : decode cX12_count_ 2 = .ok (.putfield 134, 3) := by decide +kernel
theorem dX12_count__5 : decode cX12_count_ 5 = .ok (.iload_n 1, 1) := by decide +kernel
theorem dX12_count__6 : decode cX12_count_ 6 = .ok (.tableswitch 86 0 7 #[46, 51, 56, 61, 66, 71, 76, 81], 46) := by decide +kernel
theorem dX12_count__52 : decode cX12_count_ 52 = .ok (.aload_n 0, 1) := by decide +kernel
theorem dX12_count__53 : decode cX12_count_ 53 = .ok (.getfield 187, 3) := by decide +kernel
theorem dX12_count__56 : decode cX12_count_ 56 = .ok (.ireturn, 1) := by decide +kernel
theorem dX12_count__57 : decode cX12_count_ 57 = .ok (.aload_n 0, 1) := by decide +kernel
theorem dX12_count__58 : decode cX12_count_ 58 = .ok (.getfield 319, 3) := by decide +kernel
theorem dX12_count__61 : decode cX12_count_ 61 = .ok (.ireturn, 1) := by decide +kernel
theorem dX12_count__62 : decode cX12_count_ 62 = .ok (.aload_n 0, 1) := by decide +kernel
theorem dX12_count__63 : decode cX12_count_ 63 = .ok (.getfield 190, 3) := by decide +kernel
theorem dX12_count__66 : decode cX12_count_ 66 = .ok (.ireturn, 1) := by decide +kernel
theorem dX12_count__67 : decode cX12_count_ 67 = .ok (.aload_n 0, 1) := by decide +kernel
theorem dX12_count__68 : decode cX12_count_ 68 = .ok (.getfield 193, 3) := by decide +kernel
theorem dX12_count__71 : decode cX12_count_ 71 = .ok (.ireturn, 1) := by decide +kernel
theorem dX12_count__72 : decode cX12_count_ 72 = .ok (.aload_n 0, 1) := by decide +kernel
theorem dX12_count__73 : decode cX12_count_ 73 = .ok (.getfield 184, 3) := by decide +kernel
theorem dX12_count__76 : decode cX12_count_ 76 = .ok (.ireturn, 1) := by decide +kernel
theorem dX12_count__77 : decode cX12_count_ 77 = .ok (.aload_n 0, 1) := by decide +kernel
theorem dX12_count__78 : decode cX12_count_ 78 = .ok (.getfield 326, 3) := by decide +kernel
theorem dX12_count__81 : decode cX12_count_ 81 = .ok (.ireturn, 1) := by decide +kernel
theorem dX12_count__82 : decode cX12_count_ 82 = .ok (.aload_n 0, 1) := by decide +kernel
theorem dX12_count__83 : decode cX12_count_ 83 = .ok (.getfield 507, 3) := by decide +kernel
theorem dX12_count__86 : decode cX12_count_ 86 = .ok (.ireturn, 1) := by decide +kernel
theorem dX12_count__87 : decode cX12_count_ 87 = .ok (.aload_n 0, 1) := by decide +kernel
theorem dX12_count__88 : decode cX12_count_ 88 = .ok (.getfield 547, 3) := by decide +kernel
theorem dX12_count__91 : decode cX12_count_ 91 = .ok (.ireturn, 1) := by decide +kernel
theorem dX12_count__92 : decode cX12_count_ 92 = .ok (.iconst (-1), 1) := by decide +kernel
theorem dX12_count__93 : decode cX12_count_ 93 = .ok (.ireturn, 1) := by decide +kernel
theorem dJ11_isValidCodePoint_9a6ad_0 : decode cJ11_isValidCodePoint_9a6ad 0 = .ok (.iload_n 0, 1) := by decide +kernel
theorem dJ11_isValidCodePoint_9a6ad_1 : decode cJ11_isValidCodePoint_9a6ad 1 = .ok (.bipush 16, 2) := by decide +kernel
theorem dJ11_isValidCodePoint_9a6ad_3 : decode cJ11_isValidCodePoint_9a6ad 3 = .ok (.iushr, 1) := by decide +kernel
theorem dJ11_isValidCodePoint_9a6ad_4 : decode cJ11_isValidCodePoint_9a6ad 4 = .ok (.istore_n 1, 1) := by decide +kernel
theorem dJ11_isValidCodePoint_9a6ad_5 : decode cJ11_isValidCodePoint_9a6ad 5 = .ok (.iload_n 1, 1) := by decide +kernel
theorem dJ11_isValidCodePoint_9a6ad_6 : decode cJ11_isValidCodePoint_9a6ad 6 = .ok (.bipush 17, 2) := by decide +kernel
theorem dJ11_isValidCodePoint_9a6ad_8 : decode cJ11_isValidCodePoint_9a6ad 8 = .ok (.if_icmp .ge 7, 3) := by decide +kernel
theorem dJ11_isValidCodePoint_9a6ad_11 : decode cJ11_isValidCodePoint_9a6ad 11 = .ok (.iconst 1, 1) := by decide +kernel
theorem dJ11_isValidCodePoint_9a6ad_12 : decode cJ11_isValidCodePoint_9a6ad 12 = .ok (.goto 4, 3) := by decide +kernel
theorem dJ11_isValidCodePoint_9a6ad_15 : decode cJ11_isValidCodePoint_9a6ad 15 = .ok (.iconst 0, 1) := by decide +kernel
theorem dJ11_isValidCodePoint_9a6ad_16 : decode cJ11_isValidCodePoint_9a6ad 16 = .ok (.ireturn, 1) := by decide +kernel
theorem dJ11_highSurrogate_5068e_0 : decode cJ11_highSurrogate_5068e 0 = .ok (.iload_n 0, 1) := by decide +kernel
theorem dJ11_highSurrogate_5068e_1 : decode cJ11_highSurrogate_5068e 1 = .ok (.bipush 10, 2) := by decide +kernel
theorem dJ11_highSurrogate_5068e_3 : decode cJ11_highSurrogate_5068e 3 = .ok (.iushr, 1) := by decide +kernel
theorem dJ11_highSurrogate_5068e_4 : decode cJ11_highSurrogate_5068e 4 = .ok (.ldc 110, 2) := by decide +kernel
theorem dJ11_highSurrogate_5068e_6 : decode cJ11_highSurrogate_5068e 6 = .ok (.iadd, 1) := by decide +kernel
theorem dJ11_highSurrogate_5068e_7 : decode cJ11_highSurrogate_5068e 7 = .ok (.i2c, 1) := by decide +kernel
theorem dJ11_highSurrogate_5068e_8 : decode cJ11_highSurrogate_5068e 8 = .ok (.ireturn, 1) := by decide +kernel
theorem dJ11_lowSurrogate_5068e_0 : decode cJ11_lowSurrogate_5068e 0 = .ok (.iload_n 0, 1) := by decide +kernel
theorem dJ11_lowSurrogate_5068e_1 : decode cJ11_lowSurrogate_5068e 1 = .ok (.sipush 1023, 3) := by decide +kernel
theorem dJ11_lowSurrogate_5068e_4 : decode cJ11_lowSurrogate_5068e 4 = .ok (.iand, 1) := by decide +kernel
theorem dJ11_lowSurrogate_5068e_5 : decode cJ11_lowSurrogate_5068e 5 = .ok (.ldc 76, 2) := by decide +kernel
theorem dJ11_lowSurrogate_5068e_7 : decode cJ11_lowSurrogate_5068e 7 = .ok (.iadd, 1) := by decide +kernel
theorem dJ11_lowSurrogate_5068e_8 : decode cJ11_lowSurrogate_5068e 8 = .ok (.i2c, 1) := by decide +kernel
theorem dJ11_lowSurrogate_5068e_9 : decode cJ11_lowSurrogate_5068e 9 = .ok (.ireturn, 1) := by decide +kernel
theorem dJ9_max_7cf53_0 : decode cJ9_max_7cf53 0 = .ok (.iload_n 0, 1) := by decide +kernel
theorem dJ9_max_7cf53_1 : decode cJ9_max_7cf53 1 = .ok (.iload_n 1, 1) := by decide +kernel
theorem dJ9_max_7cf53_2 : decode cJ9_max_7cf53 2 = .ok (.if_icmp .lt 7, 3) := by decide +kernel
theorem dJ9_max_7cf53_5 : decode cJ9_max_7cf53 5 = .ok (.iload_n 0, 1) := by decide +kernel
theorem dJ9_max_7cf53_6 : decode cJ9_max_7cf53 6 = .ok (.goto 4, 3) := by decide +kernel
theorem dJ9_max_7cf53_9 : decode cJ9_max_7cf53 9 = .ok (.iload_n 1, 1) := by decide +kernel
theorem dJ9_max_7cf53_10 : decode cJ9_max_7cf53 10 = .ok (.ireturn, 1) := by decide +kernel
theorem dJ9_min_7cf53_0 : decode cJ9_min_7cf53 0 = .ok (.iload_n 0, 1) := by decide +kernel
theorem dJ9_min_7cf53_1 : decode cJ9_min_7cf53 1 = .ok (.iload_n 1, 1) := by decide +kernel
theorem dJ9_min_7cf53_2 : decode cJ9_min_7cf53 2 = .ok (.if_icmp .gt 7, 3) := by decide +kernel
theorem dJ9_min_7cf53_5 : decode cJ9_min_7cf53 5 = .ok (.iload_n 0, 1) := by decide +kernel
theorem dJ9_min_7cf53_6 : decode cJ9_min_7cf53 6 = .ok (.goto 4, 3) := by decide +kernel
theorem dJ9_min_7cf53_9 : decode cJ9_min_7cf53 9 = .ok (.iload_n 1, 1) := by decide +kernel
theorem dJ9_min_7cf53_10 : decode cJ9_min_7cf53 10 = .ok (.ireturn, 1) := by decide +kernel
theorem dJ0_length_8abf5_0 : decode cJ0_length_8abf5 0 = .ok (.aload_n 0, 1) := by decide +kernel
theorem dJ0_length_8abf5_1 : decode cJ0_length_8abf5 1 = .ok (.getfield 9, 3) := by decide +kernel
theorem dJ0_length_8abf5_4 : decode cJ0_length_8abf5 4 = .ok (.arraylength, 1) := by decide +kernel
theorem dJ0_length_8abf5_5 : decode cJ0_length_8abf5 5 = .ok (.aload_n 0, 1) := by decide +kernel
theorem dJ0_length_8abf5_6 : decode cJ0_length_8abf5 6 = .ok (.invokevirtual 335, 3) := by decide +kernel
theorem dJ0_length_8abf5_9 : decode cJ0_length_8abf5 9 = .ok (.ishr, 1) := by decide +kernel
theorem dJ0_length_8abf5_10 : decode cJ0_length_8abf5 10 = .ok (.ireturn, 1) := by decide +kernel
theorem dJ0_charAt_5068e_0 : decode cJ0_charAt_5068e 0 = .ok (.aload_n 0, 1) := by decide +kernel
theorem dJ0_charAt_5068e_1 : decode cJ0_charAt_5068e 1 = .ok (.invokevirtual 492, 3) := by decide +kernel
theorem dJ0_charAt_5068e_4 : decode cJ0_charAt_5068e 4 = .ok (.ifCond .eq 12, 3) := by decide +kernel
theorem dJ0_charAt_5068e_7 : decode cJ0_charAt_5068e 7 = .ok (.aload_n 0, 1) := by decide +kernel
theorem dJ0_charAt_5068e_8 : decode cJ0_charAt_5068e 8 = .ok (.getfield 9, 3) := by decide +kernel
theorem dJ0_charAt_5068e_11 : decode cJ0_charAt_5068e 11 = .ok (.iload_n 1, 1) := by decide +kernel
theorem dJ0_charAt_5068e_12 : decode cJ0_charAt_5068e 12 = .ok (.invokestatic 495, 3) := by decide +kernel
theorem dJ0_charAt_5068e_15 : decode cJ0_charAt_5068e 15 = .ok (.ireturn, 1) := by decide +kernel
theorem dJ0_charAt_5068e_16 : decode cJ0_charAt_5068e 16 = .ok (.aload_n 0, 1) := by decide +kernel
theorem dJ0_charAt_5068e_17 : decode cJ0_charAt_5068e 17 = .ok (.getfield 9, 3) := by decide +kernel
theorem dJ0_charAt_5068e_20 : decode cJ0_charAt_5068e 20 = .ok (.iload_n 1, 1) := by decide +kernel
theorem dJ0_charAt_5068e_21 : decode cJ0_charAt_5068e 21 = .ok (.invokestatic 498, 3) := by decide +kernel
theorem dJ0_charAt_5068e_24 : decode cJ0_charAt_5068e 24 = .ok (.ireturn, 1) := by decide +kernel
theorem dJ0_indexOf_0f7a4_0 : decode cJ0_indexOf_0f7a4 0 = .ok (.aload_n 0, 1) := by decide +kernel
theorem dJ0_indexOf_0f7a4_1 : decode cJ0_indexOf_0f7a4 1 = .ok (.iload_n 1, 1) := by decide +kernel
theorem dJ0_indexOf_0f7a4_2 : decode cJ0_indexOf_0f7a4 2 = .ok (.iconst 0, 1) := by decide +kernel
theorem dJ0_indexOf_0f7a4_3 : decode cJ0_indexOf_0f7a4 3 = .ok (.invokevirtual 633, 3) := by decide +kernel
theorem dJ0_indexOf_0f7a4_6 : decode cJ0_indexOf_0f7a4 6 = .ok (.ireturn, 1) := by decide +kernel
theorem dJ0_indexOf_7cf53_0 : decode cJ0_indexOf_7cf53 0 = .ok (.aload_n 0, 1) := by decide +kernel
theorem dJ0_indexOf_7cf53_1 : decode cJ0_indexOf_7cf53 1 = .ok (.invokevirtual 492, 3) := by decide +kernel
theorem dJ0_indexOf_7cf53_4 : decode cJ0_indexOf_7cf53 4 = .ok (.ifCond .eq 19, 3) := by decide +kernel
theorem dJ0_indexOf_7cf53_7 : decode cJ0_indexOf_7cf53 7 = .ok (.aload_n 0, 1) := by decide +kernel
theorem dJ0_indexOf_7cf53_8 : decode cJ0_indexOf_7cf53 8 = .ok (.getfield 9, 3) := by decide +kernel
theorem dJ0_indexOf_7cf53_11 : decode cJ0_indexOf_7cf53 11 = .ok (.iload_n 1, 1) := by decide +kernel
theorem dJ0_indexOf_7cf53_12 : decode cJ0_indexOf_7cf53 12 = .ok (.iload_n 2, 1) := by decide +kernel
theorem dJ0_indexOf_7cf53_13 : decode cJ0_indexOf_7cf53 13 = .ok (.aload_n 0, 1) := by decide +kernel
theorem dJ0_indexOf_7cf53_14 : decode cJ0_indexOf_7cf53 14 = .ok (.invokevirtual 505, 3) := by decide +kernel
theorem dJ0_indexOf_7cf53_17 : decode cJ0_indexOf_7cf53 17 = .ok (.invokestatic 637, 3) := by decide +kernel
theorem dJ0_indexOf_7cf53_20 : decode cJ0_indexOf_7cf53 20 = .ok (.goto 16, 3) := by decide +kernel
theorem dJ0_indexOf_7cf53_23 : decode cJ0_indexOf_7cf53 23 = .ok (.aload_n 0, 1) := by decide +kernel
theorem dJ0_indexOf_7cf53_24 : decode cJ0_indexOf_7cf53 24 = .ok (.getfield 9, 3) := by decide +kernel
theorem dJ0_indexOf_7cf53_27 : decode cJ0_indexOf_7cf53 27 = .ok (.iload_n 1, 1) := by decide +kernel
theorem dJ0_indexOf_7cf53_28 : decode cJ0_indexOf_7cf53 28 = .ok (.iload_n 2, 1) := by decide +kernel
theorem dJ0_indexOf_7cf53_29 : decode cJ0_indexOf_7cf53 29 = .ok (.aload_n 0, 1) := by decide +kernel
theorem dJ0_indexOf_7cf53_30 : decode cJ0_indexOf_7cf53 30 = .ok (.invokevirtual 505, 3) := by decide +kernel
theorem dJ0_indexOf_7cf53_33 : decode cJ0_indexOf_7cf53 33 = .ok (.invokestatic 640, 3) := by decide +kernel
theorem dJ0_indexOf_7cf53_36 : decode cJ0_indexOf_7cf53 36 = .ok (.ireturn, 1) := by decide +kernel
theorem dJ0_coder_7d493_0 : decode cJ0_coder_7d493 0 = .ok (.getstatic 38, 3) := by decide +kernel
theorem dJ0_coder_7d493_3 : decode cJ0_coder_7d493 3 = .ok (.ifCond .eq 10, 3) := by decide +kernel
theorem dJ0_coder_7d493_6 : decode cJ0_coder_7d493 6 = .ok (.aload_n 0, 1) := by decide +kernel
theorem dJ0_coder_7d493_7 : decode cJ0_coder_7d493 7 = .ok (.getfield 15, 3) := by decide +kernel
theorem dJ0_coder_7d493_10 : decode cJ0_coder_7d493 10 = .ok (.goto 4, 3) := by decide +kernel
theorem dJ0_coder_7d493_13 : decode cJ0_coder_7d493 13 = .ok (.iconst 1, 1) := by decide +kernel
theorem dJ0_coder_7d493_14 : decode cJ0_coder_7d493 14 = .ok (.ireturn, 1) := by decide +kernel
theorem dJ0_isLatin1_aae02_0 : decode cJ0_isLatin1_aae02 0 = .ok (.getstatic 38, 3) := by decide +kernel
theorem dJ0_isLatin1_aae02_3 : decode cJ0_isLatin1_aae02 3 = .ok (.ifCond .eq 14, 3) := by decide +kernel
theorem dJ0_isLatin1_aae02_6 : decode cJ0_isLatin1_aae02 6 = .ok (.aload_n 0, 1) := by decide +kernel
theorem dJ0_isLatin1_aae02_7 : decode cJ0_isLatin1_aae02 7 = .ok (.getfield 15, 3) := by decide +kernel
theorem dJ0_isLatin1_aae02_10 : decode cJ0_isLatin1_aae02 10 = .ok (.ifCond .ne 7, 3) := by decide +kernel
theorem dJ0_isLatin1_aae02_13 : decode cJ0_isLatin1_aae02 13 = .ok (.iconst 1, 1) := by decide +kernel
theorem dJ0_isLatin1_aae02_14 : decode cJ0_isLatin1_aae02 14 = .ok (.goto 4, 3) := by decide +kernel
theorem dJ0_isLatin1_aae02_17 : decode cJ0_isLatin1_aae02 17 = .ok (.iconst 0, 1) := by decide +kernel
theorem dJ0_isLatin1_aae02_18 : decode cJ0_isLatin1_aae02 18 = .ok (.ireturn, 1) := by decide +kernel
theorem dJ0_checkIndex_df160_0 : decode cJ0_checkIndex_df160 0 = .ok (.iload_n 0, 1) := by decide +kernel
theorem dJ0_checkIndex_df160_1 : decode cJ0_checkIndex_df160 1 = .ok (.iload_n 1, 1) := by decide +kernel
theorem dJ0_checkIndex_df160_2 : decode cJ0_checkIndex_df160 2 = .ok (.getstatic 1053, 3) := by decide +kernel
theorem dJ0_checkIndex_df160_5 : decode cJ0_checkIndex_df160 5 = .ok (.invokestatic 1059, 3) := by decide +kernel
theorem dJ0_checkIndex_df160_8 : decode cJ0_checkIndex_df160 8 = .ok (.pop, 1) := by decide +kernel
theorem dJ0_checkIndex_df160_9 : decode cJ0_checkIndex_df160 9 = .ok (.return_, 1) := by decide +kernel
theorem dJ0_checkBoundsBeginEnd_23922_0 : decode cJ0_checkBoundsBeginEnd_23922 0 = .ok (.iload_n 0, 1) := by decide +kernel
theorem dJ0_checkBoundsBeginEnd_23922_1 : decode cJ0_checkBoundsBeginEnd_23922 1 = .ok (.iload_n 1, 1) := by decide +kernel
theorem dJ0_checkBoundsBeginEnd_23922_2 : decode cJ0_checkBoundsBeginEnd_23922 2 = .ok (.iload_n 2, 1) := by decide +kernel
theorem dJ0_checkBoundsBeginEnd_23922_3 : decode cJ0_checkBoundsBeginEnd_23922 3 = .ok (.getstatic 1053, 3) := by decide +kernel
theorem dJ0_checkBoundsBeginEnd_23922_6 : decode cJ0_checkBoundsBeginEnd_23922 6 = .ok (.invokestatic 1062, 3) := by decide +kernel
theorem dJ0_checkBoundsBeginEnd_23922_9 : decode cJ0_checkBoundsBeginEnd_23922 9 = .ok (.pop, 1) := by decide +kernel
theorem dJ0_checkBoundsBeginEnd_23922_10 : decode cJ0_checkBoundsBeginEnd_23922 10 = .ok (.return_, 1) := by decide +kernel
theorem dJ1_charAt_3b067_0 : decode cJ1_charAt_3b067 0 = .ok (.iload_n 1, 1) := by decide +kernel
theorem dJ1_charAt_3b067_1 : decode cJ1_charAt_3b067 1 = .ok (.aload_n 0, 1) := by decide +kernel
theorem dJ1_charAt_3b067_2 : decode cJ1_charAt_3b067 2 = .ok (.arraylength, 1) := by decide +kernel
theorem dJ1_charAt_3b067_3 : decode cJ1_charAt_3b067 3 = .ok (.invokestatic 9, 3) := by decide +kernel
theorem dJ1_charAt_3b067_6 : decode cJ1_charAt_3b067 6 = .ok (.aload_n 0, 1) := by decide +kernel
theorem dJ1_charAt_3b067_7 : decode cJ1_charAt_3b067 7 = .ok (.iload_n 1, 1) := by decide +kernel
theorem dJ1_charAt_3b067_8 : decode cJ1_charAt_3b067 8 = .ok (.baload, 1) := by decide +kernel
theorem dJ1_charAt_3b067_9 : decode cJ1_charAt_3b067 9 = .ok (.sipush 255, 3) := by decide +kernel
theorem dJ1_charAt_3b067_12 : decode cJ1_charAt_3b067 12 = .ok (.iand, 1) := by decide +kernel
theorem dJ1_charAt_3b067_13 : decode cJ1_charAt_3b067 13 = .ok (.i2c, 1) := by decide +kernel
theorem dJ1_charAt_3b067_14 : decode cJ1_charAt_3b067 14 = .ok (.ireturn, 1) := by decide +kernel
theorem dJ1_canEncode_9a6ad_0 : decode cJ1_canEncode_9a6ad 0 = .ok (.iload_n 0, 1) := by decide +kernel
theorem dJ1_canEncode_9a6ad_1 : decode cJ1_canEncode_9a6ad 1 = .ok (.ifCond .lt 14, 3) := by decide +kernel
theorem dJ1_canEncode_9a6ad_4 : decode cJ1_canEncode_9a6ad 4 = .ok (.iload_n 0, 1) := by decide +kernel
theorem dJ1_canEncode_9a6ad_5 : decode cJ1_canEncode_9a6ad 5 = .ok (.sipush 255, 3) := by decide +kernel
theorem dJ1_canEncode_9a6ad_8 : decode cJ1_canEncode_9a6ad 8 = .ok (.if_icmp .gt 7, 3) := by decide +kernel
theorem dJ1_canEncode_9a6ad_11 : decode cJ1_canEncode_9a6ad 11 = .ok (.iconst 1, 1) := by decide +kernel
theorem dJ1_canEncode_9a6ad_12 : decode cJ1_canEncode_9a6ad 12 = .ok (.goto 4, 3) := by decide +kernel
theorem dJ1_canEncode_9a6ad_15 : decode cJ1_canEncode_9a6ad 15 = .ok (.iconst 0, 1) := by decide +kernel
theorem dJ1_canEncode_9a6ad_16 : decode cJ1_canEncode_9a6ad 16 = .ok (.ireturn, 1) := by decide +kernel
theorem dJ1_indexOf_4cfef_0 : decode cJ1_indexOf_4cfef 0 = .ok (.iload_n 1, 1) := by decide +kernel
theorem dJ1_indexOf_4cfef_1 : decode cJ1_indexOf_4cfef 1 = .ok (.invokestatic 88, 3) := by decide +kernel
theorem dJ1_indexOf_4cfef_4 : decode cJ1_indexOf_4cfef 4 = .ok (.ifCond .ne 5, 3) := by decide +kernel
theorem dJ1_indexOf_4cfef_7 : decode cJ1_indexOf_4cfef 7 = .ok (.iconst (-1), 1) := by decide +kernel
theorem dJ1_indexOf_4cfef_8 : decode cJ1_indexOf_4cfef 8 = .ok (.ireturn, 1) := by decide +kernel
theorem dJ1_indexOf_4cfef_9 : decode cJ1_indexOf_4cfef 9 = .ok (.iload_n 2, 1) := by decide +kernel
theorem dJ1_indexOf_4cfef_10 : decode cJ1_indexOf_4cfef 10 = .ok (.iconst 0, 1) := by decide +kernel
theorem dJ1_indexOf_4cfef_11 : decode cJ1_indexOf_4cfef 11 = .ok (.invokestatic 92, 3) := by decide +kernel
theorem dJ1_indexOf_4cfef_14 : decode cJ1_indexOf_4cfef 14 = .ok (.istore_n 2, 1) := by decide +kernel
theorem dJ1_indexOf_4cfef_15 : decode cJ1_indexOf_4cfef 15 = .ok (.iload_n 3, 1) := by decide +kernel
theorem dJ1_indexOf_4cfef_16 : decode cJ1_indexOf_4cfef 16 = .ok (.aload_n 0, 1) := by decide +kernel
theorem dJ1_indexOf_4cfef_17 : decode cJ1_indexOf_4cfef 17 = .ok (.arraylength, 1) := by decide +kernel
theorem dJ1_indexOf_4cfef_18 : decode cJ1_indexOf_4cfef 18 = .ok (.invokestatic 38, 3) := by decide +kernel
theorem dJ1_indexOf_4cfef_21 : decode cJ1_indexOf_4cfef 21 = .ok (.istore_n 3, 1) := by decide +kernel
theorem dJ1_indexOf_4cfef_22 : decode cJ1_indexOf_4cfef 22 = .ok (.iload_n 2, 1) := by decide +kernel
theorem dJ1_indexOf_4cfef_23 : decode cJ1_indexOf_4cfef 23 = .ok (.iload_n 3, 1) := by decide +kernel
theorem dJ1_indexOf_4cfef_24 : decode cJ1_indexOf_4cfef 24 = .ok (.if_icmp .lt 5, 3) := by decide +kernel
theorem dJ1_indexOf_4cfef_27 : decode cJ1_indexOf_4cfef 27 = .ok (.iconst (-1), 1) := by decide +kernel
theorem dJ1_indexOf_4cfef_28 : decode cJ1_indexOf_4cfef 28 = .ok (.ireturn, 1) := by decide +kernel
theorem dJ1_indexOf_4cfef_29 : decode cJ1_indexOf_4cfef 29 = .ok (.aload_n 0, 1) := by decide +kernel
theorem dJ1_indexOf_4cfef_30 : decode cJ1_indexOf_4cfef 30 = .ok (.iload_n 1, 1) := by decide +kernel
theorem dJ1_indexOf_4cfef_31 : decode cJ1_indexOf_4cfef 31 = .ok (.iload_n 2, 1) := by decide +kernel
theorem dJ1_indexOf_4cfef_32 : decode cJ1_indexOf_4cfef 32 = .ok (.iload_n 3, 1) := by decide +kernel
theorem dJ1_indexOf_4cfef_33 : decode cJ1_indexOf_4cfef 33 = .ok (.invokestatic 95, 3) := by decide +kernel
theorem dJ1_indexOf_4cfef_36 : decode cJ1_indexOf_4cfef 36 = .ok (.ireturn, 1) := by decide +kernel
theorem dJ1_indexOfChar_4cfef_0 : decode cJ1_indexOfChar_4cfef 0 = .ok (.iload_n 1, 1) := by decide +kernel
theorem dJ1_indexOfChar_4cfef_1 : decode cJ1_indexOfChar_4cfef 1 = .ok (.i2b, 1) := by decide +kernel
theorem dJ1_indexOfChar_4cfef_2 : decode cJ1_indexOfChar_4cfef 2 = .ok (.istore 4, 2) := by decide +kernel
theorem dJ1_indexOfChar_4cfef_4 : decode cJ1_indexOfChar_4cfef 4 = .ok (.iload_n 2, 1) := by decide +kernel
theorem dJ1_indexOfChar_4cfef_5 : decode cJ1_indexOfChar_4cfef 5 = .ok (.istore 5, 2) := by decide +kernel
theorem dJ1_indexOfChar_4cfef_7 : decode cJ1_indexOfChar_4cfef 7 = .ok (.iload 5, 2) := by decide +kernel
theorem dJ1_indexOfChar_4cfef_9 : decode cJ1_indexOfChar_4cfef 9 = .ok (.iload_n 3, 1) := by decide +kernel
theorem dJ1_indexOfChar_4cfef_10 : decode cJ1_indexOfChar_4cfef 10 = .ok (.if_icmp .ge 21, 3) := by decide +kernel
theorem dJ1_indexOfChar_4cfef_13 : decode cJ1_indexOfChar_4cfef 13 = .ok (.aload_n 0, 1) := by decide +kernel
theorem dJ1_indexOfChar_4cfef_14 : decode cJ1_indexOfChar_4cfef 14 = .ok (.iload 5, 2) := by decide +kernel
theorem dJ1_indexOfChar_4cfef_16 : decode cJ1_indexOfChar_4cfef 16 = .ok (.baload, 1) := by decide +kernel
theorem dJ1_indexOfChar_4cfef_17 : decode cJ1_indexOfChar_4cfef 17 = .ok (.iload 4, 2) := by decide +kernel
theorem dJ1_indexOfChar_4cfef_19 : decode cJ1_indexOfChar_4cfef 19 = .ok (.if_icmp .ne 6, 3) := by decide +kernel
theorem dJ1_indexOfChar_4cfef_22 : decode cJ1_indexOfChar_4cfef 22 = .ok (.iload 5, 2) := by decide +kernel

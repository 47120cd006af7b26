theorem d_Mod_pack_176 : decode b_Mod_pack 176 = .ok (.iconst 0, 1) := by decide +kernel
theorem d_Mod_pack_177 : decode b_Mod_pack 177 = .ok (.putfield 122, 3) := by decide +kernel
theorem d_Mod_pack_180 : decode b_Mod_pack 180 = .ok (.iconst 0, 1) := by decide +kernel
theorem d_Mod_pack_181 : decode b_Mod_pack 181 = .ok (.istore 7, 2) := by decide +kernel
theorem d_Mod_pack_183 : decode b_Mod_pack 183 = .ok (.iload 7, 2) := by decide +kernel
theorem d_Mod_pack_185 : decode b_Mod_pack 185 = .ok (.bipush 64, 2) := by decide +kernel
theorem d_Mod_pack_187 : decode b_Mod_pack 187 = .ok (.if_icmp .ge 96, 3) := by decide +kernel
theorem d_Mod_pack_190 : decode b_Mod_pack 190 = .ok (.aload_n 0, 1) := by decide +kernel
theorem d_Mod_pack_191 : decode b_Mod_pack 191 = .ok (.getfield 116, 3) := by decide +kernel
theorem d_Mod_pack_194 : decode b_Mod_pack 194 = .ok (.iload 7, 2) := by decide +kernel
theorem d_Mod_pack_196 : decode b_Mod_pack 196 = .ok (.invokestatic 352, 3) := by decide +kernel
theorem d_Mod_pack_199 : decode b_Mod_pack 199 = .ok (.laload, 1) := by decide +kernel
theorem d_Mod_pack_200 : decode b_Mod_pack 200 = .ok (.lstore 8, 2) := by decide +kernel
theorem d_Mod_pack_202 : decode b_Mod_pack 202 = .ok (.aload_n 0, 1) := by decide +kernel
theorem d_Mod_pack_203 : decode b_Mod_pack 203 = .ok (.getfield 119, 3) := by decide +kernel
theorem d_Mod_pack_206 : decode b_Mod_pack 206 = .ok (.iload 7, 2) := by decide +kernel
theorem d_Mod_pack_208 : decode b_Mod_pack 208 = .ok (.invokestatic 352, 3) := by decide +kernel
theorem d_Mod_pack_211 : decode b_Mod_pack 211 = .ok (.lload 8, 2) := by decide +kernel
theorem d_Mod_pack_213 : decode b_Mod_pack 213 = .ok (.ldc2_w 137, 3) := by decide +kernel
theorem d_Mod_pack_216 : decode b_Mod_pack 216 = .ok (.lcmp, 1) := by decide +kernel
theorem d_Mod_pack_217 : decode b_Mod_pack 217 = .ok (.ifCond .ne 9, 3) := by decide +kernel
theorem d_Mod_pack_220 : decode b_Mod_pack 220 = .ok (.ldc2_w 137, 3) := by decide +kernel
theorem d_Mod_pack_223 : decode b_Mod_pack 223 = .ok (.goto 15, 3) := by decide +kernel
theorem d_Mod_pack_226 : decode b_Mod_pack 226 = .ok (.lload_n 2, 1) := by decide +kernel
theorem d_Mod_pack_227 : decode b_Mod_pack 227 = .ok (.lload 8, 2) := by decide +kernel
theorem d_Mod_pack_229 : decode b_Mod_pack 229 = .ok (.lload_n 2, 1) := by decide +kernel
theorem d_Mod_pack_230 : decode b_Mod_pack 230 = .ok (.lsub, 1) := by decide +kernel
theorem d_Mod_pack_231 : decode b_Mod_pack 231 = .ok (.iload 6, 2) := by decide +kernel
theorem d_Mod_pack_233 : decode b_Mod_pack 233 = .ok (.lshr, 1) := by decide +kernel
theorem d_Mod_pack_234 : decode b_Mod_pack 234 = .ok (.iload 6, 2) := by decide +kernel
theorem d_Mod_pack_236 : decode b_Mod_pack 236 = .ok (.lshl, 1) := by decide +kernel
theorem d_Mod_pack_237 : decode b_Mod_pack 237 = .ok (.ladd, 1) := by decide +kernel
theorem d_Mod_pack_238 : decode b_Mod_pack 238 = .ok (.lastore, 1) := by decide +kernel
theorem d_Mod_pack_239 : decode b_Mod_pack 239 = .ok (.lload 8, 2) := by decide +kernel
theorem d_Mod_pack_241 : decode b_Mod_pack 241 = .ok (.ldc2_w 137, 3) := by decide +kernel
theorem d_Mod_pack_244 : decode b_Mod_pack 244 = .ok (.lcmp, 1) := by decide +kernel
theorem d_Mod_pack_245 : decode b_Mod_pack 245 = .ok (.ifCond .ne 6, 3) := by decide +kernel
theorem d_Mod_pack_248 : decode b_Mod_pack 248 = .ok (.goto 29, 3) := by decide +kernel
theorem d_Mod_pack_251 : decode b_Mod_pack 251 = .ok (.aload_n 0, 1) := by decide +kernel
theorem d_Mod_pack_252 : decode b_Mod_pack 252 = .ok (.getfield 125, 3) := by decide +kernel
theorem d_Mod_pack_255 : decode b_Mod_pack 255 = .ok (.aload_n 0, 1) := by decide +kernel
theorem d_Mod_pack_256 : decode b_Mod_pack 256 = .ok (.getfield 122, 3) := by decide +kernel
theorem d_Mod_pack_259 : decode b_Mod_pack 259 = .ok (.lload 8, 2) := by decide +kernel
theorem d_Mod_pack_261 : decode b_Mod_pack 261 = .ok (.lload_n 2, 1) := by decide +kernel
theorem d_Mod_pack_262 : decode b_Mod_pack 262 = .ok (.lsub, 1) := by decide +kernel
theorem d_Mod_pack_263 : decode b_Mod_pack 263 = .ok (.iload 6, 2) := by decide +kernel
theorem d_Mod_pack_265 : decode b_Mod_pack 265 = .ok (.lshr, 1) := by decide +kernel
theorem d_Mod_pack_266 : decode b_Mod_pack 266 = .ok (.lastore, 1) := by decide +kernel
theorem d_Mod_pack_267 : decode b_Mod_pack 267 = .ok (.aload_n 0, 1) := by decide +kernel
theorem d_Mod_pack_268 : decode b_Mod_pack 268 = .ok (.dup, 1) := by decide +kernel
theorem d_Mod_pack_269 : decode b_Mod_pack 269 = .ok (.getfield 122, 3) := by decide +kernel
theorem d_Mod_pack_272 : decode b_Mod_pack 272 = .ok (.iconst 1, 1) := by decide +kernel
theorem d_Mod_pack_273 : decode b_Mod_pack 273 = .ok (.iadd, 1) := by decide +kernel
theorem d_Mod_pack_274 : decode b_Mod_pack 274 = .ok (.putfield 122, 3) := by decide +kernel
theorem d_Mod_pack_277 : decode b_Mod_pack 277 = .ok (.iinc 7 1, 3) := by decide +kernel
theorem d_Mod_pack_280 : decode b_Mod_pack 280 = .ok (.goto (-97), 3) := by decide +kernel
theorem d_Mod_pack_283 : decode b_Mod_pack 283 = .ok (.aload_n 0, 1) := by decide +kernel
theorem d_Mod_pack_284 : decode b_Mod_pack 284 = .ok (.getfield 128, 3) := by decide +kernel
theorem d_Mod_pack_287 : decode b_Mod_pack 287 = .ok (.aload_n 0, 1) := by decide +kernel
theorem d_Mod_pack_288 : decode b_Mod_pack 288 = .ok (.getfield 122, 3) := by decide +kernel
theorem d_Mod_pack_291 : decode b_Mod_pack 291 = .ok (.lconst 0, 1) := by decide +kernel
theorem d_Mod_pack_292 : decode b_Mod_pack 292 = .ok (.lastore, 1) := by decide +kernel
theorem d_Mod_pack_293 : decode b_Mod_pack 293 = .ok (.aload_n 0, 1) := by decide +kernel
theorem d_Mod_pack_294 : decode b_Mod_pack 294 = .ok (.getfield 122, 3) := by decide +kernel
theorem d_Mod_pack_297 : decode b_Mod_pack 297 = .ok (.iconst 1, 1) := by decide +kernel
theorem d_Mod_pack_298 : decode b_Mod_pack 298 = .ok (.isub, 1) := by decide +kernel
theorem d_Mod_pack_299 : decode b_Mod_pack 299 = .ok (.istore 7, 2) := by decide +kernel
theorem d_Mod_pack_301 : decode b_Mod_pack 301 = .ok (.iload 7, 2) := by decide +kernel
theorem d_Mod_pack_303 : decode b_Mod_pack 303 = .ok (.ifCond .lt 178, 3) := by decide +kernel
theorem d_Mod_pack_306 : decode b_Mod_pack 306 = .ok (.aload_n 0, 1) := by decide +kernel
theorem d_Mod_pack_307 : decode b_Mod_pack 307 = .ok (.getfield 125, 3) := by decide +kernel
theorem d_Mod_pack_310 : decode b_Mod_pack 310 = .ok (.iload 7, 2) := by decide +kernel
theorem d_Mod_pack_312 : decode b_Mod_pack 312 = .ok (.laload, 1) := by decide +kernel
theorem d_Mod_pack_313 : decode b_Mod_pack 313 = .ok (.lstore 8, 2) := by decide +kernel
theorem d_Mod_pack_315 : decode b_Mod_pack 315 = .ok (.aload_n 0, 1) := by decide +kernel
theorem d_Mod_pack_316 : decode b_Mod_pack 316 = .ok (.getfield 125, 3) := by decide +kernel
theorem d_Mod_pack_319 : decode b_Mod_pack 319 = .ok (.iload 7, 2) := by decide +kernel
theorem d_Mod_pack_321 : decode b_Mod_pack 321 = .ok (.laload, 1) := by decide +kernel
theorem d_Mod_pack_322 : decode b_Mod_pack 322 = .ok (.lstore 10, 2) := by decide +kernel
theorem d_Mod_pack_324 : decode b_Mod_pack 324 = .ok (.iload 7, 2) := by decide +kernel
theorem d_Mod_pack_326 : decode b_Mod_pack 326 = .ok (.istore 12, 2) := by decide +kernel
theorem d_Mod_pack_328 : decode b_Mod_pack 328 = .ok (.iload 12, 2) := by decide +kernel
theorem d_Mod_pack_330 : decode b_Mod_pack 330 = .ok (.aload_n 0, 1) := by decide +kernel
theorem d_Mod_pack_331 : decode b_Mod_pack 331 = .ok (.getfield 122, 3) := by decide +kernel
theorem d_Mod_pack_334 : decode b_Mod_pack 334 = .ok (.if_icmp .ge 141, 3) := by decide +kernel
theorem d_Mod_pack_337 : decode b_Mod_pack 337 = .ok (.aload_n 0, 1) := by decide +kernel
theorem d_Mod_pack_338 : decode b_Mod_pack 338 = .ok (.getfield 125, 3) := by decide +kernel
theorem d_Mod_pack_341 : decode b_Mod_pack 341 = .ok (.iload 12, 2) := by decide +kernel
theorem d_Mod_pack_343 : decode b_Mod_pack 343 = .ok (.laload, 1) := by decide +kernel
theorem d_Mod_pack_344 : decode b_Mod_pack 344 = .ok (.lload 8, 2) := by decide +kernel
theorem d_Mod_pack_346 : decode b_Mod_pack 346 = .ok (.lcmp, 1) := by decide +kernel
theorem d_Mod_pack_347 : decode b_Mod_pack 347 = .ok (.ifCond .ge 13, 3) := by decide +kernel
theorem d_Mod_pack_350 : decode b_Mod_pack 350 = .ok (.aload_n 0, 1) := by decide +kernel
theorem d_Mod_pack_351 : decode b_Mod_pack 351 = .ok (.getfield 125, 3) := by decide +kernel
theorem d_Mod_pack_354 : decode b_Mod_pack 354 = .ok (.iload 12, 2) := by decide +kernel
theorem d_Mod_pack_356 : decode b_Mod_pack 356 = .ok (.laload, 1) := by decide +kernel
theorem d_Mod_pack_357 : decode b_Mod_pack 357 = .ok (.goto 5, 3) := by decide +kernel
theorem d_Mod_pack_360 : decode b_Mod_pack 360 = .ok (.lload 8, 2) := by decide +kernel
theorem d_Mod_pack_362 : decode b_Mod_pack 362 = .ok (.lstore 8, 2) := by decide +kernel
theorem d_Mod_pack_364 : decode b_Mod_pack 364 = .ok (.aload_n 0, 1) := by decide +kernel
theorem d_Mod_pack_365 : decode b_Mod_pack 365 = .ok (.getfield 125, 3) := by decide +kernel
theorem d_Mod_pack_368 : decode b_Mod_pack 368 = .ok (.iload 12, 2) := by decide +kernel
theorem d_Mod_pack_370 : decode b_Mod_pack 370 = .ok (.laload, 1) := by decide +kernel
theorem d_Mod_pack_371 : decode b_Mod_pack 371 = .ok (.lload 10, 2) := by decide +kernel
theorem d_Mod_pack_373 : decode b_Mod_pack 373 = .ok (.lcmp, 1) := by decide +kernel
theorem d_Mod_pack_374 : decode b_Mod_pack 374 = .ok (.ifCond .le 13, 3) := by decide +kernel
theorem d_Mod_pack_377 : decode b_Mod_pack 377 = .ok (.aload_n 0, 1) := by decide +kernel
theorem d_Mod_pack_378 : decode b_Mod_pack 378 = .ok (.getfield 125, 3) := by decide +kernel
theorem d_Mod_pack_381 : decode b_Mod_pack 381 = .ok (.iload 12, 2) := by decide +kernel
theorem d_Mod_pack_383 : decode b_Mod_pack 383 = .ok (.laload, 1) := by decide +kernel
theorem d_Mod_pack_384 : decode b_Mod_pack 384 = .ok (.goto 5, 3) := by decide +kernel
theorem d_Mod_pack_387 : decode b_Mod_pack 387 = .ok (.lload 10, 2) := by decide +kernel
theorem d_Mod_pack_389 : decode b_Mod_pack 389 = .ok (.lstore 10, 2) := by decide +kernel
theorem d_Mod_pack_391 : decode b_Mod_pack 391 = .ok (.iload_n 1, 1) := by decide +kernel
theorem d_Mod_pack_392 : decode b_Mod_pack 392 = .ok (.i2l, 1) := by decide +kernel
theorem d_Mod_pack_393 : decode b_Mod_pack 393 = .ok (.ldc2_w 355, 3) := by decide +kernel
theorem d_Mod_pack_396 : decode b_Mod_pack 396 = .ok (.ladd, 1) := by decide +kernel
theorem d_Mod_pack_397 : decode b_Mod_pack 397 = .ok (.iload 12, 2) := by decide +kernel
theorem d_Mod_pack_399 : decode b_Mod_pack 399 = .ok (.i2l, 1) := by decide +kernel
theorem d_Mod_pack_400 : decode b_Mod_pack 400 = .ok (.lconst 1, 1) := by decide +kernel
theorem d_Mod_pack_401 : decode b_Mod_pack 401 = .ok (.ladd, 1) := by decide +kernel
theorem d_Mod_pack_402 : decode b_Mod_pack 402 = .ok (.iload 7, 2) := by decide +kernel
theorem d_Mod_pack_404 : decode b_Mod_pack 404 = .ok (.i2l, 1) := by decide +kernel
theorem d_Mod_pack_405 : decode b_Mod_pack 405 = .ok (.lsub, 1) := by decide +kernel
theorem d_Mod_pack_406 : decode b_Mod_pack 406 = .ok (.lload 10, 2) := by decide +kernel
theorem d_Mod_pack_408 : decode b_Mod_pack 408 = .ok (.lload 8, 2) := by decide +kernel
theorem d_Mod_pack_410 : decode b_Mod_pack 410 = .ok (.lsub, 1) := by decide +kernel
theorem d_Mod_pack_411 : decode b_Mod_pack 411 = .ok (.invokestatic 357, 3) := by decide +kernel
theorem d_Mod_pack_414 : decode b_Mod_pack 414 = .ok (.i2l, 1) := by decide +kernel
theorem d_Mod_pack_415 : decode b_Mod_pack 415 = .ok (.lmul, 1) := by decide +kernel
theorem d_Mod_pack_416 : decode b_Mod_pack 416 = .ok (.ladd, 1) := by decide +kernel
theorem d_Mod_pack_417 : decode b_Mod_pack 417 = .ok (.aload_n 0, 1) := by decide +kernel
theorem d_Mod_pack_418 : decode b_Mod_pack 418 = .ok (.getfield 128, 3) := by decide +kernel
theorem d_Mod_pack_421 : decode b_Mod_pack 421 = .ok (.iload 12, 2) := by decide +kernel
theorem d_Mod_pack_423 : decode b_Mod_pack 423 = .ok (.iconst 1, 1) := by decide +kernel
theorem d_Mod_pack_424 : decode b_Mod_pack 424 = .ok (.iadd, 1) := by decide +kernel
theorem d_Mod_pack_425 : decode b_Mod_pack 425 = .ok (.laload, 1) := by decide +kernel
theorem d_Mod_pack_426 : decode b_Mod_pack 426 = .ok (.ladd, 1) := by decide +kernel
theorem d_Mod_pack_427 : decode b_Mod_pack 427 = .ok (.lstore 13, 2) := by decide +kernel
theorem d_Mod_pack_429 : decode b_Mod_pack 429 = .ok (.iload 12, 2) := by decide +kernel
theorem d_Mod_pack_431 : decode b_Mod_pack 431 = .ok (.iload 7, 2) := by decide +kernel
theorem d_Mod_pack_433 : decode b_Mod_pack 433 = .ok (.if_icmp .eq 16, 3) := by decide +kernel
theorem d_Mod_pack_436 : decode b_Mod_pack 436 = .ok (.lload 13, 2) := by decide +kernel
theorem d_Mod_pack_438 : decode b_Mod_pack 438 = .ok (.aload_n 0, 1) := by decide +kernel
theorem d_Mod_pack_439 : decode b_Mod_pack 439 = .ok (.getfield 128, 3) := by decide +kernel
theorem d_Mod_pack_442 : decode b_Mod_pack 442 = .ok (.iload 7, 2) := by decide +kernel
theorem d_Mod_pack_444 : decode b_Mod_pack 444 = .ok (.laload, 1) := by decide +kernel
theorem d_Mod_pack_445 : decode b_Mod_pack 445 = .ok (.lcmp, 1) := by decide +kernel
theorem d_Mod_pack_446 : decode b_Mod_pack 446 = .ok (.ifCond .gt 23, 3) := by decide +kernel
theorem d_Mod_pack_449 : decode b_Mod_pack 449 = .ok (.aload_n 0, 1) := by decide +kernel
theorem d_Mod_pack_450 : decode b_Mod_pack 450 = .ok (.getfield 128, 3) := by decide +kernel
theorem d_Mod_pack_453 : decode b_Mod_pack 453 = .ok (.iload 7, 2) := by decide +kernel
theorem d_Mod_pack_455 : decode b_Mod_pack 455 = .ok (.lload 13, 2) := by decide +kernel
theorem d_Mod_pack_457 : decode b_Mod_pack 457 = .ok (.lastore, 1) := by decide +kernel
theorem d_Mod_pack_458 : decode b_Mod_pack 458 = .ok (.aload_n 0, 1) := by decide +kernel
theorem d_Mod_pack_459 : decode b_Mod_pack 459 = .ok (.getfield 131, 3) := by decide +kernel
theorem d_Mod_pack_462 : decode b_Mod_pack 462 = .ok (.iload 7, 2) := by decide +kernel
theorem d_Mod_pack_464 : decode b_Mod_pack 464 = .ok (.iload 12, 2) := by decide +kernel
theorem d_Mod_pack_466 : decode b_Mod_pack 466 = .ok (.iconst 1, 1) := by decide +kernel
theorem d_Mod_pack_467 : decode b_Mod_pack 467 = .ok (.iadd, 1) := by decide +kernel
theorem d_Mod_pack_468 : decode b_Mod_pack 468 = .ok (.iastore, 1) := by decide +kernel
theorem d_Mod_pack_469 : decode b_Mod_pack 469 = .ok (.iinc 12 1, 3) := by decide +kernel
theorem d_Mod_pack_472 : decode b_Mod_pack 472 = .ok (.goto (-144), 3) := by decide +kernel
theorem d_Mod_pack_475 : decode b_Mod_pack 475 = .ok (.iinc 7 (-1), 3) := by decide +kernel
theorem d_Mod_pack_478 : decode b_Mod_pack 478 = .ok (.goto (-177), 3) := by decide +kernel
theorem d_Mod_pack_481 : decode b_Mod_pack 481 = .ok (.aload_n 0, 1) := by decide +kernel
theorem d_Mod_pack_482 : decode b_Mod_pack 482 = .ok (.iconst 0, 1) := by decide +kernel
theorem d_Mod_pack_483 : decode b_Mod_pack 483 = .ok (.putfield 361, 3) := by decide +kernel
theorem d_Mod_pack_486 : decode b_Mod_pack 486 = .ok (.iconst 0, 1) := by decide +kernel
theorem d_Mod_pack_487 : decode b_Mod_pack 487 = .ok (.istore 7, 2) := by decide +kernel
theorem d_Mod_pack_489 : decode b_Mod_pack 489 = .ok (.iload 7, 2) := by decide +kernel
theorem d_Mod_pack_491 : decode b_Mod_pack 491 = .ok (.aload_n 0, 1) := by decide +kernel
theorem d_Mod_pack_492 : decode b_Mod_pack 492 = .ok (.getfield 122, 3) := by decide +kernel
theorem d_Mod_pack_495 : decode b_Mod_pack 495 = .ok (.if_icmp .ge 41, 3) := by decide +kernel
theorem d_Mod_pack_498 : decode b_Mod_pack 498 = .ok (.aload_n 0, 1) := by decide +kernel
theorem d_Mod_pack_499 : decode b_Mod_pack 499 = .ok (.getfield 134, 3) := by decide +kernel
theorem d_Mod_pack_502 : decode b_Mod_pack 502 = .ok (.aload_n 0, 1) := by decide +kernel
theorem d_Mod_pack_503 : decode b_Mod_pack 503 = .ok (.getfield 361, 3) := by decide +kernel
theorem d_Mod_pack_506 : decode b_Mod_pack 506 = .ok (.aload_n 0, 1) := by decide +kernel
theorem d_Mod_pack_507 : decode b_Mod_pack 507 = .ok (.getfield 131, 3) := by decide +kernel
theorem d_Mod_pack_510 : decode b_Mod_pack 510 = .ok (.iload 7, 2) := by decide +kernel
theorem d_Mod_pack_512 : decode b_Mod_pack 512 = .ok (.iaload, 1) := by decide +kernel
theorem d_Mod_pack_513 : decode b_Mod_pack 513 = .ok (.iastore, 1) := by decide +kernel
theorem d_Mod_pack_514 : decode b_Mod_pack 514 = .ok (.aload_n 0, 1) := by decide +kernel
theorem d_Mod_pack_515 : decode b_Mod_pack 515 = .ok (.dup, 1) := by decide +kernel
theorem d_Mod_pack_516 : decode b_Mod_pack 516 = .ok (.getfield 361, 3) := by decide +kernel
theorem d_Mod_pack_519 : decode b_Mod_pack 519 = .ok (.iconst 1, 1) := by decide +kernel
theorem d_Mod_pack_520 : decode b_Mod_pack 520 = .ok (.iadd, 1) := by decide +kernel
theorem d_Mod_pack_521 : decode b_Mod_pack 521 = .ok (.putfield 361, 3) := by decide +kernel
theorem d_Mod_pack_524 : decode b_Mod_pack 524 = .ok (.aload_n 0, 1) := by decide +kernel
theorem d_Mod_pack_525 : decode b_Mod_pack 525 = .ok (.getfield 131, 3) := by decide +kernel
theorem d_Mod_pack_528 : decode b_Mod_pack 528 = .ok (.iload 7, 2) := by decide +kernel
theorem d_Mod_pack_530 : decode b_Mod_pack 530 = .ok (.iaload, 1) := by decide +kernel
theorem d_Mod_pack_531 : decode b_Mod_pack 531 = .ok (.istore 7, 2) := by decide +kernel
theorem d_Mod_pack_533 : decode b_Mod_pack 533 = .ok (.goto (-44), 3) := by decide +kernel
theorem d_Mod_pack_536 : decode b_Mod_pack 536 = .ok (.iload 6, 2) := by decide +kernel
theorem d_Mod_pack_538 : decode b_Mod_pack 538 = .ok (.ireturn, 1) := by decide +kernel
theorem d_Mod_packedAt_0 : decode b_Mod_packedAt 0 = .ok (.aload_n 0, 1) := by decide +kernel
theorem d_Mod_packedAt_1 : decode b_Mod_packedAt 1 = .ok (.iconst 0, 1) := by decide +kernel
theorem d_Mod_packedAt_2 : decode b_Mod_packedAt 2 = .ok (.putfield 139, 3) := by decide +kernel
theorem d_Mod_packedAt_5 : decode b_Mod_packedAt 5 = .ok (.iload_n 1, 1) := by decide +kernel
theorem d_Mod_packedAt_6 : decode b_Mod_packedAt 6 = .ok (.ifCond .lt 9, 3) := by decide +kernel
theorem d_Mod_packedAt_9 : decode b_Mod_packedAt 9 = .ok (.iload_n 1, 1) := by decide +kernel
theorem d_Mod_packedAt_10 : decode b_Mod_packedAt 10 = .ok (.bipush 63, 2) := by decide +kernel
theorem d_Mod_packedAt_12 : decode b_Mod_packedAt 12 = .ok (.if_icmp .le 9, 3) := by decide +kernel
theorem d_Mod_packedAt_15 : decode b_Mod_packedAt 15 = .ok (.ldc2_w 137, 3) := by decide +kernel
theorem d_Mod_packedAt_18 : decode b_Mod_packedAt 18 = .ok (.goto 9, 3) := by decide +kernel
theorem d_Mod_packedAt_21 : decode b_Mod_packedAt 21 = .ok (.aload_n 0, 1) := by decide +kernel
theorem d_Mod_packedAt_22 : decode b_Mod_packedAt 22 = .ok (.getfield 119, 3) := by decide +kernel
theorem d_Mod_packedAt_25 : decode b_Mod_packedAt 25 = .ok (.iload_n 1, 1) := by decide +kernel
theorem d_Mod_packedAt_26 : decode b_Mod_packedAt 26 = .ok (.laload, 1) := by decide +kernel
theorem d_Mod_packedAt_27 : decode b_Mod_packedAt 27 = .ok (.lreturn, 1) := by decide +kernel
theorem d_Mod_group_0 : decode b_Mod_group 0 = .ok (.aload_n 0, 1) := by decide +kernel
theorem d_Mod_group_1 : decode b_Mod_group 1 = .ok (.iconst 0, 1) := by decide +kernel
theorem d_Mod_group_2 : decode b_Mod_group 2 = .ok (.putfield 139, 3) := by decide +kernel
theorem d_Mod_group_5 : decode b_Mod_group 5 = .ok (.aload_n 0, 1) := by decide +kernel
theorem d_Mod_group_6 : decode b_Mod_group 6 = .ok (.getfield 122, 3) := by decide +kernel
theorem d_Mod_group_9 : decode b_Mod_group 9 = .ok (.ifCond .ge 5, 3) := by decide +kernel
theorem d_Mod_group_12 : decode b_Mod_group 12 = .ok (.iconst (-1), 1) := by decide +kernel
theorem d_Mod_group_13 : decode b_Mod_group 13 = .ok (.ireturn, 1) := by decide +kernel
theorem d_Mod_group_14 : decode b_Mod_group 14 = .ok (.iload_n 1, 1) := by decide +kernel
theorem d_Mod_group_15 : decode b_Mod_group 15 = .ok (.iconst (-1), 1) := by decide +kernel
theorem d_Mod_group_16 : decode b_Mod_group 16 = .ok (.if_icmp .ne 10, 3) := by decide +kernel
theorem d_Mod_group_19 : decode b_Mod_group 19 = .ok (.aload_n 0, 1) := by decide +kernel
theorem d_Mod_group_20 : decode b_Mod_group 20 = .ok (.getfield 122, 3) := by decide +kernel
theorem d_Mod_group_23 : decode b_Mod_group 23 = .ok (.goto 41, 3) := by decide +kernel
theorem d_Mod_group_26 : decode b_Mod_group 26 = .ok (.iload_n 1, 1) := by decide +kernel
theorem d_Mod_group_27 : decode b_Mod_group 27 = .ok (.bipush (-2), 2) := by decide +kernel
theorem d_Mod_group_29 : decode b_Mod_group 29 = .ok (.if_icmp .ne 13, 3) := by decide +kernel
theorem d_Mod_group_32 : decode b_Mod_group 32 = .ok (.aload_n 0, 1) := by decide +kernel
theorem d_Mod_group_33 : decode b_Mod_group 33 = .ok (.getfield 128, 3) := by decide +kernel
theorem d_Mod_group_36 : decode b_Mod_group 36 = .ok (.iconst 0, 1) := by decide +kernel
theorem d_Mod_group_37 : decode b_Mod_group 37 = .ok (.laload, 1) := by decide +kernel
theorem d_Mod_group_38 : decode b_Mod_group 38 = .ok (.l2i, 1) := by decide +kernel
theorem d_Mod_group_39 : decode b_Mod_group 39 = .ok (.goto 25, 3) := by decide +kernel
theorem d_Mod_group_42 : decode b_Mod_group 42 = .ok (.iload_n 1, 1) := by decide +kernel
theorem d_Mod_group_43 : decode b_Mod_group 43 = .ok (.ifCond .lt 20, 3) := by decide +kernel
theorem d_Mod_group_46 : decode b_Mod_group 46 = .ok (.iload_n 1, 1) := by decide +kernel
theorem d_Mod_group_47 : decode b_Mod_group 47 = .ok (.aload_n 0, 1) := by decide +kernel
theorem d_Mod_group_48 : decode b_Mod_group 48 = .ok (.getfield 361, 3) := by decide +kernel
theorem d_Mod_group_51 : decode b_Mod_group 51 = .ok (.if_icmp .ge 12, 3) := by decide +kernel
theorem d_Mod_group_54 : decode b_Mod_group 54 = .ok (.aload_n 0, 1) := by decide +kernel
theorem d_Mod_group_55 : decode b_Mod_group 55 = .ok (.getfield 134, 3) := by decide +kernel
theorem d_Mod_group_58 : decode b_Mod_group 58 = .ok (.iload_n 1, 1) := by decide +kernel
theorem d_Mod_group_59 : decode b_Mod_group 59 = .ok (.iaload, 1) := by decide +kernel
theorem d_Mod_group_60 : decode b_Mod_group 60 = .ok (.goto 4, 3) := by decide +kernel
theorem d_Mod_group_63 : decode b_Mod_group 63 = .ok (.iconst (-1), 1) := by decide +kernel
theorem d_Mod_group_64 : decode b_Mod_group 64 = .ok (.ireturn, 1) := by decide +kernel
theorem d_Mod_lookElement_0 : decode b_Mod_lookElement 0 = .ok (.aload_n 0, 1) := by decide +kernel
theorem d_Mod_lookElement_1 : decode b_Mod_lookElement 1 = .ok (.iload_n 1, 1) := by decide +kernel
theorem d_Mod_lookElement_2 : decode b_Mod_lookElement 2 = .ok (.invokevirtual 197, 3) := by decide +kernel
theorem d_Mod_lookElement_5 : decode b_Mod_lookElement 5 = .ok (.istore 4, 2) := by decide +kernel
theorem d_Mod_lookElement_7 : decode b_Mod_lookElement 7 = .ok (.iload 4, 2) := by decide +kernel
theorem d_Mod_lookElement_9 : decode b_Mod_lookElement 9 = .ok (.ifCond .ge 12, 3) := by decide +kernel
theorem d_Mod_lookElement_12 : decode b_Mod_lookElement 12 = .ok (.aload_n 0, 1) := by decide +kernel
theorem d_Mod_lookElement_13 : decode b_Mod_lookElement 13 = .ok (.iconst 1, 1) := by decide +kernel
theorem d_Mod_lookElement_14 : decode b_Mod_lookElement 14 = .ok (.iload_n 2, 1) := by decide +kernel
theorem d_Mod_lookElement_15 : decode b_Mod_lookElement 15 = .ok (.invokevirtual 184, 3) := by decide +kernel
theorem d_Mod_lookElement_18 : decode b_Mod_lookElement 18 = .ok (.goto 58, 3) := by decide +kernel
theorem d_Mod_lookElement_21 : decode b_Mod_lookElement 21 = .ok (.iload_n 3, 1) := by decide +kernel
theorem d_Mod_lookElement_22 : decode b_Mod_lookElement 22 = .ok (.ifCond .eq 54, 3) := by decide +kernel
theorem d_Mod_lookElement_25 : decode b_Mod_lookElement 25 = .ok (.aload_n 0, 1) := by decide +kernel
theorem d_Mod_lookElement_26 : decode b_Mod_lookElement 26 = .ok (.getfield 20, 3) := by decide +kernel
theorem d_Mod_lookElement_29 : decode b_Mod_lookElement 29 = .ok (.iload 4, 2) := by decide +kernel
theorem d_Mod_lookElement_31 : decode b_Mod_lookElement 31 = .ok (.iaload, 1) := by decide +kernel
theorem d_Mod_lookElement_32 : decode b_Mod_lookElement 32 = .ok (.aload_n 0, 1) := by decide +kernel
theorem d_Mod_lookElement_33 : decode b_Mod_lookElement 33 = .ok (.iconst 0, 1) := by decide +kernel
theorem d_Mod_lookElement_34 : decode b_Mod_lookElement 34 = .ok (.invokevirtual 200, 3) := by decide +kernel
theorem d_Mod_lookElement_37 : decode b_Mod_lookElement 37 = .ok (.iadd, 1) := by decide +kernel
theorem d_Mod_lookElement_38 : decode b_Mod_lookElement 38 = .ok (.iconst 1, 1) := by decide +kernel
theorem d_Mod_lookElement_39 : decode b_Mod_lookElement 39 = .ok (.bipush 32, 2) := by decide +kernel
theorem d_Mod_lookElement_41 : decode b_Mod_lookElement 41 = .ok (.invokestatic 203, 3) := by decide +kernel
theorem d_Mod_lookElement_44 : decode b_Mod_lookElement 44 = .ok (.ifCond .eq 26, 3) := by decide +kernel
theorem d_Mod_lookElement_47 : decode b_Mod_lookElement 47 = .ok (.aload_n 0, 1) := by decide +kernel
theorem d_Mod_lookElement_48 : decode b_Mod_lookElement 48 = .ok (.getfield 13, 3) := by decide +kernel
theorem d_Mod_lookElement_51 : decode b_Mod_lookElement 51 = .ok (.iload 4, 2) := by decide +kernel
theorem d_Mod_lookElement_53 : decode b_Mod_lookElement 53 = .ok (.iaload, 1) := by decide +kernel
theorem d_Mod_lookElement_54 : decode b_Mod_lookElement 54 = .ok (.aload_n 0, 1) := by decide +kernel
theorem d_Mod_lookElement_55 : decode b_Mod_lookElement 55 = .ok (.iconst 1, 1) := by decide +kernel
theorem d_Mod_lookElement_56 : decode b_Mod_lookElement 56 = .ok (.invokevirtual 200, 3) := by decide +kernel
theorem d_Mod_lookElement_59 : decode b_Mod_lookElement 59 = .ok (.iadd, 1) := by decide +kernel
theorem d_Mod_lookElement_60 : decode b_Mod_lookElement 60 = .ok (.bipush (-8), 2) := by decide +kernel
theorem d_Mod_lookElement_62 : decode b_Mod_lookElement 62 = .ok (.bipush 8, 2) := by decide +kernel
theorem d_Mod_lookElement_64 : decode b_Mod_lookElement 64 = .ok (.invokestatic 203, 3) := by decide +kernel
theorem d_Mod_lookElement_67 : decode b_Mod_lookElement 67 = .ok (.ifCond .ne 9, 3) := by decide +kernel
theorem d_Mod_lookElement_70 : decode b_Mod_lookElement 70 = .ok (.aload_n 0, 1) := by decide +kernel
theorem d_Mod_lookElement_71 : decode b_Mod_lookElement 71 = .ok (.iconst 5, 1) := by decide +kernel
theorem d_Mod_lookElement_72 : decode b_Mod_lookElement 72 = .ok (.iload_n 2, 1) := by decide +kernel
theorem d_Mod_lookElement_73 : decode b_Mod_lookElement 73 = .ok (.invokevirtual 184, 3) := by decide +kernel
theorem d_Mod_lookElement_76 : decode b_Mod_lookElement 76 = .ok (.return_, 1) := by decide +kernel
theorem d_Mod_look_0 : decode b_Mod_look 0 = .ok (.aload_n 0, 1) := by decide +kernel
theorem d_Mod_look_1 : decode b_Mod_look 1 = .ok (.getfield 163, 3) := by decide +kernel
theorem d_Mod_look_4 : decode b_Mod_look 4 = .ok (.iconst 1, 1) := by decide +kernel
theorem d_Mod_look_5 : decode b_Mod_look 5 = .ok (.isub, 1) := by decide +kernel
theorem d_Mod_look_6 : decode b_Mod_look 6 = .ok (.istore_n 2, 1) := by decide +kernel
theorem d_Mod_look_7 : decode b_Mod_look 7 = .ok (.aload_n 0, 1) := by decide +kernel
theorem d_Mod_look_8 : decode b_Mod_look 8 = .ok (.invokevirtual 176, 3) := by decide +kernel
theorem d_Mod_look_11 : decode b_Mod_look 11 = .ok (.istore_n 3, 1) := by decide +kernel
theorem d_Mod_look_12 : decode b_Mod_look 12 = .ok (.iload_n 1, 1) := by decide +kernel
theorem d_Mod_look_13 : decode b_Mod_look 13 = .ok (.invokestatic 156, 3) := by decide +kernel
theorem d_Mod_look_16 : decode b_Mod_look 16 = .ok (.istore 4, 2) := by decide +kernel
theorem d_Mod_look_18 : decode b_Mod_look 18 = .ok (.iload_n 1, 1) := by decide +kernel
theorem d_Mod_look_19 : decode b_Mod_look 19 = .ok (.bipush 63, 2) := by decide +kernel
theorem d_Mod_look_21 : decode b_Mod_look 21 = .ok (.if_icmp .gt 13, 3) := by decide +kernel
theorem d_Mod_look_24 : decode b_Mod_look 24 = .ok (.aload_n 0, 1) := by decide +kernel
theorem d_Mod_look_25 : decode b_Mod_look 25 = .ok (.iload_n 1, 1) := by decide +kernel
theorem d_Mod_look_26 : decode b_Mod_look 26 = .ok (.iload_n 3, 1) := by decide +kernel
theorem d_Mod_look_27 : decode b_Mod_look 27 = .ok (.iconst 1, 1) := by decide +kernel
theorem d_Mod_look_28 : decode b_Mod_look 28 = .ok (.invokevirtual 180, 3) := by decide +kernel
theorem d_Mod_look_31 : decode b_Mod_look 31 = .ok (.goto 357, 3) := by decide +kernel
theorem d_Mod_look_34 : decode b_Mod_look 34 = .ok (.iload_n 1, 1) := by decide +kernel
theorem d_Mod_look_35 : decode b_Mod_look 35 = .ok (.bipush 115, 2) := by decide +kernel
theorem d_Mod_look_37 : decode b_Mod_look 37 = .ok (.if_icmp .gt 67, 3) := by decide +kernel
theorem d_Mod_look_40 : decode b_Mod_look 40 = .ok (.iload_n 1, 1) := by decide +kernel
theorem d_Mod_look_41 : decode b_Mod_look 41 = .ok (.bipush 100, 2) := by decide +kernel
theorem d_Mod_look_43 : decode b_Mod_look 43 = .ok (.isub, 1) := by decide +kernel
theorem d_Mod_look_44 : decode b_Mod_look 44 = .ok (.istore 5, 2) := by decide +kernel
theorem d_Mod_look_46 : decode b_Mod_look 46 = .ok (.aload_n 0, 1) := by decide +kernel
theorem d_Mod_look_47 : decode b_Mod_look 47 = .ok (.getfield 30, 3) := by decide +kernel
theorem d_Mod_look_50 : decode b_Mod_look 50 = .ok (.iload 5, 2) := by decide +kernel
theorem d_Mod_look_52 : decode b_Mod_look 52 = .ok (.iaload, 1) := by decide +kernel
theorem d_Mod_look_53 : decode b_Mod_look 53 = .ok (.ifCond .ne 12, 3) := by decide +kernel
theorem d_Mod_look_56 : decode b_Mod_look 56 = .ok (.aload_n 0, 1) := by decide +kernel
theorem d_Mod_look_57 : decode b_Mod_look 57 = .ok (.iconst 1, 1) := by decide +kernel
theorem d_Mod_look_58 : decode b_Mod_look 58 = .ok (.iload_n 3, 1) := by decide +kernel
theorem d_Mod_look_59 : decode b_Mod_look 59 = .ok (.invokevirtual 184, 3) := by decide +kernel
theorem d_Mod_look_62 : decode b_Mod_look 62 = .ok (.goto 39, 3) := by decide +kernel
theorem d_Mod_look_65 : decode b_Mod_look 65 = .ok (.aload_n 0, 1) := by decide +kernel
theorem d_Mod_look_66 : decode b_Mod_look 66 = .ok (.iload 5, 2) := by decide +kernel
theorem d_Mod_look_68 : decode b_Mod_look 68 = .ok (.invokevirtual 188, 3) := by decide +kernel
theorem d_Mod_look_71 : decode b_Mod_look 71 = .ok (.bipush 6, 2) := by decide +kernel
theorem d_Mod_look_73 : decode b_Mod_look 73 = .ok (.if_icmp .lt 12, 3) := by decide +kernel
theorem d_Mod_look_76 : decode b_Mod_look 76 = .ok (.aload_n 0, 1) := by decide +kernel
theorem d_Mod_look_77 : decode b_Mod_look 77 = .ok (.iconst 2, 1) := by decide +kernel
theorem d_Mod_look_78 : decode b_Mod_look 78 = .ok (.iload_n 3, 1) := by decide +kernel
theorem d_Mod_look_79 : decode b_Mod_look 79 = .ok (.invokevirtual 184, 3) := by decide +kernel
theorem d_Mod_look_82 : decode b_Mod_look 82 = .ok (.goto 19, 3) := by decide +kernel
theorem d_Mod_look_85 : decode b_Mod_look 85 = .ok (.aload_n 0, 1) := by decide +kernel
theorem d_Mod_look_86 : decode b_Mod_look 86 = .ok (.iload 5, 2) := by decide +kernel
theorem d_Mod_look_88 : decode b_Mod_look 88 = .ok (.iconst 0, 1) := by decide +kernel
theorem d_Mod_look_89 : decode b_Mod_look 89 = .ok (.aload_n 0, 1) := by decide +kernel
theorem d_Mod_look_90 : decode b_Mod_look 90 = .ok (.getfield 30, 3) := by decide +kernel
theorem d_Mod_look_93 : decode b_Mod_look 93 = .ok (.iload 5, 2) := by decide +kernel
theorem d_Mod_look_95 : decode b_Mod_look 95 = .ok (.iaload, 1) := by decide +kernel
theorem d_Mod_look_96 : decode b_Mod_look 96 = .ok (.iconst 1, 1) := by decide +kernel
theorem d_Mod_look_97 : decode b_Mod_look 97 = .ok (.iconst (-1), 1) := by decide +kernel
theorem d_Mod_look_98 : decode b_Mod_look 98 = .ok (.invokevirtual 169, 3) := by decide +kernel
theorem d_Mod_look_101 : decode b_Mod_look 101 = .ok (.goto 287, 3) := by decide +kernel
theorem d_Mod_look_104 : decode b_Mod_look 104 = .ok (.iload_n 1, 1) := by decide +kernel
theorem d_Mod_look_105 : decode b_Mod_look 105 = .ok (.invokestatic 152, 3) := by decide +kernel
theorem d_Mod_look_108 : decode b_Mod_look 108 = .ok (.ifCond .eq 222, 3) := by decide +kernel
theorem d_Mod_look_111 : decode b_Mod_look 111 = .ok (.iload_n 1, 1) := by decide +kernel
theorem d_Mod_look_112 : decode b_Mod_look 112 = .ok (.sipush 200, 3) := by decide +kernel
theorem d_Mod_look_115 : decode b_Mod_look 115 = .ok (.isub, 1) := by decide +kernel
theorem d_Mod_look_116 : decode b_Mod_look 116 = .ok (.bipush 16, 2) := by decide +kernel
theorem d_Mod_look_118 : decode b_Mod_look 118 = .ok (.idiv, 1) := by decide +kernel
theorem d_Mod_look_119 : decode b_Mod_look 119 = .ok (.istore 5, 2) := by decide +kernel
theorem d_Mod_look_121 : decode b_Mod_look 121 = .ok (.iload_n 1, 1) := by decide +kernel
theorem d_Mod_look_122 : decode b_Mod_look 122 = .ok (.sipush 200, 3) := by decide +kernel
theorem d_Mod_look_125 : decode b_Mod_look 125 = .ok (.isub, 1) := by decide +kernel
theorem d_Mod_look_126 : decode b_Mod_look 126 = .ok (.bipush 16, 2) := by decide +kernel
theorem d_Mod_look_128 : decode b_Mod_look 128 = .ok (.irem, 1) := by decide +kernel
theorem d_Mod_look_129 : decode b_Mod_look 129 = .ok (.ifCond .ne 7, 3) := by decide +kernel
theorem d_Mod_look_132 : decode b_Mod_look 132 = .ok (.iconst 1, 1) := by decide +kernel
theorem d_Mod_look_133 : decode b_Mod_look 133 = .ok (.goto 4, 3) := by decide +kernel
theorem d_Mod_look_136 : decode b_Mod_look 136 = .ok (.iconst 0, 1) := by decide +kernel
theorem d_Mod_look_137 : decode b_Mod_look 137 = .ok (.istore 6, 2) := by decide +kernel
theorem d_Mod_look_139 : decode b_Mod_look 139 = .ok (.aload_n 0, 1) := by decide +kernel
theorem d_Mod_look_140 : decode b_Mod_look 140 = .ok (.getfield 46, 3) := by decide +kernel
theorem d_Mod_look_143 : decode b_Mod_look 143 = .ok (.iload_n 2, 1) := by decide +kernel
theorem d_Mod_look_144 : decode b_Mod_look 144 = .ok (.iaload, 1) := by decide +kernel
theorem d_Mod_look_145 : decode b_Mod_look 145 = .ok (.iload 6, 2) := by decide +kernel
theorem d_Mod_look_147 : decode b_Mod_look 147 = .ok (.ifCond .eq 7, 3) := by decide +kernel
theorem d_Mod_look_150 : decode b_Mod_look 150 = .ok (.iconst 1, 1) := by decide +kernel
theorem d_Mod_look_151 : decode b_Mod_look 151 = .ok (.goto 4, 3) := by decide +kernel
theorem d_Mod_look_154 : decode b_Mod_look 154 = .ok (.iconst 0, 1) := by decide +kernel
theorem d_Mod_look_155 : decode b_Mod_look 155 = .ok (.iadd, 1) := by decide +kernel
theorem d_Mod_look_156 : decode b_Mod_look 156 = .ok (.istore 7, 2) := by decide +kernel
theorem d_Mod_look_158 : decode b_Mod_look 158 = .ok (.iload 7, 2) := by decide +kernel
theorem d_Mod_look_160 : decode b_Mod_look 160 = .ok (.iload 5, 2) := by decide +kernel
theorem d_Mod_look_162 : decode b_Mod_look 162 = .ok (.iadd, 1) := by decide +kernel
theorem d_Mod_look_163 : decode b_Mod_look 163 = .ok (.aload_n 0, 1) := by decide +kernel
theorem d_Mod_look_164 : decode b_Mod_look 164 = .ok (.getfield 49, 3) := by decide +kernel
theorem d_Mod_look_167 : decode b_Mod_look 167 = .ok (.iload_n 2, 1) := by decide +kernel
theorem d_Mod_look_168 : decode b_Mod_look 168 = .ok (.iaload, 1) := by decide +kernel
theorem d_Mod_look_169 : decode b_Mod_look 169 = .ok (.if_icmp .gt 34, 3) := by decide +kernel
theorem d_Mod_look_172 : decode b_Mod_look 172 = .ok (.iload 6, 2) := by decide +kernel
theorem d_Mod_look_174 : decode b_Mod_look 174 = .ok (.ifCond .eq 36, 3) := by decide +kernel
theorem d_Mod_look_177 : decode b_Mod_look 177 = .ok (.aload_n 0, 1) := by decide +kernel
theorem d_Mod_look_178 : decode b_Mod_look 178 = .ok (.getfield 27, 3) := by decide +kernel
theorem d_Mod_look_181 : decode b_Mod_look 181 = .ok (.bipush 24, 2) := by decide +kernel
theorem d_Mod_look_183 : decode b_Mod_look 183 = .ok (.aload_n 0, 1) := by decide +kernel
theorem d_Mod_look_184 : decode b_Mod_look 184 = .ok (.getfield 43, 3) := by decide +kernel
theorem d_Mod_look_187 : decode b_Mod_look 187 = .ok (.iload_n 2, 1) := by decide +kernel
theorem d_Mod_look_188 : decode b_Mod_look 188 = .ok (.iaload, 1) := by decide +kernel
theorem d_Mod_look_189 : decode b_Mod_look 189 = .ok (.imul, 1) := by decide +kernel
theorem d_Mod_look_190 : decode b_Mod_look 190 = .ok (.aload_n 0, 1) := by decide +kernel
theorem d_Mod_look_191 : decode b_Mod_look 191 = .ok (.getfield 46, 3) := by decide +kernel
theorem d_Mod_look_194 : decode b_Mod_look 194 = .ok (.iload_n 2, 1) := by decide +kernel
theorem d_Mod_look_195 : decode b_Mod_look 195 = .ok (.iaload, 1) := by decide +kernel
theorem d_Mod_look_196 : decode b_Mod_look 196 = .ok (.iadd, 1) := by decide +kernel
theorem d_Mod_look_197 : decode b_Mod_look 197 = .ok (.iaload, 1) := by decide +kernel
theorem d_Mod_look_198 : decode b_Mod_look 198 = .ok (.bipush 63, 2) := by decide +kernel
theorem d_Mod_look_200 : decode b_Mod_look 200 = .ok (.if_icmp .le 10, 3) := by decide +kernel
theorem d_Mod_look_203 : decode b_Mod_look 203 = .ok (.aload_n 0, 1) := by decide +kernel
theorem d_Mod_look_204 : decode b_Mod_look 204 = .ok (.iconst 3, 1) := by decide +kernel
theorem d_Mod_look_205 : decode b_Mod_look 205 = .ok (.iload_n 3, 1) := by decide +kernel
theorem d_Mod_look_206 : decode b_Mod_look 206 = .ok (.invokevirtual 184, 3) := by decide +kernel
theorem d_Mod_look_209 : decode b_Mod_look 209 = .ok (.return_, 1) := by decide +kernel
theorem d_Mod_look_210 : decode b_Mod_look 210 = .ok (.iload 6, 2) := by decide +kernel
theorem d_Mod_look_212 : decode b_Mod_look 212 = .ok (.ifCond .eq 78, 3) := by decide +kernel
theorem d_Mod_look_215 : decode b_Mod_look 215 = .ok (.aload_n 0, 1) := by decide +kernel
theorem d_Mod_look_216 : decode b_Mod_look 216 = .ok (.aload_n 0, 1) := by decide +kernel
theorem d_Mod_look_217 : decode b_Mod_look 217 = .ok (.getfield 43, 3) := by decide +kernel
theorem d_Mod_look_220 : decode b_Mod_look 220 = .ok (.iload_n 2, 1) := by decide +kernel
theorem d_Mod_look_221 : decode b_Mod_look 221 = .ok (.iaload, 1) := by decide +kernel
theorem d_Mod_look_222 : decode b_Mod_look 222 = .ok (.bipush 16, 2) := by decide +kernel
theorem d_Mod_look_224 : decode b_Mod_look 224 = .ok (.if_icmp .ne 12, 3) := by decide +kernel
theorem d_Mod_look_227 : decode b_Mod_look 227 = .ok (.aload_n 0, 1) := by decide +kernel
theorem d_Mod_look_228 : decode b_Mod_look 228 = .ok (.getfield 46, 3) := by decide +kernel
theorem d_Mod_look_231 : decode b_Mod_look 231 = .ok (.iload_n 2, 1) := by decide +kernel
theorem d_Mod_look_232 : decode b_Mod_look 232 = .ok (.iaload, 1) := by decide +kernel
theorem d_Mod_look_233 : decode b_Mod_look 233 = .ok (.goto 4, 3) := by decide +kernel
theorem d_Mod_look_236 : decode b_Mod_look 236 = .ok (.iload_n 3, 1) := by decide +kernel
theorem d_Mod_look_237 : decode b_Mod_look 237 = .ok (.invokevirtual 191, 3) := by decide +kernel
theorem d_Mod_look_240 : decode b_Mod_look 240 = .ok (.ifCond .eq 50, 3) := by decide +kernel
theorem d_Mod_look_243 : decode b_Mod_look 243 = .ok (.aload_n 0, 1) := by decide +kernel
theorem d_Mod_look_244 : decode b_Mod_look 244 = .ok (.aload_n 0, 1) := by decide +kernel
theorem d_Mod_look_245 : decode b_Mod_look 245 = .ok (.getfield 27, 3) := by decide +kernel
theorem d_Mod_look_248 : decode b_Mod_look 248 = .ok (.bipush 24, 2) := by decide +kernel
theorem d_Mod_look_250 : decode b_Mod_look 250 = .ok (.aload_n 0, 1) := by decide +kernel
theorem d_Mod_look_251 : decode b_Mod_look 251 = .ok (.getfield 43, 3) := by decide +kernel
theorem d_Mod_look_254 : decode b_Mod_look 254 = .ok (.iload_n 2, 1) := by decide +kernel
theorem d_Mod_look_255 : decode b_Mod_look 255 = .ok (.iaload, 1) := by decide +kernel
theorem d_Mod_look_256 : decode b_Mod_look 256 = .ok (.imul, 1) := by decide +kernel
theorem d_Mod_look_257 : decode b_Mod_look 257 = .ok (.aload_n 0, 1) := by decide +kernel
theorem d_Mod_look_258 : decode b_Mod_look 258 = .ok (.getfield 46, 3) := by decide +kernel
theorem d_Mod_look_261 : decode b_Mod_look 261 = .ok (.iload_n 2, 1) := by decide +kernel
theorem d_Mod_look_262 : decode b_Mod_look 262 = .ok (.iaload, 1) := by decide +kernel
theorem d_Mod_look_263 : decode b_Mod_look 263 = .ok (.iadd, 1) := by decide +kernel
theorem d_Mod_look_264 : decode b_Mod_look 264 = .ok (.iaload, 1) := by decide +kernel
theorem d_Mod_look_265 : decode b_Mod_look 265 = .ok (.aload_n 0, 1) := by decide +kernel
theorem d_Mod_look_266 : decode b_Mod_look 266 = .ok (.getfield 43, 3) := by decide +kernel
theorem d_Mod_look_269 : decode b_Mod_look 269 = .ok (.iload_n 2, 1) := by decide +kernel
theorem d_Mod_look_270 : decode b_Mod_look 270 = .ok (.iaload, 1) := by decide +kernel
theorem d_Mod_look_271 : decode b_Mod_look 271 = .ok (.bipush 16, 2) := by decide +kernel
theorem d_Mod_look_273 : decode b_Mod_look 273 = .ok (.if_icmp .ne 12, 3) := by decide +kernel
theorem d_Mod_look_276 : decode b_Mod_look 276 = .ok (.aload_n 0, 1) := by decide +kernel
theorem d_Mod_look_277 : decode b_Mod_look 277 = .ok (.getfield 46, 3) := by decide +kernel
theorem d_Mod_look_280 : decode b_Mod_look 280 = .ok (.iload_n 2, 1) := by decide +kernel
theorem d_Mod_look_281 : decode b_Mod_look 281 = .ok (.iaload, 1) := by decide +kernel
theorem d_Mod_look_282 : decode b_Mod_look 282 = .ok (.goto 4, 3) := by decide +kernel
theorem d_Mod_look_285 : decode b_Mod_look 285 = .ok (.iload_n 3, 1) := by decide +kernel
theorem d_Mod_look_286 : decode b_Mod_look 286 = .ok (.iconst 0, 1) := by decide +kernel
theorem d_Mod_look_287 : decode b_Mod_look 287 = .ok (.invokevirtual 180, 3) := by decide +kernel
theorem d_Mod_look_290 : decode b_Mod_look 290 = .ok (.aload_n 0, 1) := by decide +kernel
theorem d_Mod_look_291 : decode b_Mod_look 291 = .ok (.getfield 46, 3) := by decide +kernel
theorem d_Mod_look_294 : decode b_Mod_look 294 = .ok (.iload_n 2, 1) := by decide +kernel
theorem d_Mod_look_295 : decode b_Mod_look 295 = .ok (.iload 7, 2) := by decide +kernel
theorem d_Mod_look_297 : decode b_Mod_look 297 = .ok (.iload 5, 2) := by decide +kernel
theorem d_Mod_look_299 : decode b_Mod_look 299 = .ok (.iadd, 1) := by decide +kernel
theorem d_Mod_look_300 : decode b_Mod_look 300 = .ok (.iastore, 1) := by decide +kernel
theorem d_Mod_look_301 : decode b_Mod_look 301 = .ok (.aload_n 0, 1) := by decide +kernel
theorem d_Mod_look_302 : decode b_Mod_look 302 = .ok (.getfield 173, 3) := by decide +kernel
theorem d_Mod_look_305 : decode b_Mod_look 305 = .ok (.ifCond .ne 22, 3) := by decide +kernel
theorem d_Mod_look_308 : decode b_Mod_look 308 = .ok (.aload_n 0, 1) := by decide +kernel
theorem d_Mod_look_309 : decode b_Mod_look 309 = .ok (.aload_n 0, 1) := by decide +kernel
theorem d_Mod_look_310 : decode b_Mod_look 310 = .ok (.getfield 43, 3) := by decide +kernel
theorem d_Mod_look_313 : decode b_Mod_look 313 = .ok (.iload_n 2, 1) := by decide +kernel
theorem d_Mod_look_314 : decode b_Mod_look 314 = .ok (.iaload, 1) := by decide +kernel
theorem d_Mod_look_315 : decode b_Mod_look 315 = .ok (.iload 7, 2) := by decide +kernel
theorem d_Mod_look_317 : decode b_Mod_look 317 = .ok (.iload 7, 2) := by decide +kernel
theorem d_Mod_look_319 : decode b_Mod_look 319 = .ok (.iload 5, 2) := by decide +kernel
theorem d_Mod_look_321 : decode b_Mod_look 321 = .ok (.iadd, 1) := by decide +kernel
theorem d_Mod_look_322 : decode b_Mod_look 322 = .ok (.iconst 1, 1) := by decide +kernel
theorem d_Mod_look_323 : decode b_Mod_look 323 = .ok (.iconst 0, 1) := by decide +kernel
theorem d_Mod_look_324 : decode b_Mod_look 324 = .ok (.invokevirtual 169, 3) := by decide +kernel
theorem d_Mod_look_327 : decode b_Mod_look 327 = .ok (.goto 61, 3) := by decide +kernel
theorem d_Mod_look_330 : decode b_Mod_look 330 = .ok (.iload 4, 2) := by decide +kernel
theorem d_Mod_look_332 : decode b_Mod_look 332 = .ok (.ifCond .lt 56, 3) := by decide +kernel
theorem d_Mod_look_335 : decode b_Mod_look 335 = .ok (.iload_n 1, 1) := by decide +kernel
theorem d_Mod_look_336 : decode b_Mod_look 336 = .ok (.invokestatic 194, 3) := by decide +kernel
theorem d_Mod_look_339 : decode b_Mod_look 339 = .ok (.istore 5, 2) := by decide +kernel
theorem d_Mod_look_341 : decode b_Mod_look 341 = .ok (.iload 5, 2) := by decide +kernel
theorem d_Mod_look_343 : decode b_Mod_look 343 = .ok (.bipush (-100), 2) := by decide +kernel
theorem d_Mod_look_345 : decode b_Mod_look 345 = .ok (.if_icmp .ne 7, 3) := by decide +kernel
theorem d_Mod_look_348 : decode b_Mod_look 348 = .ok (.iconst 1, 1) := by decide +kernel
theorem d_Mod_look_349 : decode b_Mod_look 349 = .ok (.goto 4, 3) := by decide +kernel
theorem d_Mod_look_352 : decode b_Mod_look 352 = .ok (.iconst 0, 1) := by decide +kernel
theorem d_Mod_look_353 : decode b_Mod_look 353 = .ok (.aload_n 0, 1) := by decide +kernel
theorem d_Mod_look_354 : decode b_Mod_look 354 = .ok (.getfield 64, 3) := by decide +kernel
theorem d_Mod_look_357 : decode b_Mod_look 357 = .ok (.iload 4, 2) := by decide +kernel
theorem d_Mod_look_359 : decode b_Mod_look 359 = .ok (.iaload, 1) := by decide +kernel
theorem d_Mod_look_360 : decode b_Mod_look 360 = .ok (.bipush (-100), 2) := by decide +kernel
theorem d_Mod_look_362 : decode b_Mod_look 362 = .ok (.if_icmp .ne 7, 3) := by decide +kernel
theorem d_Mod_look_365 : decode b_Mod_look 365 = .ok (.iconst 1, 1) := by decide +kernel
theorem d_Mod_look_366 : decode b_Mod_look 366 = .ok (.goto 4, 3) := by decide +kernel
theorem d_Mod_look_369 : decode b_Mod_look 369 = .ok (.iconst 0, 1) := by decide +kernel
theorem d_Mod_look_370 : decode b_Mod_look 370 = .ok (.if_icmp .ne 9, 3) := by decide +kernel
theorem d_Mod_look_373 : decode b_Mod_look 373 = .ok (.aload_n 0, 1) := by decide +kernel

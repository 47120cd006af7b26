theorem d_Mod_init_286 : decode b_Mod_init 286 = .ok (.aload_n 0, 1) := by decide +kernel
theorem d_Mod_init_287 : decode b_Mod_init 287 = .ok (.bipush 64, 2) := by decide +kernel
theorem d_Mod_init_289 : decode b_Mod_init 289 = .ok (.newarray .long, 2) := by decide +kernel
theorem d_Mod_init_291 : decode b_Mod_init 291 = .ok (.putfield 119, 3) := by decide +kernel
theorem d_Mod_init_294 : decode b_Mod_init 294 = .ok (.aload_n 0, 1) := by decide +kernel
theorem d_Mod_init_295 : decode b_Mod_init 295 = .ok (.iconst (-1), 1) := by decide +kernel
theorem d_Mod_init_296 : decode b_Mod_init 296 = .ok (.putfield 122, 3) := by decide +kernel
theorem d_Mod_init_299 : decode b_Mod_init 299 = .ok (.aload_n 0, 1) := by decide +kernel
theorem d_Mod_init_300 : decode b_Mod_init 300 = .ok (.bipush 64, 2) := by decide +kernel
theorem d_Mod_init_302 : decode b_Mod_init 302 = .ok (.newarray .long, 2) := by decide +kernel
theorem d_Mod_init_304 : decode b_Mod_init 304 = .ok (.putfield 125, 3) := by decide +kernel
theorem d_Mod_init_307 : decode b_Mod_init 307 = .ok (.aload_n 0, 1) := by decide +kernel
theorem d_Mod_init_308 : decode b_Mod_init 308 = .ok (.bipush 65, 2) := by decide +kernel
theorem d_Mod_init_310 : decode b_Mod_init 310 = .ok (.newarray .long, 2) := by decide +kernel
theorem d_Mod_init_312 : decode b_Mod_init 312 = .ok (.putfield 128, 3) := by decide +kernel
theorem d_Mod_init_315 : decode b_Mod_init 315 = .ok (.aload_n 0, 1) := by decide +kernel
theorem d_Mod_init_316 : decode b_Mod_init 316 = .ok (.bipush 65, 2) := by decide +kernel
theorem d_Mod_init_318 : decode b_Mod_init 318 = .ok (.newarray .int, 2) := by decide +kernel
theorem d_Mod_init_320 : decode b_Mod_init 320 = .ok (.putfield 131, 3) := by decide +kernel
theorem d_Mod_init_323 : decode b_Mod_init 323 = .ok (.aload_n 0, 1) := by decide +kernel
theorem d_Mod_init_324 : decode b_Mod_init 324 = .ok (.bipush 64, 2) := by decide +kernel
theorem d_Mod_init_326 : decode b_Mod_init 326 = .ok (.newarray .int, 2) := by decide +kernel
theorem d_Mod_init_328 : decode b_Mod_init 328 = .ok (.putfield 134, 3) := by decide +kernel
theorem d_Mod_init_331 : decode b_Mod_init 331 = .ok (.iconst 0, 1) := by decide +kernel
theorem d_Mod_init_332 : decode b_Mod_init 332 = .ok (.istore_n 1, 1) := by decide +kernel
theorem d_Mod_init_333 : decode b_Mod_init 333 = .ok (.iload_n 1, 1) := by decide +kernel
theorem d_Mod_init_334 : decode b_Mod_init 334 = .ok (.sipush 800, 3) := by decide +kernel
theorem d_Mod_init_337 : decode b_Mod_init 337 = .ok (.if_icmp .ge 18, 3) := by decide +kernel
theorem d_Mod_init_340 : decode b_Mod_init 340 = .ok (.aload_n 0, 1) := by decide +kernel
theorem d_Mod_init_341 : decode b_Mod_init 341 = .ok (.getfield 36, 3) := by decide +kernel
theorem d_Mod_init_344 : decode b_Mod_init 344 = .ok (.iload_n 1, 1) := by decide +kernel
theorem d_Mod_init_345 : decode b_Mod_init 345 = .ok (.ldc2_w 137, 3) := by decide +kernel
theorem d_Mod_init_348 : decode b_Mod_init 348 = .ok (.lastore, 1) := by decide +kernel
theorem d_Mod_init_349 : decode b_Mod_init 349 = .ok (.iinc 1 1, 3) := by decide +kernel
theorem d_Mod_init_352 : decode b_Mod_init 352 = .ok (.goto (-19), 3) := by decide +kernel
theorem d_Mod_init_355 : decode b_Mod_init 355 = .ok (.iconst 0, 1) := by decide +kernel
theorem d_Mod_init_356 : decode b_Mod_init 356 = .ok (.istore_n 1, 1) := by decide +kernel
theorem d_Mod_init_357 : decode b_Mod_init 357 = .ok (.iload_n 1, 1) := by decide +kernel
theorem d_Mod_init_358 : decode b_Mod_init 358 = .ok (.bipush 64, 2) := by decide +kernel
theorem d_Mod_init_360 : decode b_Mod_init 360 = .ok (.if_icmp .ge 27, 3) := by decide +kernel
theorem d_Mod_init_363 : decode b_Mod_init 363 = .ok (.aload_n 0, 1) := by decide +kernel
theorem d_Mod_init_364 : decode b_Mod_init 364 = .ok (.getfield 116, 3) := by decide +kernel
theorem d_Mod_init_367 : decode b_Mod_init 367 = .ok (.iload_n 1, 1) := by decide +kernel
theorem d_Mod_init_368 : decode b_Mod_init 368 = .ok (.ldc2_w 137, 3) := by decide +kernel
theorem d_Mod_init_371 : decode b_Mod_init 371 = .ok (.lastore, 1) := by decide +kernel
theorem d_Mod_init_372 : decode b_Mod_init 372 = .ok (.aload_n 0, 1) := by decide +kernel
theorem d_Mod_init_373 : decode b_Mod_init 373 = .ok (.getfield 119, 3) := by decide +kernel
theorem d_Mod_init_376 : decode b_Mod_init 376 = .ok (.iload_n 1, 1) := by decide +kernel
theorem d_Mod_init_377 : decode b_Mod_init 377 = .ok (.ldc2_w 137, 3) := by decide +kernel
theorem d_Mod_init_380 : decode b_Mod_init 380 = .ok (.lastore, 1) := by decide +kernel
theorem d_Mod_init_381 : decode b_Mod_init 381 = .ok (.iinc 1 1, 3) := by decide +kernel
theorem d_Mod_init_384 : decode b_Mod_init 384 = .ok (.goto (-27), 3) := by decide +kernel
theorem d_Mod_init_387 : decode b_Mod_init 387 = .ok (.return_, 1) := by decide +kernel

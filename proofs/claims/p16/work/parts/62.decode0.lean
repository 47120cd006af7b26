theorem d_Law_law_0 : decode b_Law_law 0 = .ok (.new 8, 3) := by decide +kernel
theorem d_Law_law_3 : decode b_Law_law 3 = .ok (.dup, 1) := by decide +kernel
theorem d_Law_law_4 : decode b_Law_law 4 = .ok (.invokespecial 60, 3) := by decide +kernel
theorem d_Law_law_7 : decode b_Law_law 7 = .ok (.astore_n 1, 1) := by decide +kernel
theorem d_Law_law_8 : decode b_Law_law 8 = .ok (.new 61, 3) := by decide +kernel
theorem d_Law_law_11 : decode b_Law_law 11 = .ok (.dup, 1) := by decide +kernel
theorem d_Law_law_12 : decode b_Law_law 12 = .ok (.invokespecial 63, 3) := by decide +kernel
theorem d_Law_law_15 : decode b_Law_law 15 = .ok (.astore_n 2, 1) := by decide +kernel
theorem d_Law_law_16 : decode b_Law_law 16 = .ok (.iconst 1, 1) := by decide +kernel
theorem d_Law_law_17 : decode b_Law_law 17 = .ok (.newarray .long, 2) := by decide +kernel
theorem d_Law_law_19 : decode b_Law_law 19 = .ok (.astore_n 3, 1) := by decide +kernel
theorem d_Law_law_20 : decode b_Law_law 20 = .ok (.iconst 0, 1) := by decide +kernel
theorem d_Law_law_21 : decode b_Law_law 21 = .ok (.istore 4, 2) := by decide +kernel
theorem d_Law_law_23 : decode b_Law_law 23 = .ok (.iload 4, 2) := by decide +kernel
theorem d_Law_law_25 : decode b_Law_law 25 = .ok (.aload_n 0, 1) := by decide +kernel
theorem d_Law_law_26 : decode b_Law_law 26 = .ok (.arraylength, 1) := by decide +kernel
theorem d_Law_law_27 : decode b_Law_law 27 = .ok (.bipush 6, 2) := by decide +kernel
theorem d_Law_law_29 : decode b_Law_law 29 = .ok (.isub, 1) := by decide +kernel
theorem d_Law_law_30 : decode b_Law_law 30 = .ok (.if_icmp .gt 934, 3) := by decide +kernel
theorem d_Law_law_33 : decode b_Law_law 33 = .ok (.aload_n 0, 1) := by decide +kernel
theorem d_Law_law_34 : decode b_Law_law 34 = .ok (.iload 4, 2) := by decide +kernel
theorem d_Law_law_36 : decode b_Law_law 36 = .ok (.iaload, 1) := by decide +kernel
theorem d_Law_law_37 : decode b_Law_law 37 = .ok (.bipush 31, 2) := by decide +kernel
theorem d_Law_law_39 : decode b_Law_law 39 = .ok (.iand, 1) := by decide +kernel
theorem d_Law_law_40 : decode b_Law_law 40 = .ok (.tableswitch 918 0 20 #[100, 173, 210, 235, 275, 300, 316, 341, 422, 462, 490, 539, 576, 637, 693, 718, 755, 771, 840, 868, 893], 100) := by decide +kernel
theorem d_Law_law_140 : decode b_Law_law 140 = .ok (.aload_n 1, 1) := by decide +kernel
theorem d_Law_law_141 : decode b_Law_law 141 = .ok (.aload_n 0, 1) := by decide +kernel
theorem d_Law_law_142 : decode b_Law_law 142 = .ok (.iload 4, 2) := by decide +kernel
theorem d_Law_law_144 : decode b_Law_law 144 = .ok (.iconst 1, 1) := by decide +kernel
theorem d_Law_law_145 : decode b_Law_law 145 = .ok (.iadd, 1) := by decide +kernel
theorem d_Law_law_146 : decode b_Law_law 146 = .ok (.iaload, 1) := by decide +kernel
theorem d_Law_law_147 : decode b_Law_law 147 = .ok (.aload_n 0, 1) := by decide +kernel
theorem d_Law_law_148 : decode b_Law_law 148 = .ok (.iload 4, 2) := by decide +kernel
theorem d_Law_law_150 : decode b_Law_law 150 = .ok (.iconst 2, 1) := by decide +kernel
theorem d_Law_law_151 : decode b_Law_law 151 = .ok (.iadd, 1) := by decide +kernel
theorem d_Law_law_152 : decode b_Law_law 152 = .ok (.iaload, 1) := by decide +kernel
theorem d_Law_law_153 : decode b_Law_law 153 = .ok (.aload_n 0, 1) := by decide +kernel
theorem d_Law_law_154 : decode b_Law_law 154 = .ok (.iload 4, 2) := by decide +kernel
theorem d_Law_law_156 : decode b_Law_law 156 = .ok (.iconst 3, 1) := by decide +kernel
theorem d_Law_law_157 : decode b_Law_law 157 = .ok (.iadd, 1) := by decide +kernel
theorem d_Law_law_158 : decode b_Law_law 158 = .ok (.iaload, 1) := by decide +kernel
theorem d_Law_law_159 : decode b_Law_law 159 = .ok (.aload_n 0, 1) := by decide +kernel
theorem d_Law_law_160 : decode b_Law_law 160 = .ok (.iload 4, 2) := by decide +kernel
theorem d_Law_law_162 : decode b_Law_law 162 = .ok (.iconst 4, 1) := by decide +kernel
theorem d_Law_law_163 : decode b_Law_law 163 = .ok (.iadd, 1) := by decide +kernel
theorem d_Law_law_164 : decode b_Law_law 164 = .ok (.iaload, 1) := by decide +kernel
theorem d_Law_law_165 : decode b_Law_law 165 = .ok (.aload_n 0, 1) := by decide +kernel
theorem d_Law_law_166 : decode b_Law_law 166 = .ok (.iload 4, 2) := by decide +kernel
theorem d_Law_law_168 : decode b_Law_law 168 = .ok (.iconst 5, 1) := by decide +kernel
theorem d_Law_law_169 : decode b_Law_law 169 = .ok (.iadd, 1) := by decide +kernel
theorem d_Law_law_170 : decode b_Law_law 170 = .ok (.iaload, 1) := by decide +kernel
theorem d_Law_law_171 : decode b_Law_law 171 = .ok (.invokestatic 64, 3) := by decide +kernel
theorem d_Law_law_174 : decode b_Law_law 174 = .ok (.istore 5, 2) := by decide +kernel
theorem d_Law_law_176 : decode b_Law_law 176 = .ok (.aload_n 2, 1) := by decide +kernel
theorem d_Law_law_177 : decode b_Law_law 177 = .ok (.aload_n 0, 1) := by decide +kernel
theorem d_Law_law_178 : decode b_Law_law 178 = .ok (.iload 4, 2) := by decide +kernel
theorem d_Law_law_180 : decode b_Law_law 180 = .ok (.iconst 1, 1) := by decide +kernel
theorem d_Law_law_181 : decode b_Law_law 181 = .ok (.iadd, 1) := by decide +kernel
theorem d_Law_law_182 : decode b_Law_law 182 = .ok (.iaload, 1) := by decide +kernel
theorem d_Law_law_183 : decode b_Law_law 183 = .ok (.aload_n 0, 1) := by decide +kernel
theorem d_Law_law_184 : decode b_Law_law 184 = .ok (.iload 4, 2) := by decide +kernel
theorem d_Law_law_186 : decode b_Law_law 186 = .ok (.iconst 2, 1) := by decide +kernel
theorem d_Law_law_187 : decode b_Law_law 187 = .ok (.iadd, 1) := by decide +kernel
theorem d_Law_law_188 : decode b_Law_law 188 = .ok (.iaload, 1) := by decide +kernel
theorem d_Law_law_189 : decode b_Law_law 189 = .ok (.aload_n 0, 1) := by decide +kernel
theorem d_Law_law_190 : decode b_Law_law 190 = .ok (.iload 4, 2) := by decide +kernel
theorem d_Law_law_192 : decode b_Law_law 192 = .ok (.iconst 3, 1) := by decide +kernel
theorem d_Law_law_193 : decode b_Law_law 193 = .ok (.iadd, 1) := by decide +kernel
theorem d_Law_law_194 : decode b_Law_law 194 = .ok (.iaload, 1) := by decide +kernel
theorem d_Law_law_195 : decode b_Law_law 195 = .ok (.aload_n 0, 1) := by decide +kernel
theorem d_Law_law_196 : decode b_Law_law 196 = .ok (.iload 4, 2) := by decide +kernel
theorem d_Law_law_198 : decode b_Law_law 198 = .ok (.iconst 4, 1) := by decide +kernel
theorem d_Law_law_199 : decode b_Law_law 199 = .ok (.iadd, 1) := by decide +kernel
theorem d_Law_law_200 : decode b_Law_law 200 = .ok (.iaload, 1) := by decide +kernel
theorem d_Law_law_201 : decode b_Law_law 201 = .ok (.aload_n 0, 1) := by decide +kernel
theorem d_Law_law_202 : decode b_Law_law 202 = .ok (.iload 4, 2) := by decide +kernel
theorem d_Law_law_204 : decode b_Law_law 204 = .ok (.iconst 5, 1) := by decide +kernel
theorem d_Law_law_205 : decode b_Law_law 205 = .ok (.iadd, 1) := by decide +kernel
theorem d_Law_law_206 : decode b_Law_law 206 = .ok (.iaload, 1) := by decide +kernel
theorem d_Law_law_207 : decode b_Law_law 207 = .ok (.invokevirtual 69, 3) := by decide +kernel
theorem d_Law_law_210 : decode b_Law_law 210 = .ok (.goto 748, 3) := by decide +kernel
theorem d_Law_law_213 : decode b_Law_law 213 = .ok (.aload_n 1, 1) := by decide +kernel
theorem d_Law_law_214 : decode b_Law_law 214 = .ok (.aload_n 0, 1) := by decide +kernel
theorem d_Law_law_215 : decode b_Law_law 215 = .ok (.iload 4, 2) := by decide +kernel
theorem d_Law_law_217 : decode b_Law_law 217 = .ok (.iconst 1, 1) := by decide +kernel
theorem d_Law_law_218 : decode b_Law_law 218 = .ok (.iadd, 1) := by decide +kernel
theorem d_Law_law_219 : decode b_Law_law 219 = .ok (.iaload, 1) := by decide +kernel
theorem d_Law_law_220 : decode b_Law_law 220 = .ok (.aload_n 0, 1) := by decide +kernel
theorem d_Law_law_221 : decode b_Law_law 221 = .ok (.iload 4, 2) := by decide +kernel
theorem d_Law_law_223 : decode b_Law_law 223 = .ok (.iconst 2, 1) := by decide +kernel
theorem d_Law_law_224 : decode b_Law_law 224 = .ok (.iadd, 1) := by decide +kernel
theorem d_Law_law_225 : decode b_Law_law 225 = .ok (.iaload, 1) := by decide +kernel
theorem d_Law_law_226 : decode b_Law_law 226 = .ok (.invokevirtual 70, 3) := by decide +kernel
theorem d_Law_law_229 : decode b_Law_law 229 = .ok (.pop, 1) := by decide +kernel
theorem d_Law_law_230 : decode b_Law_law 230 = .ok (.aload_n 2, 1) := by decide +kernel
theorem d_Law_law_231 : decode b_Law_law 231 = .ok (.aload_n 0, 1) := by decide +kernel
theorem d_Law_law_232 : decode b_Law_law 232 = .ok (.iload 4, 2) := by decide +kernel
theorem d_Law_law_234 : decode b_Law_law 234 = .ok (.iconst 1, 1) := by decide +kernel
theorem d_Law_law_235 : decode b_Law_law 235 = .ok (.iadd, 1) := by decide +kernel
theorem d_Law_law_236 : decode b_Law_law 236 = .ok (.iaload, 1) := by decide +kernel
theorem d_Law_law_237 : decode b_Law_law 237 = .ok (.aload_n 0, 1) := by decide +kernel
theorem d_Law_law_238 : decode b_Law_law 238 = .ok (.iload 4, 2) := by decide +kernel
theorem d_Law_law_240 : decode b_Law_law 240 = .ok (.iconst 2, 1) := by decide +kernel
theorem d_Law_law_241 : decode b_Law_law 241 = .ok (.iadd, 1) := by decide +kernel
theorem d_Law_law_242 : decode b_Law_law 242 = .ok (.iaload, 1) := by decide +kernel
theorem d_Law_law_243 : decode b_Law_law 243 = .ok (.invokevirtual 74, 3) := by decide +kernel
theorem d_Law_law_246 : decode b_Law_law 246 = .ok (.pop, 1) := by decide +kernel
theorem d_Law_law_247 : decode b_Law_law 247 = .ok (.goto 711, 3) := by decide +kernel
theorem d_Law_law_250 : decode b_Law_law 250 = .ok (.aload_n 1, 1) := by decide +kernel
theorem d_Law_law_251 : decode b_Law_law 251 = .ok (.aload_n 0, 1) := by decide +kernel
theorem d_Law_law_252 : decode b_Law_law 252 = .ok (.iload 4, 2) := by decide +kernel
theorem d_Law_law_254 : decode b_Law_law 254 = .ok (.iconst 1, 1) := by decide +kernel
theorem d_Law_law_255 : decode b_Law_law 255 = .ok (.iadd, 1) := by decide +kernel
theorem d_Law_law_256 : decode b_Law_law 256 = .ok (.iaload, 1) := by decide +kernel
theorem d_Law_law_257 : decode b_Law_law 257 = .ok (.invokestatic 75, 3) := by decide +kernel
theorem d_Law_law_260 : decode b_Law_law 260 = .ok (.istore 5, 2) := by decide +kernel
theorem d_Law_law_262 : decode b_Law_law 262 = .ok (.aload_n 2, 1) := by decide +kernel
theorem d_Law_law_263 : decode b_Law_law 263 = .ok (.aload_n 0, 1) := by decide +kernel
theorem d_Law_law_264 : decode b_Law_law 264 = .ok (.iload 4, 2) := by decide +kernel
theorem d_Law_law_266 : decode b_Law_law 266 = .ok (.iconst 1, 1) := by decide +kernel
theorem d_Law_law_267 : decode b_Law_law 267 = .ok (.iadd, 1) := by decide +kernel
theorem d_Law_law_268 : decode b_Law_law 268 = .ok (.iaload, 1) := by decide +kernel
theorem d_Law_law_269 : decode b_Law_law 269 = .ok (.invokevirtual 78, 3) := by decide +kernel
theorem d_Law_law_272 : decode b_Law_law 272 = .ok (.goto 686, 3) := by decide +kernel
theorem d_Law_law_275 : decode b_Law_law 275 = .ok (.aload_n 1, 1) := by decide +kernel
theorem d_Law_law_276 : decode b_Law_law 276 = .ok (.aload_n 0, 1) := by decide +kernel
theorem d_Law_law_277 : decode b_Law_law 277 = .ok (.iload 4, 2) := by decide +kernel
theorem d_Law_law_279 : decode b_Law_law 279 = .ok (.iconst 1, 1) := by decide +kernel
theorem d_Law_law_280 : decode b_Law_law 280 = .ok (.iadd, 1) := by decide +kernel
theorem d_Law_law_281 : decode b_Law_law 281 = .ok (.iaload, 1) := by decide +kernel
theorem d_Law_law_282 : decode b_Law_law 282 = .ok (.aload_n 0, 1) := by decide +kernel
theorem d_Law_law_283 : decode b_Law_law 283 = .ok (.iload 4, 2) := by decide +kernel
theorem d_Law_law_285 : decode b_Law_law 285 = .ok (.iconst 2, 1) := by decide +kernel
theorem d_Law_law_286 : decode b_Law_law 286 = .ok (.iadd, 1) := by decide +kernel
theorem d_Law_law_287 : decode b_Law_law 287 = .ok (.iaload, 1) := by decide +kernel
theorem d_Law_law_288 : decode b_Law_law 288 = .ok (.aload_n 3, 1) := by decide +kernel
theorem d_Law_law_289 : decode b_Law_law 289 = .ok (.invokestatic 79, 3) := by decide +kernel
theorem d_Law_law_292 : decode b_Law_law 292 = .ok (.istore 5, 2) := by decide +kernel
theorem d_Law_law_294 : decode b_Law_law 294 = .ok (.aload_n 2, 1) := by decide +kernel
theorem d_Law_law_295 : decode b_Law_law 295 = .ok (.aload_n 0, 1) := by decide +kernel
theorem d_Law_law_296 : decode b_Law_law 296 = .ok (.iload 4, 2) := by decide +kernel
theorem d_Law_law_298 : decode b_Law_law 298 = .ok (.iconst 1, 1) := by decide +kernel
theorem d_Law_law_299 : decode b_Law_law 299 = .ok (.iadd, 1) := by decide +kernel
theorem d_Law_law_300 : decode b_Law_law 300 = .ok (.iaload, 1) := by decide +kernel
theorem d_Law_law_301 : decode b_Law_law 301 = .ok (.aload_n 0, 1) := by decide +kernel
theorem d_Law_law_302 : decode b_Law_law 302 = .ok (.iload 4, 2) := by decide +kernel
theorem d_Law_law_304 : decode b_Law_law 304 = .ok (.iconst 2, 1) := by decide +kernel
theorem d_Law_law_305 : decode b_Law_law 305 = .ok (.iadd, 1) := by decide +kernel
theorem d_Law_law_306 : decode b_Law_law 306 = .ok (.iaload, 1) := by decide +kernel
theorem d_Law_law_307 : decode b_Law_law 307 = .ok (.invokevirtual 82, 3) := by decide +kernel
theorem d_Law_law_310 : decode b_Law_law 310 = .ok (.istore 6, 2) := by decide +kernel
theorem d_Law_law_312 : decode b_Law_law 312 = .ok (.goto 646, 3) := by decide +kernel
theorem d_Law_law_315 : decode b_Law_law 315 = .ok (.aload_n 1, 1) := by decide +kernel
theorem d_Law_law_316 : decode b_Law_law 316 = .ok (.aload_n 0, 1) := by decide +kernel
theorem d_Law_law_317 : decode b_Law_law 317 = .ok (.iload 4, 2) := by decide +kernel
theorem d_Law_law_319 : decode b_Law_law 319 = .ok (.iconst 1, 1) := by decide +kernel
theorem d_Law_law_320 : decode b_Law_law 320 = .ok (.iadd, 1) := by decide +kernel
theorem d_Law_law_321 : decode b_Law_law 321 = .ok (.iaload, 1) := by decide +kernel
theorem d_Law_law_322 : decode b_Law_law 322 = .ok (.invokestatic 83, 3) := by decide +kernel
theorem d_Law_law_325 : decode b_Law_law 325 = .ok (.istore 5, 2) := by decide +kernel
theorem d_Law_law_327 : decode b_Law_law 327 = .ok (.aload_n 2, 1) := by decide +kernel
theorem d_Law_law_328 : decode b_Law_law 328 = .ok (.aload_n 0, 1) := by decide +kernel
theorem d_Law_law_329 : decode b_Law_law 329 = .ok (.iload 4, 2) := by decide +kernel
theorem d_Law_law_331 : decode b_Law_law 331 = .ok (.iconst 1, 1) := by decide +kernel
theorem d_Law_law_332 : decode b_Law_law 332 = .ok (.iadd, 1) := by decide +kernel
theorem d_Law_law_333 : decode b_Law_law 333 = .ok (.iaload, 1) := by decide +kernel
theorem d_Law_law_334 : decode b_Law_law 334 = .ok (.invokevirtual 85, 3) := by decide +kernel
theorem d_Law_law_337 : decode b_Law_law 337 = .ok (.goto 621, 3) := by decide +kernel
theorem d_Law_law_340 : decode b_Law_law 340 = .ok (.aload_n 1, 1) := by decide +kernel
theorem d_Law_law_341 : decode b_Law_law 341 = .ok (.aload_n 3, 1) := by decide +kernel
theorem d_Law_law_342 : decode b_Law_law 342 = .ok (.invokestatic 86, 3) := by decide +kernel
theorem d_Law_law_345 : decode b_Law_law 345 = .ok (.istore 5, 2) := by decide +kernel
theorem d_Law_law_347 : decode b_Law_law 347 = .ok (.aload_n 2, 1) := by decide +kernel
theorem d_Law_law_348 : decode b_Law_law 348 = .ok (.invokevirtual 89, 3) := by decide +kernel
theorem d_Law_law_351 : decode b_Law_law 351 = .ok (.istore 6, 2) := by decide +kernel
theorem d_Law_law_353 : decode b_Law_law 353 = .ok (.goto 605, 3) := by decide +kernel
theorem d_Law_law_356 : decode b_Law_law 356 = .ok (.aload_n 1, 1) := by decide +kernel
theorem d_Law_law_357 : decode b_Law_law 357 = .ok (.aload_n 0, 1) := by decide +kernel
theorem d_Law_law_358 : decode b_Law_law 358 = .ok (.iload 4, 2) := by decide +kernel
theorem d_Law_law_360 : decode b_Law_law 360 = .ok (.iconst 1, 1) := by decide +kernel
theorem d_Law_law_361 : decode b_Law_law 361 = .ok (.iadd, 1) := by decide +kernel
theorem d_Law_law_362 : decode b_Law_law 362 = .ok (.iaload, 1) := by decide +kernel
theorem d_Law_law_363 : decode b_Law_law 363 = .ok (.invokevirtual 90, 3) := by decide +kernel
theorem d_Law_law_366 : decode b_Law_law 366 = .ok (.pop, 1) := by decide +kernel
theorem d_Law_law_367 : decode b_Law_law 367 = .ok (.aload_n 2, 1) := by decide +kernel
theorem d_Law_law_368 : decode b_Law_law 368 = .ok (.aload_n 0, 1) := by decide +kernel
theorem d_Law_law_369 : decode b_Law_law 369 = .ok (.iload 4, 2) := by decide +kernel
theorem d_Law_law_371 : decode b_Law_law 371 = .ok (.iconst 1, 1) := by decide +kernel
theorem d_Law_law_372 : decode b_Law_law 372 = .ok (.iadd, 1) := by decide +kernel
theorem d_Law_law_373 : decode b_Law_law 373 = .ok (.iaload, 1) := by decide +kernel
theorem d_Law_law_374 : decode b_Law_law 374 = .ok (.invokevirtual 93, 3) := by decide +kernel
theorem d_Law_law_377 : decode b_Law_law 377 = .ok (.pop, 1) := by decide +kernel
theorem d_Law_law_378 : decode b_Law_law 378 = .ok (.goto 580, 3) := by decide +kernel
theorem d_Law_law_381 : decode b_Law_law 381 = .ok (.aload_n 1, 1) := by decide +kernel
theorem d_Law_law_382 : decode b_Law_law 382 = .ok (.aload_n 0, 1) := by decide +kernel
theorem d_Law_law_383 : decode b_Law_law 383 = .ok (.iload 4, 2) := by decide +kernel
theorem d_Law_law_385 : decode b_Law_law 385 = .ok (.iconst 1, 1) := by decide +kernel
theorem d_Law_law_386 : decode b_Law_law 386 = .ok (.iadd, 1) := by decide +kernel
theorem d_Law_law_387 : decode b_Law_law 387 = .ok (.iaload, 1) := by decide +kernel
theorem d_Law_law_388 : decode b_Law_law 388 = .ok (.aload_n 0, 1) := by decide +kernel
theorem d_Law_law_389 : decode b_Law_law 389 = .ok (.iload 4, 2) := by decide +kernel
theorem d_Law_law_391 : decode b_Law_law 391 = .ok (.iconst 2, 1) := by decide +kernel
theorem d_Law_law_392 : decode b_Law_law 392 = .ok (.iadd, 1) := by decide +kernel
theorem d_Law_law_393 : decode b_Law_law 393 = .ok (.iaload, 1) := by decide +kernel
theorem d_Law_law_394 : decode b_Law_law 394 = .ok (.aload_n 0, 1) := by decide +kernel
theorem d_Law_law_395 : decode b_Law_law 395 = .ok (.iload 4, 2) := by decide +kernel
theorem d_Law_law_397 : decode b_Law_law 397 = .ok (.iconst 3, 1) := by decide +kernel
theorem d_Law_law_398 : decode b_Law_law 398 = .ok (.iadd, 1) := by decide +kernel
theorem d_Law_law_399 : decode b_Law_law 399 = .ok (.iaload, 1) := by decide +kernel
theorem d_Law_law_400 : decode b_Law_law 400 = .ok (.i2l, 1) := by decide +kernel
theorem d_Law_law_401 : decode b_Law_law 401 = .ok (.bipush 32, 2) := by decide +kernel
theorem d_Law_law_403 : decode b_Law_law 403 = .ok (.lshl, 1) := by decide +kernel
theorem d_Law_law_404 : decode b_Law_law 404 = .ok (.aload_n 0, 1) := by decide +kernel
theorem d_Law_law_405 : decode b_Law_law 405 = .ok (.iload 4, 2) := by decide +kernel
theorem d_Law_law_407 : decode b_Law_law 407 = .ok (.iconst 4, 1) := by decide +kernel
theorem d_Law_law_408 : decode b_Law_law 408 = .ok (.iadd, 1) := by decide +kernel
theorem d_Law_law_409 : decode b_Law_law 409 = .ok (.iaload, 1) := by decide +kernel
theorem d_Law_law_410 : decode b_Law_law 410 = .ok (.i2l, 1) := by decide +kernel
theorem d_Law_law_411 : decode b_Law_law 411 = .ok (.ldc2_w 94, 3) := by decide +kernel
theorem d_Law_law_414 : decode b_Law_law 414 = .ok (.land, 1) := by decide +kernel
theorem d_Law_law_415 : decode b_Law_law 415 = .ok (.lor, 1) := by decide +kernel
theorem d_Law_law_416 : decode b_Law_law 416 = .ok (.invokestatic 96, 3) := by decide +kernel
theorem d_Law_law_419 : decode b_Law_law 419 = .ok (.istore 5, 2) := by decide +kernel
theorem d_Law_law_421 : decode b_Law_law 421 = .ok (.aload_n 2, 1) := by decide +kernel
theorem d_Law_law_422 : decode b_Law_law 422 = .ok (.aload_n 0, 1) := by decide +kernel
theorem d_Law_law_423 : decode b_Law_law 423 = .ok (.iload 4, 2) := by decide +kernel
theorem d_Law_law_425 : decode b_Law_law 425 = .ok (.iconst 1, 1) := by decide +kernel
theorem d_Law_law_426 : decode b_Law_law 426 = .ok (.iadd, 1) := by decide +kernel
theorem d_Law_law_427 : decode b_Law_law 427 = .ok (.iaload, 1) := by decide +kernel
theorem d_Law_law_428 : decode b_Law_law 428 = .ok (.aload_n 0, 1) := by decide +kernel
theorem d_Law_law_429 : decode b_Law_law 429 = .ok (.iload 4, 2) := by decide +kernel
theorem d_Law_law_431 : decode b_Law_law 431 = .ok (.iconst 2, 1) := by decide +kernel
theorem d_Law_law_432 : decode b_Law_law 432 = .ok (.iadd, 1) := by decide +kernel
theorem d_Law_law_433 : decode b_Law_law 433 = .ok (.iaload, 1) := by decide +kernel
theorem d_Law_law_434 : decode b_Law_law 434 = .ok (.aload_n 0, 1) := by decide +kernel
theorem d_Law_law_435 : decode b_Law_law 435 = .ok (.iload 4, 2) := by decide +kernel
theorem d_Law_law_437 : decode b_Law_law 437 = .ok (.iconst 3, 1) := by decide +kernel
theorem d_Law_law_438 : decode b_Law_law 438 = .ok (.iadd, 1) := by decide +kernel
theorem d_Law_law_439 : decode b_Law_law 439 = .ok (.iaload, 1) := by decide +kernel
theorem d_Law_law_440 : decode b_Law_law 440 = .ok (.i2l, 1) := by decide +kernel
theorem d_Law_law_441 : decode b_Law_law 441 = .ok (.bipush 32, 2) := by decide +kernel
theorem d_Law_law_443 : decode b_Law_law 443 = .ok (.lshl, 1) := by decide +kernel
theorem d_Law_law_444 : decode b_Law_law 444 = .ok (.aload_n 0, 1) := by decide +kernel
theorem d_Law_law_445 : decode b_Law_law 445 = .ok (.iload 4, 2) := by decide +kernel
theorem d_Law_law_447 : decode b_Law_law 447 = .ok (.iconst 4, 1) := by decide +kernel
theorem d_Law_law_448 : decode b_Law_law 448 = .ok (.iadd, 1) := by decide +kernel
theorem d_Law_law_449 : decode b_Law_law 449 = .ok (.iaload, 1) := by decide +kernel
theorem d_Law_law_450 : decode b_Law_law 450 = .ok (.i2l, 1) := by decide +kernel
theorem d_Law_law_451 : decode b_Law_law 451 = .ok (.ldc2_w 94, 3) := by decide +kernel
theorem d_Law_law_454 : decode b_Law_law 454 = .ok (.land, 1) := by decide +kernel
theorem d_Law_law_455 : decode b_Law_law 455 = .ok (.lor, 1) := by decide +kernel
theorem d_Law_law_456 : decode b_Law_law 456 = .ok (.invokevirtual 99, 3) := by decide +kernel
theorem d_Law_law_459 : decode b_Law_law 459 = .ok (.goto 499, 3) := by decide +kernel
theorem d_Law_law_462 : decode b_Law_law 462 = .ok (.aload_n 1, 1) := by decide +kernel
theorem d_Law_law_463 : decode b_Law_law 463 = .ok (.aload_n 0, 1) := by decide +kernel
theorem d_Law_law_464 : decode b_Law_law 464 = .ok (.iload 4, 2) := by decide +kernel
theorem d_Law_law_466 : decode b_Law_law 466 = .ok (.iconst 1, 1) := by decide +kernel
theorem d_Law_law_467 : decode b_Law_law 467 = .ok (.iadd, 1) := by decide +kernel
theorem d_Law_law_468 : decode b_Law_law 468 = .ok (.iaload, 1) := by decide +kernel
theorem d_Law_law_469 : decode b_Law_law 469 = .ok (.aload_n 0, 1) := by decide +kernel
theorem d_Law_law_470 : decode b_Law_law 470 = .ok (.iload 4, 2) := by decide +kernel
theorem d_Law_law_472 : decode b_Law_law 472 = .ok (.iconst 2, 1) := by decide +kernel
theorem d_Law_law_473 : decode b_Law_law 473 = .ok (.iadd, 1) := by decide +kernel
theorem d_Law_law_474 : decode b_Law_law 474 = .ok (.iaload, 1) := by decide +kernel
theorem d_Law_law_475 : decode b_Law_law 475 = .ok (.aload_n 3, 1) := by decide +kernel
theorem d_Law_law_476 : decode b_Law_law 476 = .ok (.invokestatic 100, 3) := by decide +kernel
theorem d_Law_law_479 : decode b_Law_law 479 = .ok (.istore 5, 2) := by decide +kernel
theorem d_Law_law_481 : decode b_Law_law 481 = .ok (.aload_n 2, 1) := by decide +kernel
theorem d_Law_law_482 : decode b_Law_law 482 = .ok (.aload_n 0, 1) := by decide +kernel
theorem d_Law_law_483 : decode b_Law_law 483 = .ok (.iload 4, 2) := by decide +kernel
theorem d_Law_law_485 : decode b_Law_law 485 = .ok (.iconst 1, 1) := by decide +kernel
theorem d_Law_law_486 : decode b_Law_law 486 = .ok (.iadd, 1) := by decide +kernel
theorem d_Law_law_487 : decode b_Law_law 487 = .ok (.iaload, 1) := by decide +kernel
theorem d_Law_law_488 : decode b_Law_law 488 = .ok (.aload_n 0, 1) := by decide +kernel
theorem d_Law_law_489 : decode b_Law_law 489 = .ok (.iload 4, 2) := by decide +kernel
theorem d_Law_law_491 : decode b_Law_law 491 = .ok (.iconst 2, 1) := by decide +kernel
theorem d_Law_law_492 : decode b_Law_law 492 = .ok (.iadd, 1) := by decide +kernel
theorem d_Law_law_493 : decode b_Law_law 493 = .ok (.iaload, 1) := by decide +kernel
theorem d_Law_law_494 : decode b_Law_law 494 = .ok (.invokevirtual 102, 3) := by decide +kernel
theorem d_Law_law_497 : decode b_Law_law 497 = .ok (.lstore 6, 2) := by decide +kernel
theorem d_Law_law_499 : decode b_Law_law 499 = .ok (.goto 459, 3) := by decide +kernel
theorem d_Law_law_502 : decode b_Law_law 502 = .ok (.aload_n 1, 1) := by decide +kernel
theorem d_Law_law_503 : decode b_Law_law 503 = .ok (.aload_n 0, 1) := by decide +kernel
theorem d_Law_law_504 : decode b_Law_law 504 = .ok (.iload 4, 2) := by decide +kernel
theorem d_Law_law_506 : decode b_Law_law 506 = .ok (.iconst 1, 1) := by decide +kernel
theorem d_Law_law_507 : decode b_Law_law 507 = .ok (.iadd, 1) := by decide +kernel
theorem d_Law_law_508 : decode b_Law_law 508 = .ok (.iaload, 1) := by decide +kernel
theorem d_Law_law_509 : decode b_Law_law 509 = .ok (.aload_n 3, 1) := by decide +kernel
theorem d_Law_law_510 : decode b_Law_law 510 = .ok (.invokestatic 103, 3) := by decide +kernel
theorem d_Law_law_513 : decode b_Law_law 513 = .ok (.istore 5, 2) := by decide +kernel
theorem d_Law_law_515 : decode b_Law_law 515 = .ok (.aload_n 2, 1) := by decide +kernel
theorem d_Law_law_516 : decode b_Law_law 516 = .ok (.aload_n 0, 1) := by decide +kernel
theorem d_Law_law_517 : decode b_Law_law 517 = .ok (.iload 4, 2) := by decide +kernel
theorem d_Law_law_519 : decode b_Law_law 519 = .ok (.iconst 1, 1) := by decide +kernel
theorem d_Law_law_520 : decode b_Law_law 520 = .ok (.iadd, 1) := by decide +kernel
theorem d_Law_law_521 : decode b_Law_law 521 = .ok (.iaload, 1) := by decide +kernel
theorem d_Law_law_522 : decode b_Law_law 522 = .ok (.invokevirtual 106, 3) := by decide +kernel
theorem d_Law_law_525 : decode b_Law_law 525 = .ok (.istore 6, 2) := by decide +kernel
theorem d_Law_law_527 : decode b_Law_law 527 = .ok (.goto 431, 3) := by decide +kernel
theorem d_Law_law_530 : decode b_Law_law 530 = .ok (.aload_n 1, 1) := by decide +kernel
theorem d_Law_law_531 : decode b_Law_law 531 = .ok (.aload_n 0, 1) := by decide +kernel
theorem d_Law_law_532 : decode b_Law_law 532 = .ok (.iload 4, 2) := by decide +kernel
theorem d_Law_law_534 : decode b_Law_law 534 = .ok (.iconst 1, 1) := by decide +kernel
theorem d_Law_law_535 : decode b_Law_law 535 = .ok (.iadd, 1) := by decide +kernel
theorem d_Law_law_536 : decode b_Law_law 536 = .ok (.iaload, 1) := by decide +kernel
theorem d_Law_law_537 : decode b_Law_law 537 = .ok (.aload_n 0, 1) := by decide +kernel
theorem d_Law_law_538 : decode b_Law_law 538 = .ok (.iload 4, 2) := by decide +kernel
theorem d_Law_law_540 : decode b_Law_law 540 = .ok (.iconst 2, 1) := by decide +kernel
theorem d_Law_law_541 : decode b_Law_law 541 = .ok (.iadd, 1) := by decide +kernel
theorem d_Law_law_542 : decode b_Law_law 542 = .ok (.iaload, 1) := by decide +kernel
theorem d_Law_law_543 : decode b_Law_law 543 = .ok (.aload_n 0, 1) := by decide +kernel
theorem d_Law_law_544 : decode b_Law_law 544 = .ok (.iload 4, 2) := by decide +kernel
theorem d_Law_law_546 : decode b_Law_law 546 = .ok (.iconst 3, 1) := by decide +kernel
theorem d_Law_law_547 : decode b_Law_law 547 = .ok (.iadd, 1) := by decide +kernel
theorem d_Law_law_548 : decode b_Law_law 548 = .ok (.iaload, 1) := by decide +kernel
theorem d_Law_law_549 : decode b_Law_law 549 = .ok (.invokevirtual 107, 3) := by decide +kernel
theorem d_Law_law_552 : decode b_Law_law 552 = .ok (.pop, 1) := by decide +kernel
theorem d_Law_law_553 : decode b_Law_law 553 = .ok (.aload_n 2, 1) := by decide +kernel
theorem d_Law_law_554 : decode b_Law_law 554 = .ok (.aload_n 0, 1) := by decide +kernel
theorem d_Law_law_555 : decode b_Law_law 555 = .ok (.iload 4, 2) := by decide +kernel
theorem d_Law_law_557 : decode b_Law_law 557 = .ok (.iconst 1, 1) := by decide +kernel
theorem d_Law_law_558 : decode b_Law_law 558 = .ok (.iadd, 1) := by decide +kernel
theorem d_Law_law_559 : decode b_Law_law 559 = .ok (.iaload, 1) := by decide +kernel
theorem d_Law_law_560 : decode b_Law_law 560 = .ok (.aload_n 0, 1) := by decide +kernel
theorem d_Law_law_561 : decode b_Law_law 561 = .ok (.iload 4, 2) := by decide +kernel
theorem d_Law_law_563 : decode b_Law_law 563 = .ok (.iconst 2, 1) := by decide +kernel
theorem d_Law_law_564 : decode b_Law_law 564 = .ok (.iadd, 1) := by decide +kernel
theorem d_Law_law_565 : decode b_Law_law 565 = .ok (.iaload, 1) := by decide +kernel
theorem d_Law_law_566 : decode b_Law_law 566 = .ok (.aload_n 0, 1) := by decide +kernel
theorem d_Law_law_567 : decode b_Law_law 567 = .ok (.iload 4, 2) := by decide +kernel
theorem d_Law_law_569 : decode b_Law_law 569 = .ok (.iconst 3, 1) := by decide +kernel
theorem d_Law_law_570 : decode b_Law_law 570 = .ok (.iadd, 1) := by decide +kernel
theorem d_Law_law_571 : decode b_Law_law 571 = .ok (.iaload, 1) := by decide +kernel
theorem d_Law_law_572 : decode b_Law_law 572 = .ok (.invokevirtual 111, 3) := by decide +kernel
theorem d_Law_law_575 : decode b_Law_law 575 = .ok (.pop, 1) := by decide +kernel
theorem d_Law_law_576 : decode b_Law_law 576 = .ok (.goto 382, 3) := by decide +kernel
theorem d_Law_law_579 : decode b_Law_law 579 = .ok (.aload_n 1, 1) := by decide +kernel
theorem d_Law_law_580 : decode b_Law_law 580 = .ok (.aload_n 0, 1) := by decide +kernel
theorem d_Law_law_581 : decode b_Law_law 581 = .ok (.iload 4, 2) := by decide +kernel
theorem d_Law_law_583 : decode b_Law_law 583 = .ok (.iconst 1, 1) := by decide +kernel
theorem d_Law_law_584 : decode b_Law_law 584 = .ok (.iadd, 1) := by decide +kernel
theorem d_Law_law_585 : decode b_Law_law 585 = .ok (.iaload, 1) := by decide +kernel
theorem d_Law_law_586 : decode b_Law_law 586 = .ok (.aload_n 0, 1) := by decide +kernel
theorem d_Law_law_587 : decode b_Law_law 587 = .ok (.iload 4, 2) := by decide +kernel
theorem d_Law_law_589 : decode b_Law_law 589 = .ok (.iconst 2, 1) := by decide +kernel
theorem d_Law_law_590 : decode b_Law_law 590 = .ok (.iadd, 1) := by decide +kernel
theorem d_Law_law_591 : decode b_Law_law 591 = .ok (.iaload, 1) := by decide +kernel
theorem d_Law_law_592 : decode b_Law_law 592 = .ok (.invokevirtual 112, 3) := by decide +kernel
theorem d_Law_law_595 : decode b_Law_law 595 = .ok (.pop2, 1) := by decide +kernel
theorem d_Law_law_596 : decode b_Law_law 596 = .ok (.aload_n 2, 1) := by decide +kernel
theorem d_Law_law_597 : decode b_Law_law 597 = .ok (.aload_n 0, 1) := by decide +kernel
theorem d_Law_law_598 : decode b_Law_law 598 = .ok (.iload 4, 2) := by decide +kernel
theorem d_Law_law_600 : decode b_Law_law 600 = .ok (.iconst 1, 1) := by decide +kernel
theorem d_Law_law_601 : decode b_Law_law 601 = .ok (.iadd, 1) := by decide +kernel
theorem d_Law_law_602 : decode b_Law_law 602 = .ok (.iaload, 1) := by decide +kernel
theorem d_Law_law_603 : decode b_Law_law 603 = .ok (.aload_n 0, 1) := by decide +kernel
theorem d_Law_law_604 : decode b_Law_law 604 = .ok (.iload 4, 2) := by decide +kernel
theorem d_Law_law_606 : decode b_Law_law 606 = .ok (.iconst 2, 1) := by decide +kernel
theorem d_Law_law_607 : decode b_Law_law 607 = .ok (.iadd, 1) := by decide +kernel
theorem d_Law_law_608 : decode b_Law_law 608 = .ok (.iaload, 1) := by decide +kernel
theorem d_Law_law_609 : decode b_Law_law 609 = .ok (.invokevirtual 115, 3) := by decide +kernel
theorem d_Law_law_612 : decode b_Law_law 612 = .ok (.pop2, 1) := by decide +kernel
theorem d_Law_law_613 : decode b_Law_law 613 = .ok (.goto 345, 3) := by decide +kernel
theorem d_Law_law_616 : decode b_Law_law 616 = .ok (.aload_n 1, 1) := by decide +kernel
theorem d_Law_law_617 : decode b_Law_law 617 = .ok (.aload_n 0, 1) := by decide +kernel
theorem d_Law_law_618 : decode b_Law_law 618 = .ok (.iload 4, 2) := by decide +kernel
theorem d_Law_law_620 : decode b_Law_law 620 = .ok (.iconst 1, 1) := by decide +kernel
theorem d_Law_law_621 : decode b_Law_law 621 = .ok (.iadd, 1) := by decide +kernel
theorem d_Law_law_622 : decode b_Law_law 622 = .ok (.iaload, 1) := by decide +kernel
theorem d_Law_law_623 : decode b_Law_law 623 = .ok (.aload_n 0, 1) := by decide +kernel
theorem d_Law_law_624 : decode b_Law_law 624 = .ok (.iload 4, 2) := by decide +kernel
theorem d_Law_law_626 : decode b_Law_law 626 = .ok (.iconst 2, 1) := by decide +kernel
theorem d_Law_law_627 : decode b_Law_law 627 = .ok (.iadd, 1) := by decide +kernel
theorem d_Law_law_628 : decode b_Law_law 628 = .ok (.iaload, 1) := by decide +kernel
theorem d_Law_law_629 : decode b_Law_law 629 = .ok (.aload_n 0, 1) := by decide +kernel
theorem d_Law_law_630 : decode b_Law_law 630 = .ok (.iload 4, 2) := by decide +kernel
theorem d_Law_law_632 : decode b_Law_law 632 = .ok (.iconst 3, 1) := by decide +kernel
theorem d_Law_law_633 : decode b_Law_law 633 = .ok (.iadd, 1) := by decide +kernel
theorem d_Law_law_634 : decode b_Law_law 634 = .ok (.iaload, 1) := by decide +kernel
theorem d_Law_law_635 : decode b_Law_law 635 = .ok (.aload_n 0, 1) := by decide +kernel
theorem d_Law_law_636 : decode b_Law_law 636 = .ok (.iload 4, 2) := by decide +kernel
theorem d_Law_law_638 : decode b_Law_law 638 = .ok (.iconst 4, 1) := by decide +kernel
theorem d_Law_law_639 : decode b_Law_law 639 = .ok (.iadd, 1) := by decide +kernel
theorem d_Law_law_640 : decode b_Law_law 640 = .ok (.iaload, 1) := by decide +kernel
theorem d_Law_law_641 : decode b_Law_law 641 = .ok (.invokevirtual 116, 3) := by decide +kernel
theorem d_Law_law_644 : decode b_Law_law 644 = .ok (.pop, 1) := by decide +kernel
theorem d_Law_law_645 : decode b_Law_law 645 = .ok (.aload_n 2, 1) := by decide +kernel
theorem d_Law_law_646 : decode b_Law_law 646 = .ok (.aload_n 0, 1) := by decide +kernel
theorem d_Law_law_647 : decode b_Law_law 647 = .ok (.iload 4, 2) := by decide +kernel
theorem d_Law_law_649 : decode b_Law_law 649 = .ok (.iconst 1, 1) := by decide +kernel
theorem d_Law_law_650 : decode b_Law_law 650 = .ok (.iadd, 1) := by decide +kernel
theorem d_Law_law_651 : decode b_Law_law 651 = .ok (.iaload, 1) := by decide +kernel
theorem d_Law_law_652 : decode b_Law_law 652 = .ok (.aload_n 0, 1) := by decide +kernel
theorem d_Law_law_653 : decode b_Law_law 653 = .ok (.iload 4, 2) := by decide +kernel
theorem d_Law_law_655 : decode b_Law_law 655 = .ok (.iconst 2, 1) := by decide +kernel
theorem d_Law_law_656 : decode b_Law_law 656 = .ok (.iadd, 1) := by decide +kernel
theorem d_Law_law_657 : decode b_Law_law 657 = .ok (.iaload, 1) := by decide +kernel
theorem d_Law_law_658 : decode b_Law_law 658 = .ok (.aload_n 0, 1) := by decide +kernel
theorem d_Law_law_659 : decode b_Law_law 659 = .ok (.iload 4, 2) := by decide +kernel
theorem d_Law_law_661 : decode b_Law_law 661 = .ok (.iconst 3, 1) := by decide +kernel
theorem d_Law_law_662 : decode b_Law_law 662 = .ok (.iadd, 1) := by decide +kernel
theorem d_Law_law_663 : decode b_Law_law 663 = .ok (.iaload, 1) := by decide +kernel
theorem d_Law_law_664 : decode b_Law_law 664 = .ok (.aload_n 0, 1) := by decide +kernel
theorem d_Law_law_665 : decode b_Law_law 665 = .ok (.iload 4, 2) := by decide +kernel
theorem d_Law_law_667 : decode b_Law_law 667 = .ok (.iconst 4, 1) := by decide +kernel
theorem d_Law_law_668 : decode b_Law_law 668 = .ok (.iadd, 1) := by decide +kernel
theorem d_Law_law_669 : decode b_Law_law 669 = .ok (.iaload, 1) := by decide +kernel
theorem d_Law_law_670 : decode b_Law_law 670 = .ok (.invokevirtual 120, 3) := by decide +kernel
theorem d_Law_law_673 : decode b_Law_law 673 = .ok (.pop, 1) := by decide +kernel
theorem d_Law_law_674 : decode b_Law_law 674 = .ok (.goto 284, 3) := by decide +kernel
theorem d_Law_law_677 : decode b_Law_law 677 = .ok (.aload_n 1, 1) := by decide +kernel
theorem d_Law_law_678 : decode b_Law_law 678 = .ok (.aload_n 0, 1) := by decide +kernel
theorem d_Law_law_679 : decode b_Law_law 679 = .ok (.iload 4, 2) := by decide +kernel
theorem d_Law_law_681 : decode b_Law_law 681 = .ok (.iconst 1, 1) := by decide +kernel
theorem d_Law_law_682 : decode b_Law_law 682 = .ok (.iadd, 1) := by decide +kernel
theorem d_Law_law_683 : decode b_Law_law 683 = .ok (.iaload, 1) := by decide +kernel
theorem d_Law_law_684 : decode b_Law_law 684 = .ok (.aload_n 0, 1) := by decide +kernel
theorem d_Law_law_685 : decode b_Law_law 685 = .ok (.iload 4, 2) := by decide +kernel
theorem d_Law_law_687 : decode b_Law_law 687 = .ok (.iconst 2, 1) := by decide +kernel
theorem d_Law_law_688 : decode b_Law_law 688 = .ok (.iadd, 1) := by decide +kernel
theorem d_Law_law_689 : decode b_Law_law 689 = .ok (.iaload, 1) := by decide +kernel
theorem d_Law_law_690 : decode b_Law_law 690 = .ok (.ifCond .eq 7, 3) := by decide +kernel
theorem d_Law_law_693 : decode b_Law_law 693 = .ok (.iconst 1, 1) := by decide +kernel
theorem d_Law_law_694 : decode b_Law_law 694 = .ok (.goto 4, 3) := by decide +kernel
theorem d_Law_law_697 : decode b_Law_law 697 = .ok (.iconst 0, 1) := by decide +kernel
theorem d_Law_law_698 : decode b_Law_law 698 = .ok (.aload_n 3, 1) := by decide +kernel
theorem d_Law_law_699 : decode b_Law_law 699 = .ok (.invokestatic 121, 3) := by decide +kernel
theorem d_Law_law_702 : decode b_Law_law 702 = .ok (.istore 5, 2) := by decide +kernel
theorem d_Law_law_704 : decode b_Law_law 704 = .ok (.aload_n 2, 1) := by decide +kernel
theorem d_Law_law_705 : decode b_Law_law 705 = .ok (.aload_n 0, 1) := by decide +kernel
theorem d_Law_law_706 : decode b_Law_law 706 = .ok (.iload 4, 2) := by decide +kernel
theorem d_Law_law_708 : decode b_Law_law 708 = .ok (.iconst 1, 1) := by decide +kernel
theorem d_Law_law_709 : decode b_Law_law 709 = .ok (.iadd, 1) := by decide +kernel
theorem d_Law_law_710 : decode b_Law_law 710 = .ok (.iaload, 1) := by decide +kernel
theorem d_Law_law_711 : decode b_Law_law 711 = .ok (.aload_n 0, 1) := by decide +kernel
theorem d_Law_law_712 : decode b_Law_law 712 = .ok (.iload 4, 2) := by decide +kernel
theorem d_Law_law_714 : decode b_Law_law 714 = .ok (.iconst 2, 1) := by decide +kernel
theorem d_Law_law_715 : decode b_Law_law 715 = .ok (.iadd, 1) := by decide +kernel
theorem d_Law_law_716 : decode b_Law_law 716 = .ok (.iaload, 1) := by decide +kernel
theorem d_Law_law_717 : decode b_Law_law 717 = .ok (.ifCond .eq 7, 3) := by decide +kernel
theorem d_Law_law_720 : decode b_Law_law 720 = .ok (.iconst 1, 1) := by decide +kernel
theorem d_Law_law_721 : decode b_Law_law 721 = .ok (.goto 4, 3) := by decide +kernel
theorem d_Law_law_724 : decode b_Law_law 724 = .ok (.iconst 0, 1) := by decide +kernel
theorem d_Law_law_725 : decode b_Law_law 725 = .ok (.invokevirtual 124, 3) := by decide +kernel
theorem d_Law_law_728 : decode b_Law_law 728 = .ok (.istore 6, 2) := by decide +kernel
theorem d_Law_law_730 : decode b_Law_law 730 = .ok (.goto 228, 3) := by decide +kernel
theorem d_Law_law_733 : decode b_Law_law 733 = .ok (.aload_n 1, 1) := by decide +kernel
theorem d_Law_law_734 : decode b_Law_law 734 = .ok (.aload_n 0, 1) := by decide +kernel
theorem d_Law_law_735 : decode b_Law_law 735 = .ok (.iload 4, 2) := by decide +kernel
theorem d_Law_law_737 : decode b_Law_law 737 = .ok (.iconst 1, 1) := by decide +kernel
theorem d_Law_law_738 : decode b_Law_law 738 = .ok (.iadd, 1) := by decide +kernel
theorem d_Law_law_739 : decode b_Law_law 739 = .ok (.iaload, 1) := by decide +kernel
theorem d_Law_law_740 : decode b_Law_law 740 = .ok (.invokevirtual 125, 3) := by decide +kernel
theorem d_Law_law_743 : decode b_Law_law 743 = .ok (.aload_n 2, 1) := by decide +kernel
theorem d_Law_law_744 : decode b_Law_law 744 = .ok (.aload_n 0, 1) := by decide +kernel
theorem d_Law_law_745 : decode b_Law_law 745 = .ok (.iload 4, 2) := by decide +kernel
theorem d_Law_law_747 : decode b_Law_law 747 = .ok (.iconst 1, 1) := by decide +kernel
theorem d_Law_law_748 : decode b_Law_law 748 = .ok (.iadd, 1) := by decide +kernel
theorem d_Law_law_749 : decode b_Law_law 749 = .ok (.iaload, 1) := by decide +kernel
theorem d_Law_law_750 : decode b_Law_law 750 = .ok (.invokevirtual 128, 3) := by decide +kernel
theorem d_Law_law_753 : decode b_Law_law 753 = .ok (.if_icmp .eq 205, 3) := by decide +kernel
theorem d_Law_law_756 : decode b_Law_law 756 = .ok (.iconst 0, 1) := by decide +kernel
theorem d_Law_law_757 : decode b_Law_law 757 = .ok (.ireturn, 1) := by decide +kernel
theorem d_Law_law_758 : decode b_Law_law 758 = .ok (.aload_n 1, 1) := by decide +kernel
theorem d_Law_law_759 : decode b_Law_law 759 = .ok (.aload_n 0, 1) := by decide +kernel
theorem d_Law_law_760 : decode b_Law_law 760 = .ok (.iload 4, 2) := by decide +kernel
theorem d_Law_law_762 : decode b_Law_law 762 = .ok (.iconst 1, 1) := by decide +kernel
theorem d_Law_law_763 : decode b_Law_law 763 = .ok (.iadd, 1) := by decide +kernel
theorem d_Law_law_764 : decode b_Law_law 764 = .ok (.iaload, 1) := by decide +kernel
theorem d_Law_law_765 : decode b_Law_law 765 = .ok (.aload_n 0, 1) := by decide +kernel
theorem d_Law_law_766 : decode b_Law_law 766 = .ok (.iload 4, 2) := by decide +kernel
theorem d_Law_law_768 : decode b_Law_law 768 = .ok (.iconst 2, 1) := by decide +kernel
theorem d_Law_law_769 : decode b_Law_law 769 = .ok (.iadd, 1) := by decide +kernel
theorem d_Law_law_770 : decode b_Law_law 770 = .ok (.iaload, 1) := by decide +kernel
theorem d_Law_law_771 : decode b_Law_law 771 = .ok (.invokevirtual 129, 3) := by decide +kernel
theorem d_Law_law_774 : decode b_Law_law 774 = .ok (.pop, 1) := by decide +kernel
theorem d_Law_law_775 : decode b_Law_law 775 = .ok (.aload_n 2, 1) := by decide +kernel
theorem d_Law_law_776 : decode b_Law_law 776 = .ok (.aload_n 0, 1) := by decide +kernel
theorem d_Law_law_777 : decode b_Law_law 777 = .ok (.iload 4, 2) := by decide +kernel
theorem d_Law_law_779 : decode b_Law_law 779 = .ok (.iconst 1, 1) := by decide +kernel
theorem d_Law_law_780 : decode b_Law_law 780 = .ok (.iadd, 1) := by decide +kernel
theorem d_Law_law_781 : decode b_Law_law 781 = .ok (.iaload, 1) := by decide +kernel
theorem d_Law_law_782 : decode b_Law_law 782 = .ok (.aload_n 0, 1) := by decide +kernel
theorem d_Law_law_783 : decode b_Law_law 783 = .ok (.iload 4, 2) := by decide +kernel
theorem d_Law_law_785 : decode b_Law_law 785 = .ok (.iconst 2, 1) := by decide +kernel
theorem d_Law_law_786 : decode b_Law_law 786 = .ok (.iadd, 1) := by decide +kernel
theorem d_Law_law_787 : decode b_Law_law 787 = .ok (.iaload, 1) := by decide +kernel
theorem d_Law_law_788 : decode b_Law_law 788 = .ok (.invokevirtual 132, 3) := by decide +kernel
theorem d_Law_law_791 : decode b_Law_law 791 = .ok (.pop, 1) := by decide +kernel
theorem d_Law_law_792 : decode b_Law_law 792 = .ok (.goto 166, 3) := by decide +kernel
theorem d_Law_law_795 : decode b_Law_law 795 = .ok (.aload_n 1, 1) := by decide +kernel
theorem d_Law_law_796 : decode b_Law_law 796 = .ok (.aload_n 3, 1) := by decide +kernel
theorem d_Law_law_797 : decode b_Law_law 797 = .ok (.invokestatic 133, 3) := by decide +kernel
theorem d_Law_law_800 : decode b_Law_law 800 = .ok (.istore 5, 2) := by decide +kernel
theorem d_Law_law_802 : decode b_Law_law 802 = .ok (.aload_n 2, 1) := by decide +kernel
theorem d_Law_law_803 : decode b_Law_law 803 = .ok (.invokevirtual 135, 3) := by decide +kernel
theorem d_Law_law_806 : decode b_Law_law 806 = .ok (.istore 6, 2) := by decide +kernel
theorem d_Law_law_808 : decode b_Law_law 808 = .ok (.goto 150, 3) := by decide +kernel
theorem d_Law_law_811 : decode b_Law_law 811 = .ok (.aload_n 1, 1) := by decide +kernel
theorem d_Law_law_812 : decode b_Law_law 812 = .ok (.aload_n 0, 1) := by decide +kernel

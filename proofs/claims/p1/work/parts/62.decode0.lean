theorem d_Law_law_0 : decode b_Law_law 0 = .ok (.new 8, 3) := by decide +kernel
theorem d_Law_law_3 : decode b_Law_law 3 = .ok (.dup, 1) := by decide +kernel
theorem d_Law_law_4 : decode b_Law_law 4 = .ok (.invokespecial 60, 3) := by decide +kernel
theorem d_Law_law_7 : decode b_Law_law 7 = .ok (.astore_n 1, 1) := by decide +kernel
theorem d_Law_law_8 : decode b_Law_law 8 = .ok (.new 61, 3) := by decide +kernel
theorem d_Law_law_11 : decode b_Law_law 11 = .ok (.dup, 1) := by decide +kernel
theorem d_Law_law_12 : decode b_Law_law 12 = .ok (.invokespecial 63, 3) := by decide +kernel
theorem d_Law_law_15 : decode b_Law_law 15 = .ok (.astore_n 2, 1) := by decide +kernel
theorem d_Law_law_16 : decode b_Law_law 16 = .ok (.iconst 1, 1) := by decide +kernel
theorem d_Law_law_17 : decode b_Law_law 17 = .ok (.newarray .long, 2) := by decide +kernel
theorem d_Law_law_19 : decode b_Law_law 19 = .ok (.astore_n 3, 1) := by decide +kernel
theorem d_Law_law_20 : decode b_Law_law 20 = .ok (.iconst 0, 1) := by decide +kernel
theorem d_Law_law_21 : decode b_Law_law 21 = .ok (.istore 4, 2) := by decide +kernel
theorem d_Law_law_23 : decode b_Law_law 23 = .ok (.iload 4, 2) := by decide +kernel
theorem d_Law_law_25 : decode b_Law_law 25 = .ok (.aload_n 0, 1) := by decide +kernel
theorem d_Law_law_26 : decode b_Law_law 26 = .ok (.arraylength, 1) := by decide +kernel
theorem d_Law_law_27 : decode b_Law_law 27 = .ok (.bipush 6, 2) := by decide +kernel
theorem d_Law_law_29 : decode b_Law_law 29 = .ok (.isub, 1) := by decide +kernel
theorem d_Law_law_30 : decode b_Law_law 30 = .ok (.if_icmp .gt 1186, 3) := by decide +kernel
theorem d_Law_law_33 : decode b_Law_law 33 = .ok (.aload_n 0, 1) := by decide +kernel
theorem d_Law_law_34 : decode b_Law_law 34 = .ok (.iload 4, 2) := by decide +kernel
theorem d_Law_law_36 : decode b_Law_law 36 = .ok (.iaload, 1) := by decide +kernel
theorem d_Law_law_37 : decode b_Law_law 37 = .ok (.bipush 31, 2) := by decide +kernel
theorem d_Law_law_39 : decode b_Law_law 39 = .ok (.iand, 1) := by decide +kernel
theorem d_Law_law_40 : decode b_Law_law 40 = .ok (.tableswitch 1170 0 20 #[100, 184, 221, 257, 325, 361, 405, 430, 522, 589, 645, 694, 732, 793, 877, 902, 939, 983, 1063, 1119, 1145], 100) := by decide +kernel
theorem d_Law_law_140 : decode b_Law_law 140 = .ok (.aload_n 1, 1) := by decide +kernel
theorem d_Law_law_141 : decode b_Law_law 141 = .ok (.aload_n 0, 1) := by decide +kernel
theorem d_Law_law_142 : decode b_Law_law 142 = .ok (.iload 4, 2) := by decide +kernel
theorem d_Law_law_144 : decode b_Law_law 144 = .ok (.iconst 1, 1) := by decide +kernel
theorem d_Law_law_145 : decode b_Law_law 145 = .ok (.iadd, 1) := by decide +kernel
theorem d_Law_law_146 : decode b_Law_law 146 = .ok (.iaload, 1) := by decide +kernel
theorem d_Law_law_147 : decode b_Law_law 147 = .ok (.aload_n 0, 1) := by decide +kernel
theorem d_Law_law_148 : decode b_Law_law 148 = .ok (.iload 4, 2) := by decide +kernel
theorem d_Law_law_150 : decode b_Law_law 150 = .ok (.iconst 2, 1) := by decide +kernel
theorem d_Law_law_151 : decode b_Law_law 151 = .ok (.iadd, 1) := by decide +kernel
theorem d_Law_law_152 : decode b_Law_law 152 = .ok (.iaload, 1) := by decide +kernel
theorem d_Law_law_153 : decode b_Law_law 153 = .ok (.aload_n 0, 1) := by decide +kernel
theorem d_Law_law_154 : decode b_Law_law 154 = .ok (.iload 4, 2) := by decide +kernel
theorem d_Law_law_156 : decode b_Law_law 156 = .ok (.iconst 3, 1) := by decide +kernel
theorem d_Law_law_157 : decode b_Law_law 157 = .ok (.iadd, 1) := by decide +kernel
theorem d_Law_law_158 : decode b_Law_law 158 = .ok (.iaload, 1) := by decide +kernel
theorem d_Law_law_159 : decode b_Law_law 159 = .ok (.aload_n 0, 1) := by decide +kernel
theorem d_Law_law_160 : decode b_Law_law 160 = .ok (.iload 4, 2) := by decide +kernel
theorem d_Law_law_162 : decode b_Law_law 162 = .ok (.iconst 4, 1) := by decide +kernel
theorem d_Law_law_163 : decode b_Law_law 163 = .ok (.iadd, 1) := by decide +kernel
theorem d_Law_law_164 : decode b_Law_law 164 = .ok (.iaload, 1) := by decide +kernel
theorem d_Law_law_165 : decode b_Law_law 165 = .ok (.aload_n 0, 1) := by decide +kernel
theorem d_Law_law_166 : decode b_Law_law 166 = .ok (.iload 4, 2) := by decide +kernel
theorem d_Law_law_168 : decode b_Law_law 168 = .ok (.iconst 5, 1) := by decide +kernel
theorem d_Law_law_169 : decode b_Law_law 169 = .ok (.iadd, 1) := by decide +kernel
theorem d_Law_law_170 : decode b_Law_law 170 = .ok (.iaload, 1) := by decide +kernel
theorem d_Law_law_171 : decode b_Law_law 171 = .ok (.invokestatic 64, 3) := by decide +kernel
theorem d_Law_law_174 : decode b_Law_law 174 = .ok (.istore 5, 2) := by decide +kernel
theorem d_Law_law_176 : decode b_Law_law 176 = .ok (.aload_n 2, 1) := by decide +kernel
theorem d_Law_law_177 : decode b_Law_law 177 = .ok (.aload_n 0, 1) := by decide +kernel
theorem d_Law_law_178 : decode b_Law_law 178 = .ok (.iload 4, 2) := by decide +kernel
theorem d_Law_law_180 : decode b_Law_law 180 = .ok (.iconst 1, 1) := by decide +kernel
theorem d_Law_law_181 : decode b_Law_law 181 = .ok (.iadd, 1) := by decide +kernel
theorem d_Law_law_182 : decode b_Law_law 182 = .ok (.iaload, 1) := by decide +kernel
theorem d_Law_law_183 : decode b_Law_law 183 = .ok (.aload_n 0, 1) := by decide +kernel
theorem d_Law_law_184 : decode b_Law_law 184 = .ok (.iload 4, 2) := by decide +kernel
theorem d_Law_law_186 : decode b_Law_law 186 = .ok (.iconst 2, 1) := by decide +kernel
theorem d_Law_law_187 : decode b_Law_law 187 = .ok (.iadd, 1) := by decide +kernel
theorem d_Law_law_188 : decode b_Law_law 188 = .ok (.iaload, 1) := by decide +kernel
theorem d_Law_law_189 : decode b_Law_law 189 = .ok (.aload_n 0, 1) := by decide +kernel
theorem d_Law_law_190 : decode b_Law_law 190 = .ok (.iload 4, 2) := by decide +kernel
theorem d_Law_law_192 : decode b_Law_law 192 = .ok (.iconst 3, 1) := by decide +kernel
theorem d_Law_law_193 : decode b_Law_law 193 = .ok (.iadd, 1) := by decide +kernel
theorem d_Law_law_194 : decode b_Law_law 194 = .ok (.iaload, 1) := by decide +kernel
theorem d_Law_law_195 : decode b_Law_law 195 = .ok (.aload_n 0, 1) := by decide +kernel
theorem d_Law_law_196 : decode b_Law_law 196 = .ok (.iload 4, 2) := by decide +kernel
theorem d_Law_law_198 : decode b_Law_law 198 = .ok (.iconst 4, 1) := by decide +kernel
theorem d_Law_law_199 : decode b_Law_law 199 = .ok (.iadd, 1) := by decide +kernel
theorem d_Law_law_200 : decode b_Law_law 200 = .ok (.iaload, 1) := by decide +kernel
theorem d_Law_law_201 : decode b_Law_law 201 = .ok (.aload_n 0, 1) := by decide +kernel
theorem d_Law_law_202 : decode b_Law_law 202 = .ok (.iload 4, 2) := by decide +kernel
theorem d_Law_law_204 : decode b_Law_law 204 = .ok (.iconst 5, 1) := by decide +kernel
theorem d_Law_law_205 : decode b_Law_law 205 = .ok (.iadd, 1) := by decide +kernel
theorem d_Law_law_206 : decode b_Law_law 206 = .ok (.iaload, 1) := by decide +kernel
theorem d_Law_law_207 : decode b_Law_law 207 = .ok (.invokevirtual 69, 3) := by decide +kernel
theorem d_Law_law_210 : decode b_Law_law 210 = .ok (.aload_n 2, 1) := by decide +kernel
theorem d_Law_law_211 : decode b_Law_law 211 = .ok (.invokevirtual 70, 3) := by decide +kernel
theorem d_Law_law_214 : decode b_Law_law 214 = .ok (.iload 5, 2) := by decide +kernel
theorem d_Law_law_216 : decode b_Law_law 216 = .ok (.if_icmp .eq 5, 3) := by decide +kernel
theorem d_Law_law_219 : decode b_Law_law 219 = .ok (.iconst 0, 1) := by decide +kernel
theorem d_Law_law_220 : decode b_Law_law 220 = .ok (.ireturn, 1) := by decide +kernel
theorem d_Law_law_221 : decode b_Law_law 221 = .ok (.goto 989, 3) := by decide +kernel
theorem d_Law_law_224 : decode b_Law_law 224 = .ok (.aload_n 1, 1) := by decide +kernel
theorem d_Law_law_225 : decode b_Law_law 225 = .ok (.aload_n 0, 1) := by decide +kernel
theorem d_Law_law_226 : decode b_Law_law 226 = .ok (.iload 4, 2) := by decide +kernel
theorem d_Law_law_228 : decode b_Law_law 228 = .ok (.iconst 1, 1) := by decide +kernel
theorem d_Law_law_229 : decode b_Law_law 229 = .ok (.iadd, 1) := by decide +kernel
theorem d_Law_law_230 : decode b_Law_law 230 = .ok (.iaload, 1) := by decide +kernel
theorem d_Law_law_231 : decode b_Law_law 231 = .ok (.aload_n 0, 1) := by decide +kernel
theorem d_Law_law_232 : decode b_Law_law 232 = .ok (.iload 4, 2) := by decide +kernel
theorem d_Law_law_234 : decode b_Law_law 234 = .ok (.iconst 2, 1) := by decide +kernel
theorem d_Law_law_235 : decode b_Law_law 235 = .ok (.iadd, 1) := by decide +kernel
theorem d_Law_law_236 : decode b_Law_law 236 = .ok (.iaload, 1) := by decide +kernel
theorem d_Law_law_237 : decode b_Law_law 237 = .ok (.invokevirtual 73, 3) := by decide +kernel
theorem d_Law_law_240 : decode b_Law_law 240 = .ok (.aload_n 2, 1) := by decide +kernel
theorem d_Law_law_241 : decode b_Law_law 241 = .ok (.aload_n 0, 1) := by decide +kernel
theorem d_Law_law_242 : decode b_Law_law 242 = .ok (.iload 4, 2) := by decide +kernel
theorem d_Law_law_244 : decode b_Law_law 244 = .ok (.iconst 1, 1) := by decide +kernel
theorem d_Law_law_245 : decode b_Law_law 245 = .ok (.iadd, 1) := by decide +kernel
theorem d_Law_law_246 : decode b_Law_law 246 = .ok (.iaload, 1) := by decide +kernel
theorem d_Law_law_247 : decode b_Law_law 247 = .ok (.aload_n 0, 1) := by decide +kernel
theorem d_Law_law_248 : decode b_Law_law 248 = .ok (.iload 4, 2) := by decide +kernel
theorem d_Law_law_250 : decode b_Law_law 250 = .ok (.iconst 2, 1) := by decide +kernel
theorem d_Law_law_251 : decode b_Law_law 251 = .ok (.iadd, 1) := by decide +kernel
theorem d_Law_law_252 : decode b_Law_law 252 = .ok (.iaload, 1) := by decide +kernel
theorem d_Law_law_253 : decode b_Law_law 253 = .ok (.invokevirtual 77, 3) := by decide +kernel
theorem d_Law_law_256 : decode b_Law_law 256 = .ok (.if_icmp .eq 954, 3) := by decide +kernel
theorem d_Law_law_259 : decode b_Law_law 259 = .ok (.iconst 0, 1) := by decide +kernel
theorem d_Law_law_260 : decode b_Law_law 260 = .ok (.ireturn, 1) := by decide +kernel
theorem d_Law_law_261 : decode b_Law_law 261 = .ok (.aload_n 1, 1) := by decide +kernel
theorem d_Law_law_262 : decode b_Law_law 262 = .ok (.aload_n 0, 1) := by decide +kernel
theorem d_Law_law_263 : decode b_Law_law 263 = .ok (.iload 4, 2) := by decide +kernel
theorem d_Law_law_265 : decode b_Law_law 265 = .ok (.iconst 1, 1) := by decide +kernel
theorem d_Law_law_266 : decode b_Law_law 266 = .ok (.iadd, 1) := by decide +kernel
theorem d_Law_law_267 : decode b_Law_law 267 = .ok (.iaload, 1) := by decide +kernel
theorem d_Law_law_268 : decode b_Law_law 268 = .ok (.invokestatic 78, 3) := by decide +kernel
theorem d_Law_law_271 : decode b_Law_law 271 = .ok (.istore 5, 2) := by decide +kernel
theorem d_Law_law_273 : decode b_Law_law 273 = .ok (.aload_n 2, 1) := by decide +kernel
theorem d_Law_law_274 : decode b_Law_law 274 = .ok (.aload_n 0, 1) := by decide +kernel
theorem d_Law_law_275 : decode b_Law_law 275 = .ok (.iload 4, 2) := by decide +kernel
theorem d_Law_law_277 : decode b_Law_law 277 = .ok (.iconst 1, 1) := by decide +kernel
theorem d_Law_law_278 : decode b_Law_law 278 = .ok (.iadd, 1) := by decide +kernel
theorem d_Law_law_279 : decode b_Law_law 279 = .ok (.iaload, 1) := by decide +kernel
theorem d_Law_law_280 : decode b_Law_law 280 = .ok (.invokevirtual 81, 3) := by decide +kernel
theorem d_Law_law_283 : decode b_Law_law 283 = .ok (.aload_n 2, 1) := by decide +kernel
theorem d_Law_law_284 : decode b_Law_law 284 = .ok (.invokevirtual 70, 3) := by decide +kernel
theorem d_Law_law_287 : decode b_Law_law 287 = .ok (.iload 5, 2) := by decide +kernel
theorem d_Law_law_289 : decode b_Law_law 289 = .ok (.if_icmp .eq 5, 3) := by decide +kernel
theorem d_Law_law_292 : decode b_Law_law 292 = .ok (.iconst 0, 1) := by decide +kernel
theorem d_Law_law_293 : decode b_Law_law 293 = .ok (.ireturn, 1) := by decide +kernel
theorem d_Law_law_294 : decode b_Law_law 294 = .ok (.goto 916, 3) := by decide +kernel
theorem d_Law_law_297 : decode b_Law_law 297 = .ok (.aload_n 1, 1) := by decide +kernel
theorem d_Law_law_298 : decode b_Law_law 298 = .ok (.aload_n 0, 1) := by decide +kernel
theorem d_Law_law_299 : decode b_Law_law 299 = .ok (.iload 4, 2) := by decide +kernel
theorem d_Law_law_301 : decode b_Law_law 301 = .ok (.iconst 1, 1) := by decide +kernel
theorem d_Law_law_302 : decode b_Law_law 302 = .ok (.iadd, 1) := by decide +kernel
theorem d_Law_law_303 : decode b_Law_law 303 = .ok (.iaload, 1) := by decide +kernel
theorem d_Law_law_304 : decode b_Law_law 304 = .ok (.aload_n 0, 1) := by decide +kernel
theorem d_Law_law_305 : decode b_Law_law 305 = .ok (.iload 4, 2) := by decide +kernel
theorem d_Law_law_307 : decode b_Law_law 307 = .ok (.iconst 2, 1) := by decide +kernel
theorem d_Law_law_308 : decode b_Law_law 308 = .ok (.iadd, 1) := by decide +kernel
theorem d_Law_law_309 : decode b_Law_law 309 = .ok (.iaload, 1) := by decide +kernel
theorem d_Law_law_310 : decode b_Law_law 310 = .ok (.aload_n 3, 1) := by decide +kernel
theorem d_Law_law_311 : decode b_Law_law 311 = .ok (.invokestatic 82, 3) := by decide +kernel
theorem d_Law_law_314 : decode b_Law_law 314 = .ok (.istore 5, 2) := by decide +kernel
theorem d_Law_law_316 : decode b_Law_law 316 = .ok (.aload_n 2, 1) := by decide +kernel
theorem d_Law_law_317 : decode b_Law_law 317 = .ok (.aload_n 0, 1) := by decide +kernel
theorem d_Law_law_318 : decode b_Law_law 318 = .ok (.iload 4, 2) := by decide +kernel
theorem d_Law_law_320 : decode b_Law_law 320 = .ok (.iconst 1, 1) := by decide +kernel
theorem d_Law_law_321 : decode b_Law_law 321 = .ok (.iadd, 1) := by decide +kernel
theorem d_Law_law_322 : decode b_Law_law 322 = .ok (.iaload, 1) := by decide +kernel
theorem d_Law_law_323 : decode b_Law_law 323 = .ok (.aload_n 0, 1) := by decide +kernel
theorem d_Law_law_324 : decode b_Law_law 324 = .ok (.iload 4, 2) := by decide +kernel
theorem d_Law_law_326 : decode b_Law_law 326 = .ok (.iconst 2, 1) := by decide +kernel
theorem d_Law_law_327 : decode b_Law_law 327 = .ok (.iadd, 1) := by decide +kernel
theorem d_Law_law_328 : decode b_Law_law 328 = .ok (.iaload, 1) := by decide +kernel
theorem d_Law_law_329 : decode b_Law_law 329 = .ok (.invokevirtual 85, 3) := by decide +kernel
theorem d_Law_law_332 : decode b_Law_law 332 = .ok (.istore 6, 2) := by decide +kernel
theorem d_Law_law_334 : decode b_Law_law 334 = .ok (.aload_n 2, 1) := by decide +kernel
theorem d_Law_law_335 : decode b_Law_law 335 = .ok (.invokevirtual 70, 3) := by decide +kernel
theorem d_Law_law_338 : decode b_Law_law 338 = .ok (.iload 5, 2) := by decide +kernel
theorem d_Law_law_340 : decode b_Law_law 340 = .ok (.if_icmp .eq 5, 3) := by decide +kernel
theorem d_Law_law_343 : decode b_Law_law 343 = .ok (.iconst 0, 1) := by decide +kernel
theorem d_Law_law_344 : decode b_Law_law 344 = .ok (.ireturn, 1) := by decide +kernel
theorem d_Law_law_345 : decode b_Law_law 345 = .ok (.iload 5, 2) := by decide +kernel
theorem d_Law_law_347 : decode b_Law_law 347 = .ok (.ifCond .ne 15, 3) := by decide +kernel
theorem d_Law_law_350 : decode b_Law_law 350 = .ok (.aload_n 3, 1) := by decide +kernel
theorem d_Law_law_351 : decode b_Law_law 351 = .ok (.iconst 0, 1) := by decide +kernel
theorem d_Law_law_352 : decode b_Law_law 352 = .ok (.laload, 1) := by decide +kernel
theorem d_Law_law_353 : decode b_Law_law 353 = .ok (.iload 6, 2) := by decide +kernel
theorem d_Law_law_355 : decode b_Law_law 355 = .ok (.i2l, 1) := by decide +kernel
theorem d_Law_law_356 : decode b_Law_law 356 = .ok (.lcmp, 1) := by decide +kernel
theorem d_Law_law_357 : decode b_Law_law 357 = .ok (.ifCond .eq 5, 3) := by decide +kernel
theorem d_Law_law_360 : decode b_Law_law 360 = .ok (.iconst 0, 1) := by decide +kernel
theorem d_Law_law_361 : decode b_Law_law 361 = .ok (.ireturn, 1) := by decide +kernel
theorem d_Law_law_362 : decode b_Law_law 362 = .ok (.goto 848, 3) := by decide +kernel
theorem d_Law_law_365 : decode b_Law_law 365 = .ok (.aload_n 1, 1) := by decide +kernel
theorem d_Law_law_366 : decode b_Law_law 366 = .ok (.aload_n 0, 1) := by decide +kernel
theorem d_Law_law_367 : decode b_Law_law 367 = .ok (.iload 4, 2) := by decide +kernel
theorem d_Law_law_369 : decode b_Law_law 369 = .ok (.iconst 1, 1) := by decide +kernel
theorem d_Law_law_370 : decode b_Law_law 370 = .ok (.iadd, 1) := by decide +kernel
theorem d_Law_law_371 : decode b_Law_law 371 = .ok (.iaload, 1) := by decide +kernel
theorem d_Law_law_372 : decode b_Law_law 372 = .ok (.invokestatic 86, 3) := by decide +kernel
theorem d_Law_law_375 : decode b_Law_law 375 = .ok (.istore 5, 2) := by decide +kernel
theorem d_Law_law_377 : decode b_Law_law 377 = .ok (.aload_n 2, 1) := by decide +kernel
theorem d_Law_law_378 : decode b_Law_law 378 = .ok (.aload_n 0, 1) := by decide +kernel
theorem d_Law_law_379 : decode b_Law_law 379 = .ok (.iload 4, 2) := by decide +kernel
theorem d_Law_law_381 : decode b_Law_law 381 = .ok (.iconst 1, 1) := by decide +kernel
theorem d_Law_law_382 : decode b_Law_law 382 = .ok (.iadd, 1) := by decide +kernel
theorem d_Law_law_383 : decode b_Law_law 383 = .ok (.iaload, 1) := by decide +kernel
theorem d_Law_law_384 : decode b_Law_law 384 = .ok (.invokevirtual 88, 3) := by decide +kernel
theorem d_Law_law_387 : decode b_Law_law 387 = .ok (.aload_n 2, 1) := by decide +kernel
theorem d_Law_law_388 : decode b_Law_law 388 = .ok (.invokevirtual 70, 3) := by decide +kernel
theorem d_Law_law_391 : decode b_Law_law 391 = .ok (.iload 5, 2) := by decide +kernel
theorem d_Law_law_393 : decode b_Law_law 393 = .ok (.if_icmp .eq 5, 3) := by decide +kernel
theorem d_Law_law_396 : decode b_Law_law 396 = .ok (.iconst 0, 1) := by decide +kernel
theorem d_Law_law_397 : decode b_Law_law 397 = .ok (.ireturn, 1) := by decide +kernel
theorem d_Law_law_398 : decode b_Law_law 398 = .ok (.goto 812, 3) := by decide +kernel
theorem d_Law_law_401 : decode b_Law_law 401 = .ok (.aload_n 1, 1) := by decide +kernel
theorem d_Law_law_402 : decode b_Law_law 402 = .ok (.aload_n 3, 1) := by decide +kernel
theorem d_Law_law_403 : decode b_Law_law 403 = .ok (.invokestatic 89, 3) := by decide +kernel
theorem d_Law_law_406 : decode b_Law_law 406 = .ok (.istore 5, 2) := by decide +kernel
theorem d_Law_law_408 : decode b_Law_law 408 = .ok (.aload_n 2, 1) := by decide +kernel
theorem d_Law_law_409 : decode b_Law_law 409 = .ok (.invokevirtual 92, 3) := by decide +kernel
theorem d_Law_law_412 : decode b_Law_law 412 = .ok (.istore 6, 2) := by decide +kernel
theorem d_Law_law_414 : decode b_Law_law 414 = .ok (.aload_n 2, 1) := by decide +kernel
theorem d_Law_law_415 : decode b_Law_law 415 = .ok (.invokevirtual 70, 3) := by decide +kernel
theorem d_Law_law_418 : decode b_Law_law 418 = .ok (.iload 5, 2) := by decide +kernel
theorem d_Law_law_420 : decode b_Law_law 420 = .ok (.if_icmp .eq 5, 3) := by decide +kernel
theorem d_Law_law_423 : decode b_Law_law 423 = .ok (.iconst 0, 1) := by decide +kernel
theorem d_Law_law_424 : decode b_Law_law 424 = .ok (.ireturn, 1) := by decide +kernel
theorem d_Law_law_425 : decode b_Law_law 425 = .ok (.iload 5, 2) := by decide +kernel
theorem d_Law_law_427 : decode b_Law_law 427 = .ok (.ifCond .ne 15, 3) := by decide +kernel
theorem d_Law_law_430 : decode b_Law_law 430 = .ok (.aload_n 3, 1) := by decide +kernel
theorem d_Law_law_431 : decode b_Law_law 431 = .ok (.iconst 0, 1) := by decide +kernel
theorem d_Law_law_432 : decode b_Law_law 432 = .ok (.laload, 1) := by decide +kernel
theorem d_Law_law_433 : decode b_Law_law 433 = .ok (.iload 6, 2) := by decide +kernel
theorem d_Law_law_435 : decode b_Law_law 435 = .ok (.i2l, 1) := by decide +kernel
theorem d_Law_law_436 : decode b_Law_law 436 = .ok (.lcmp, 1) := by decide +kernel
theorem d_Law_law_437 : decode b_Law_law 437 = .ok (.ifCond .eq 5, 3) := by decide +kernel
theorem d_Law_law_440 : decode b_Law_law 440 = .ok (.iconst 0, 1) := by decide +kernel
theorem d_Law_law_441 : decode b_Law_law 441 = .ok (.ireturn, 1) := by decide +kernel
theorem d_Law_law_442 : decode b_Law_law 442 = .ok (.goto 768, 3) := by decide +kernel
theorem d_Law_law_445 : decode b_Law_law 445 = .ok (.aload_n 1, 1) := by decide +kernel
theorem d_Law_law_446 : decode b_Law_law 446 = .ok (.aload_n 0, 1) := by decide +kernel
theorem d_Law_law_447 : decode b_Law_law 447 = .ok (.iload 4, 2) := by decide +kernel
theorem d_Law_law_449 : decode b_Law_law 449 = .ok (.iconst 1, 1) := by decide +kernel
theorem d_Law_law_450 : decode b_Law_law 450 = .ok (.iadd, 1) := by decide +kernel
theorem d_Law_law_451 : decode b_Law_law 451 = .ok (.iaload, 1) := by decide +kernel
theorem d_Law_law_452 : decode b_Law_law 452 = .ok (.invokevirtual 93, 3) := by decide +kernel
theorem d_Law_law_455 : decode b_Law_law 455 = .ok (.aload_n 2, 1) := by decide +kernel
theorem d_Law_law_456 : decode b_Law_law 456 = .ok (.aload_n 0, 1) := by decide +kernel
theorem d_Law_law_457 : decode b_Law_law 457 = .ok (.iload 4, 2) := by decide +kernel
theorem d_Law_law_459 : decode b_Law_law 459 = .ok (.iconst 1, 1) := by decide +kernel
theorem d_Law_law_460 : decode b_Law_law 460 = .ok (.iadd, 1) := by decide +kernel
theorem d_Law_law_461 : decode b_Law_law 461 = .ok (.iaload, 1) := by decide +kernel
theorem d_Law_law_462 : decode b_Law_law 462 = .ok (.invokevirtual 96, 3) := by decide +kernel
theorem d_Law_law_465 : decode b_Law_law 465 = .ok (.if_icmp .eq 745, 3) := by decide +kernel
theorem d_Law_law_468 : decode b_Law_law 468 = .ok (.iconst 0, 1) := by decide +kernel
theorem d_Law_law_469 : decode b_Law_law 469 = .ok (.ireturn, 1) := by decide +kernel
theorem d_Law_law_470 : decode b_Law_law 470 = .ok (.aload_n 1, 1) := by decide +kernel
theorem d_Law_law_471 : decode b_Law_law 471 = .ok (.aload_n 0, 1) := by decide +kernel
theorem d_Law_law_472 : decode b_Law_law 472 = .ok (.iload 4, 2) := by decide +kernel
theorem d_Law_law_474 : decode b_Law_law 474 = .ok (.iconst 1, 1) := by decide +kernel
theorem d_Law_law_475 : decode b_Law_law 475 = .ok (.iadd, 1) := by decide +kernel
theorem d_Law_law_476 : decode b_Law_law 476 = .ok (.iaload, 1) := by decide +kernel
theorem d_Law_law_477 : decode b_Law_law 477 = .ok (.aload_n 0, 1) := by decide +kernel
theorem d_Law_law_478 : decode b_Law_law 478 = .ok (.iload 4, 2) := by decide +kernel
theorem d_Law_law_480 : decode b_Law_law 480 = .ok (.iconst 2, 1) := by decide +kernel
theorem d_Law_law_481 : decode b_Law_law 481 = .ok (.iadd, 1) := by decide +kernel
theorem d_Law_law_482 : decode b_Law_law 482 = .ok (.iaload, 1) := by decide +kernel
theorem d_Law_law_483 : decode b_Law_law 483 = .ok (.aload_n 0, 1) := by decide +kernel
theorem d_Law_law_484 : decode b_Law_law 484 = .ok (.iload 4, 2) := by decide +kernel
theorem d_Law_law_486 : decode b_Law_law 486 = .ok (.iconst 3, 1) := by decide +kernel
theorem d_Law_law_487 : decode b_Law_law 487 = .ok (.iadd, 1) := by decide +kernel
theorem d_Law_law_488 : decode b_Law_law 488 = .ok (.iaload, 1) := by decide +kernel
theorem d_Law_law_489 : decode b_Law_law 489 = .ok (.i2l, 1) := by decide +kernel
theorem d_Law_law_490 : decode b_Law_law 490 = .ok (.bipush 32, 2) := by decide +kernel
theorem d_Law_law_492 : decode b_Law_law 492 = .ok (.lshl, 1) := by decide +kernel
theorem d_Law_law_493 : decode b_Law_law 493 = .ok (.aload_n 0, 1) := by decide +kernel
theorem d_Law_law_494 : decode b_Law_law 494 = .ok (.iload 4, 2) := by decide +kernel
theorem d_Law_law_496 : decode b_Law_law 496 = .ok (.iconst 4, 1) := by decide +kernel
theorem d_Law_law_497 : decode b_Law_law 497 = .ok (.iadd, 1) := by decide +kernel
theorem d_Law_law_498 : decode b_Law_law 498 = .ok (.iaload, 1) := by decide +kernel
theorem d_Law_law_499 : decode b_Law_law 499 = .ok (.i2l, 1) := by decide +kernel
theorem d_Law_law_500 : decode b_Law_law 500 = .ok (.ldc2_w 97, 3) := by decide +kernel
theorem d_Law_law_503 : decode b_Law_law 503 = .ok (.land, 1) := by decide +kernel
theorem d_Law_law_504 : decode b_Law_law 504 = .ok (.lor, 1) := by decide +kernel
theorem d_Law_law_505 : decode b_Law_law 505 = .ok (.invokestatic 99, 3) := by decide +kernel
theorem d_Law_law_508 : decode b_Law_law 508 = .ok (.istore 5, 2) := by decide +kernel
theorem d_Law_law_510 : decode b_Law_law 510 = .ok (.aload_n 2, 1) := by decide +kernel
theorem d_Law_law_511 : decode b_Law_law 511 = .ok (.aload_n 0, 1) := by decide +kernel
theorem d_Law_law_512 : decode b_Law_law 512 = .ok (.iload 4, 2) := by decide +kernel
theorem d_Law_law_514 : decode b_Law_law 514 = .ok (.iconst 1, 1) := by decide +kernel
theorem d_Law_law_515 : decode b_Law_law 515 = .ok (.iadd, 1) := by decide +kernel
theorem d_Law_law_516 : decode b_Law_law 516 = .ok (.iaload, 1) := by decide +kernel
theorem d_Law_law_517 : decode b_Law_law 517 = .ok (.aload_n 0, 1) := by decide +kernel
theorem d_Law_law_518 : decode b_Law_law 518 = .ok (.iload 4, 2) := by decide +kernel
theorem d_Law_law_520 : decode b_Law_law 520 = .ok (.iconst 2, 1) := by decide +kernel
theorem d_Law_law_521 : decode b_Law_law 521 = .ok (.iadd, 1) := by decide +kernel
theorem d_Law_law_522 : decode b_Law_law 522 = .ok (.iaload, 1) := by decide +kernel
theorem d_Law_law_523 : decode b_Law_law 523 = .ok (.aload_n 0, 1) := by decide +kernel
theorem d_Law_law_524 : decode b_Law_law 524 = .ok (.iload 4, 2) := by decide +kernel
theorem d_Law_law_526 : decode b_Law_law 526 = .ok (.iconst 3, 1) := by decide +kernel
theorem d_Law_law_527 : decode b_Law_law 527 = .ok (.iadd, 1) := by decide +kernel
theorem d_Law_law_528 : decode b_Law_law 528 = .ok (.iaload, 1) := by decide +kernel
theorem d_Law_law_529 : decode b_Law_law 529 = .ok (.i2l, 1) := by decide +kernel
theorem d_Law_law_530 : decode b_Law_law 530 = .ok (.bipush 32, 2) := by decide +kernel
theorem d_Law_law_532 : decode b_Law_law 532 = .ok (.lshl, 1) := by decide +kernel
theorem d_Law_law_533 : decode b_Law_law 533 = .ok (.aload_n 0, 1) := by decide +kernel
theorem d_Law_law_534 : decode b_Law_law 534 = .ok (.iload 4, 2) := by decide +kernel
theorem d_Law_law_536 : decode b_Law_law 536 = .ok (.iconst 4, 1) := by decide +kernel
theorem d_Law_law_537 : decode b_Law_law 537 = .ok (.iadd, 1) := by decide +kernel
theorem d_Law_law_538 : decode b_Law_law 538 = .ok (.iaload, 1) := by decide +kernel
theorem d_Law_law_539 : decode b_Law_law 539 = .ok (.i2l, 1) := by decide +kernel
theorem d_Law_law_540 : decode b_Law_law 540 = .ok (.ldc2_w 97, 3) := by decide +kernel
theorem d_Law_law_543 : decode b_Law_law 543 = .ok (.land, 1) := by decide +kernel
theorem d_Law_law_544 : decode b_Law_law 544 = .ok (.lor, 1) := by decide +kernel
theorem d_Law_law_545 : decode b_Law_law 545 = .ok (.invokevirtual 102, 3) := by decide +kernel
theorem d_Law_law_548 : decode b_Law_law 548 = .ok (.aload_n 2, 1) := by decide +kernel
theorem d_Law_law_549 : decode b_Law_law 549 = .ok (.invokevirtual 70, 3) := by decide +kernel
theorem d_Law_law_552 : decode b_Law_law 552 = .ok (.iload 5, 2) := by decide +kernel
theorem d_Law_law_554 : decode b_Law_law 554 = .ok (.if_icmp .eq 5, 3) := by decide +kernel
theorem d_Law_law_557 : decode b_Law_law 557 = .ok (.iconst 0, 1) := by decide +kernel
theorem d_Law_law_558 : decode b_Law_law 558 = .ok (.ireturn, 1) := by decide +kernel
theorem d_Law_law_559 : decode b_Law_law 559 = .ok (.goto 651, 3) := by decide +kernel
theorem d_Law_law_562 : decode b_Law_law 562 = .ok (.aload_n 1, 1) := by decide +kernel
theorem d_Law_law_563 : decode b_Law_law 563 = .ok (.aload_n 0, 1) := by decide +kernel
theorem d_Law_law_564 : decode b_Law_law 564 = .ok (.iload 4, 2) := by decide +kernel
theorem d_Law_law_566 : decode b_Law_law 566 = .ok (.iconst 1, 1) := by decide +kernel
theorem d_Law_law_567 : decode b_Law_law 567 = .ok (.iadd, 1) := by decide +kernel
theorem d_Law_law_568 : decode b_Law_law 568 = .ok (.iaload, 1) := by decide +kernel
theorem d_Law_law_569 : decode b_Law_law 569 = .ok (.aload_n 0, 1) := by decide +kernel
theorem d_Law_law_570 : decode b_Law_law 570 = .ok (.iload 4, 2) := by decide +kernel
theorem d_Law_law_572 : decode b_Law_law 572 = .ok (.iconst 2, 1) := by decide +kernel
theorem d_Law_law_573 : decode b_Law_law 573 = .ok (.iadd, 1) := by decide +kernel
theorem d_Law_law_574 : decode b_Law_law 574 = .ok (.iaload, 1) := by decide +kernel
theorem d_Law_law_575 : decode b_Law_law 575 = .ok (.aload_n 3, 1) := by decide +kernel
theorem d_Law_law_576 : decode b_Law_law 576 = .ok (.invokestatic 103, 3) := by decide +kernel
theorem d_Law_law_579 : decode b_Law_law 579 = .ok (.istore 5, 2) := by decide +kernel
theorem d_Law_law_581 : decode b_Law_law 581 = .ok (.aload_n 2, 1) := by decide +kernel
theorem d_Law_law_582 : decode b_Law_law 582 = .ok (.aload_n 0, 1) := by decide +kernel
theorem d_Law_law_583 : decode b_Law_law 583 = .ok (.iload 4, 2) := by decide +kernel
theorem d_Law_law_585 : decode b_Law_law 585 = .ok (.iconst 1, 1) := by decide +kernel
theorem d_Law_law_586 : decode b_Law_law 586 = .ok (.iadd, 1) := by decide +kernel
theorem d_Law_law_587 : decode b_Law_law 587 = .ok (.iaload, 1) := by decide +kernel
theorem d_Law_law_588 : decode b_Law_law 588 = .ok (.aload_n 0, 1) := by decide +kernel
theorem d_Law_law_589 : decode b_Law_law 589 = .ok (.iload 4, 2) := by decide +kernel
theorem d_Law_law_591 : decode b_Law_law 591 = .ok (.iconst 2, 1) := by decide +kernel
theorem d_Law_law_592 : decode b_Law_law 592 = .ok (.iadd, 1) := by decide +kernel
theorem d_Law_law_593 : decode b_Law_law 593 = .ok (.iaload, 1) := by decide +kernel
theorem d_Law_law_594 : decode b_Law_law 594 = .ok (.invokevirtual 105, 3) := by decide +kernel
theorem d_Law_law_597 : decode b_Law_law 597 = .ok (.lstore 6, 2) := by decide +kernel
theorem d_Law_law_599 : decode b_Law_law 599 = .ok (.aload_n 2, 1) := by decide +kernel
theorem d_Law_law_600 : decode b_Law_law 600 = .ok (.invokevirtual 70, 3) := by decide +kernel
theorem d_Law_law_603 : decode b_Law_law 603 = .ok (.iload 5, 2) := by decide +kernel
theorem d_Law_law_605 : decode b_Law_law 605 = .ok (.if_icmp .eq 5, 3) := by decide +kernel
theorem d_Law_law_608 : decode b_Law_law 608 = .ok (.iconst 0, 1) := by decide +kernel
theorem d_Law_law_609 : decode b_Law_law 609 = .ok (.ireturn, 1) := by decide +kernel
theorem d_Law_law_610 : decode b_Law_law 610 = .ok (.iload 5, 2) := by decide +kernel
theorem d_Law_law_612 : decode b_Law_law 612 = .ok (.ifCond .ne 14, 3) := by decide +kernel
theorem d_Law_law_615 : decode b_Law_law 615 = .ok (.aload_n 3, 1) := by decide +kernel
theorem d_Law_law_616 : decode b_Law_law 616 = .ok (.iconst 0, 1) := by decide +kernel
theorem d_Law_law_617 : decode b_Law_law 617 = .ok (.laload, 1) := by decide +kernel
theorem d_Law_law_618 : decode b_Law_law 618 = .ok (.lload 6, 2) := by decide +kernel
theorem d_Law_law_620 : decode b_Law_law 620 = .ok (.lcmp, 1) := by decide +kernel
theorem d_Law_law_621 : decode b_Law_law 621 = .ok (.ifCond .eq 5, 3) := by decide +kernel
theorem d_Law_law_624 : decode b_Law_law 624 = .ok (.iconst 0, 1) := by decide +kernel
theorem d_Law_law_625 : decode b_Law_law 625 = .ok (.ireturn, 1) := by decide +kernel
theorem d_Law_law_626 : decode b_Law_law 626 = .ok (.goto 584, 3) := by decide +kernel
theorem d_Law_law_629 : decode b_Law_law 629 = .ok (.aload_n 1, 1) := by decide +kernel
theorem d_Law_law_630 : decode b_Law_law 630 = .ok (.aload_n 0, 1) := by decide +kernel
theorem d_Law_law_631 : decode b_Law_law 631 = .ok (.iload 4, 2) := by decide +kernel
theorem d_Law_law_633 : decode b_Law_law 633 = .ok (.iconst 1, 1) := by decide +kernel
theorem d_Law_law_634 : decode b_Law_law 634 = .ok (.iadd, 1) := by decide +kernel
theorem d_Law_law_635 : decode b_Law_law 635 = .ok (.iaload, 1) := by decide +kernel
theorem d_Law_law_636 : decode b_Law_law 636 = .ok (.aload_n 3, 1) := by decide +kernel
theorem d_Law_law_637 : decode b_Law_law 637 = .ok (.invokestatic 106, 3) := by decide +kernel
theorem d_Law_law_640 : decode b_Law_law 640 = .ok (.istore 5, 2) := by decide +kernel
theorem d_Law_law_642 : decode b_Law_law 642 = .ok (.aload_n 2, 1) := by decide +kernel
theorem d_Law_law_643 : decode b_Law_law 643 = .ok (.aload_n 0, 1) := by decide +kernel
theorem d_Law_law_644 : decode b_Law_law 644 = .ok (.iload 4, 2) := by decide +kernel
theorem d_Law_law_646 : decode b_Law_law 646 = .ok (.iconst 1, 1) := by decide +kernel
theorem d_Law_law_647 : decode b_Law_law 647 = .ok (.iadd, 1) := by decide +kernel
theorem d_Law_law_648 : decode b_Law_law 648 = .ok (.iaload, 1) := by decide +kernel
theorem d_Law_law_649 : decode b_Law_law 649 = .ok (.invokevirtual 109, 3) := by decide +kernel
theorem d_Law_law_652 : decode b_Law_law 652 = .ok (.istore 6, 2) := by decide +kernel
theorem d_Law_law_654 : decode b_Law_law 654 = .ok (.aload_n 2, 1) := by decide +kernel
theorem d_Law_law_655 : decode b_Law_law 655 = .ok (.invokevirtual 70, 3) := by decide +kernel
theorem d_Law_law_658 : decode b_Law_law 658 = .ok (.iload 5, 2) := by decide +kernel
theorem d_Law_law_660 : decode b_Law_law 660 = .ok (.if_icmp .eq 5, 3) := by decide +kernel
theorem d_Law_law_663 : decode b_Law_law 663 = .ok (.iconst 0, 1) := by decide +kernel
theorem d_Law_law_664 : decode b_Law_law 664 = .ok (.ireturn, 1) := by decide +kernel
theorem d_Law_law_665 : decode b_Law_law 665 = .ok (.iload 5, 2) := by decide +kernel
theorem d_Law_law_667 : decode b_Law_law 667 = .ok (.ifCond .ne 15, 3) := by decide +kernel
theorem d_Law_law_670 : decode b_Law_law 670 = .ok (.aload_n 3, 1) := by decide +kernel
theorem d_Law_law_671 : decode b_Law_law 671 = .ok (.iconst 0, 1) := by decide +kernel
theorem d_Law_law_672 : decode b_Law_law 672 = .ok (.laload, 1) := by decide +kernel
theorem d_Law_law_673 : decode b_Law_law 673 = .ok (.iload 6, 2) := by decide +kernel
theorem d_Law_law_675 : decode b_Law_law 675 = .ok (.i2l, 1) := by decide +kernel
theorem d_Law_law_676 : decode b_Law_law 676 = .ok (.lcmp, 1) := by decide +kernel
theorem d_Law_law_677 : decode b_Law_law 677 = .ok (.ifCond .eq 5, 3) := by decide +kernel
theorem d_Law_law_680 : decode b_Law_law 680 = .ok (.iconst 0, 1) := by decide +kernel
theorem d_Law_law_681 : decode b_Law_law 681 = .ok (.ireturn, 1) := by decide +kernel
theorem d_Law_law_682 : decode b_Law_law 682 = .ok (.goto 528, 3) := by decide +kernel
theorem d_Law_law_685 : decode b_Law_law 685 = .ok (.aload_n 1, 1) := by decide +kernel
theorem d_Law_law_686 : decode b_Law_law 686 = .ok (.aload_n 0, 1) := by decide +kernel
theorem d_Law_law_687 : decode b_Law_law 687 = .ok (.iload 4, 2) := by decide +kernel
theorem d_Law_law_689 : decode b_Law_law 689 = .ok (.iconst 1, 1) := by decide +kernel
theorem d_Law_law_690 : decode b_Law_law 690 = .ok (.iadd, 1) := by decide +kernel
theorem d_Law_law_691 : decode b_Law_law 691 = .ok (.iaload, 1) := by decide +kernel
theorem d_Law_law_692 : decode b_Law_law 692 = .ok (.aload_n 0, 1) := by decide +kernel
theorem d_Law_law_693 : decode b_Law_law 693 = .ok (.iload 4, 2) := by decide +kernel
theorem d_Law_law_695 : decode b_Law_law 695 = .ok (.iconst 2, 1) := by decide +kernel
theorem d_Law_law_696 : decode b_Law_law 696 = .ok (.iadd, 1) := by decide +kernel
theorem d_Law_law_697 : decode b_Law_law 697 = .ok (.iaload, 1) := by decide +kernel
theorem d_Law_law_698 : decode b_Law_law 698 = .ok (.aload_n 0, 1) := by decide +kernel
theorem d_Law_law_699 : decode b_Law_law 699 = .ok (.iload 4, 2) := by decide +kernel
theorem d_Law_law_701 : decode b_Law_law 701 = .ok (.iconst 3, 1) := by decide +kernel
theorem d_Law_law_702 : decode b_Law_law 702 = .ok (.iadd, 1) := by decide +kernel
theorem d_Law_law_703 : decode b_Law_law 703 = .ok (.iaload, 1) := by decide +kernel
theorem d_Law_law_704 : decode b_Law_law 704 = .ok (.invokevirtual 110, 3) := by decide +kernel
theorem d_Law_law_707 : decode b_Law_law 707 = .ok (.aload_n 2, 1) := by decide +kernel
theorem d_Law_law_708 : decode b_Law_law 708 = .ok (.aload_n 0, 1) := by decide +kernel
theorem d_Law_law_709 : decode b_Law_law 709 = .ok (.iload 4, 2) := by decide +kernel
theorem d_Law_law_711 : decode b_Law_law 711 = .ok (.iconst 1, 1) := by decide +kernel
theorem d_Law_law_712 : decode b_Law_law 712 = .ok (.iadd, 1) := by decide +kernel
theorem d_Law_law_713 : decode b_Law_law 713 = .ok (.iaload, 1) := by decide +kernel
theorem d_Law_law_714 : decode b_Law_law 714 = .ok (.aload_n 0, 1) := by decide +kernel
theorem d_Law_law_715 : decode b_Law_law 715 = .ok (.iload 4, 2) := by decide +kernel
theorem d_Law_law_717 : decode b_Law_law 717 = .ok (.iconst 2, 1) := by decide +kernel
theorem d_Law_law_718 : decode b_Law_law 718 = .ok (.iadd, 1) := by decide +kernel
theorem d_Law_law_719 : decode b_Law_law 719 = .ok (.iaload, 1) := by decide +kernel
theorem d_Law_law_720 : decode b_Law_law 720 = .ok (.aload_n 0, 1) := by decide +kernel
theorem d_Law_law_721 : decode b_Law_law 721 = .ok (.iload 4, 2) := by decide +kernel
theorem d_Law_law_723 : decode b_Law_law 723 = .ok (.iconst 3, 1) := by decide +kernel
theorem d_Law_law_724 : decode b_Law_law 724 = .ok (.iadd, 1) := by decide +kernel
theorem d_Law_law_725 : decode b_Law_law 725 = .ok (.iaload, 1) := by decide +kernel
theorem d_Law_law_726 : decode b_Law_law 726 = .ok (.invokevirtual 114, 3) := by decide +kernel
theorem d_Law_law_729 : decode b_Law_law 729 = .ok (.if_icmp .eq 481, 3) := by decide +kernel
theorem d_Law_law_732 : decode b_Law_law 732 = .ok (.iconst 0, 1) := by decide +kernel
theorem d_Law_law_733 : decode b_Law_law 733 = .ok (.ireturn, 1) := by decide +kernel
theorem d_Law_law_734 : decode b_Law_law 734 = .ok (.aload_n 1, 1) := by decide +kernel
theorem d_Law_law_735 : decode b_Law_law 735 = .ok (.aload_n 0, 1) := by decide +kernel
theorem d_Law_law_736 : decode b_Law_law 736 = .ok (.iload 4, 2) := by decide +kernel
theorem d_Law_law_738 : decode b_Law_law 738 = .ok (.iconst 1, 1) := by decide +kernel
theorem d_Law_law_739 : decode b_Law_law 739 = .ok (.iadd, 1) := by decide +kernel
theorem d_Law_law_740 : decode b_Law_law 740 = .ok (.iaload, 1) := by decide +kernel
theorem d_Law_law_741 : decode b_Law_law 741 = .ok (.aload_n 0, 1) := by decide +kernel
theorem d_Law_law_742 : decode b_Law_law 742 = .ok (.iload 4, 2) := by decide +kernel
theorem d_Law_law_744 : decode b_Law_law 744 = .ok (.iconst 2, 1) := by decide +kernel
theorem d_Law_law_745 : decode b_Law_law 745 = .ok (.iadd, 1) := by decide +kernel
theorem d_Law_law_746 : decode b_Law_law 746 = .ok (.iaload, 1) := by decide +kernel
theorem d_Law_law_747 : decode b_Law_law 747 = .ok (.invokevirtual 115, 3) := by decide +kernel
theorem d_Law_law_750 : decode b_Law_law 750 = .ok (.aload_n 2, 1) := by decide +kernel
theorem d_Law_law_751 : decode b_Law_law 751 = .ok (.aload_n 0, 1) := by decide +kernel
theorem d_Law_law_752 : decode b_Law_law 752 = .ok (.iload 4, 2) := by decide +kernel
theorem d_Law_law_754 : decode b_Law_law 754 = .ok (.iconst 1, 1) := by decide +kernel
theorem d_Law_law_755 : decode b_Law_law 755 = .ok (.iadd, 1) := by decide +kernel
theorem d_Law_law_756 : decode b_Law_law 756 = .ok (.iaload, 1) := by decide +kernel
theorem d_Law_law_757 : decode b_Law_law 757 = .ok (.aload_n 0, 1) := by decide +kernel
theorem d_Law_law_758 : decode b_Law_law 758 = .ok (.iload 4, 2) := by decide +kernel
theorem d_Law_law_760 : decode b_Law_law 760 = .ok (.iconst 2, 1) := by decide +kernel
theorem d_Law_law_761 : decode b_Law_law 761 = .ok (.iadd, 1) := by decide +kernel
theorem d_Law_law_762 : decode b_Law_law 762 = .ok (.iaload, 1) := by decide +kernel
theorem d_Law_law_763 : decode b_Law_law 763 = .ok (.invokevirtual 118, 3) := by decide +kernel
theorem d_Law_law_766 : decode b_Law_law 766 = .ok (.lcmp, 1) := by decide +kernel
theorem d_Law_law_767 : decode b_Law_law 767 = .ok (.ifCond .eq 443, 3) := by decide +kernel
theorem d_Law_law_770 : decode b_Law_law 770 = .ok (.iconst 0, 1) := by decide +kernel
theorem d_Law_law_771 : decode b_Law_law 771 = .ok (.ireturn, 1) := by decide +kernel
theorem d_Law_law_772 : decode b_Law_law 772 = .ok (.aload_n 1, 1) := by decide +kernel
theorem d_Law_law_773 : decode b_Law_law 773 = .ok (.aload_n 0, 1) := by decide +kernel
theorem d_Law_law_774 : decode b_Law_law 774 = .ok (.iload 4, 2) := by decide +kernel
theorem d_Law_law_776 : decode b_Law_law 776 = .ok (.iconst 1, 1) := by decide +kernel
theorem d_Law_law_777 : decode b_Law_law 777 = .ok (.iadd, 1) := by decide +kernel
theorem d_Law_law_778 : decode b_Law_law 778 = .ok (.iaload, 1) := by decide +kernel
theorem d_Law_law_779 : decode b_Law_law 779 = .ok (.aload_n 0, 1) := by decide +kernel
theorem d_Law_law_780 : decode b_Law_law 780 = .ok (.iload 4, 2) := by decide +kernel
theorem d_Law_law_782 : decode b_Law_law 782 = .ok (.iconst 2, 1) := by decide +kernel
theorem d_Law_law_783 : decode b_Law_law 783 = .ok (.iadd, 1) := by decide +kernel
theorem d_Law_law_784 : decode b_Law_law 784 = .ok (.iaload, 1) := by decide +kernel
theorem d_Law_law_785 : decode b_Law_law 785 = .ok (.aload_n 0, 1) := by decide +kernel
theorem d_Law_law_786 : decode b_Law_law 786 = .ok (.iload 4, 2) := by decide +kernel
theorem d_Law_law_788 : decode b_Law_law 788 = .ok (.iconst 3, 1) := by decide +kernel
theorem d_Law_law_789 : decode b_Law_law 789 = .ok (.iadd, 1) := by decide +kernel
theorem d_Law_law_790 : decode b_Law_law 790 = .ok (.iaload, 1) := by decide +kernel
theorem d_Law_law_791 : decode b_Law_law 791 = .ok (.aload_n 0, 1) := by decide +kernel
theorem d_Law_law_792 : decode b_Law_law 792 = .ok (.iload 4, 2) := by decide +kernel
theorem d_Law_law_794 : decode b_Law_law 794 = .ok (.iconst 4, 1) := by decide +kernel
theorem d_Law_law_795 : decode b_Law_law 795 = .ok (.iadd, 1) := by decide +kernel
theorem d_Law_law_796 : decode b_Law_law 796 = .ok (.iaload, 1) := by decide +kernel
theorem d_Law_law_797 : decode b_Law_law 797 = .ok (.invokevirtual 119, 3) := by decide +kernel
theorem d_Law_law_800 : decode b_Law_law 800 = .ok (.aload_n 2, 1) := by decide +kernel
theorem d_Law_law_801 : decode b_Law_law 801 = .ok (.aload_n 0, 1) := by decide +kernel
theorem d_Law_law_802 : decode b_Law_law 802 = .ok (.iload 4, 2) := by decide +kernel
theorem d_Law_law_804 : decode b_Law_law 804 = .ok (.iconst 1, 1) := by decide +kernel
theorem d_Law_law_805 : decode b_Law_law 805 = .ok (.iadd, 1) := by decide +kernel
theorem d_Law_law_806 : decode b_Law_law 806 = .ok (.iaload, 1) := by decide +kernel
theorem d_Law_law_807 : decode b_Law_law 807 = .ok (.aload_n 0, 1) := by decide +kernel
theorem d_Law_law_808 : decode b_Law_law 808 = .ok (.iload 4, 2) := by decide +kernel
theorem d_Law_law_810 : decode b_Law_law 810 = .ok (.iconst 2, 1) := by decide +kernel
theorem d_Law_law_811 : decode b_Law_law 811 = .ok (.iadd, 1) := by decide +kernel
theorem d_Law_law_812 : decode b_Law_law 812 = .ok (.iaload, 1) := by decide +kernel
theorem d_Law_law_813 : decode b_Law_law 813 = .ok (.aload_n 0, 1) := by decide +kernel
theorem d_Law_law_814 : decode b_Law_law 814 = .ok (.iload 4, 2) := by decide +kernel
theorem d_Law_law_816 : decode b_Law_law 816 = .ok (.iconst 3, 1) := by decide +kernel
theorem d_Law_law_817 : decode b_Law_law 817 = .ok (.iadd, 1) := by decide +kernel
theorem d_Law_law_818 : decode b_Law_law 818 = .ok (.iaload, 1) := by decide +kernel
theorem d_Law_law_819 : decode b_Law_law 819 = .ok (.aload_n 0, 1) := by decide +kernel
theorem d_Law_law_820 : decode b_Law_law 820 = .ok (.iload 4, 2) := by decide +kernel
theorem d_Law_law_822 : decode b_Law_law 822 = .ok (.iconst 4, 1) := by decide +kernel
theorem d_Law_law_823 : decode b_Law_law 823 = .ok (.iadd, 1) := by decide +kernel
theorem d_Law_law_824 : decode b_Law_law 824 = .ok (.iaload, 1) := by decide +kernel
theorem d_Law_law_825 : decode b_Law_law 825 = .ok (.invokevirtual 123, 3) := by decide +kernel
theorem d_Law_law_828 : decode b_Law_law 828 = .ok (.if_icmp .eq 382, 3) := by decide +kernel

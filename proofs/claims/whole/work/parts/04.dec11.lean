theorem d_O_compress64_155 : decode b_O_compress64 155 = .ok (.bipush 16, 2) := by decide +kernel
theorem d_O_compress64_157 : decode b_O_compress64 157 = .ok (.isub, 1) := by decide +kernel
theorem d_O_compress64_158 : decode b_O_compress64 158 = .ok (.laload, 1) := by decide +kernel
theorem d_O_compress64_159 : decode b_O_compress64 159 = .ok (.ladd, 1) := by decide +kernel
theorem d_O_compress64_160 : decode b_O_compress64 160 = .ok (.lastore, 1) := by decide +kernel
theorem d_O_compress64_161 : decode b_O_compress64 161 = .ok (.iinc 1 1, 3) := by decide +kernel
theorem d_O_compress64_164 : decode b_O_compress64 164 = .ok (.goto (-94), 3) := by decide +kernel
theorem d_O_compress64_167 : decode b_O_compress64 167 = .ok (.aload_n 0, 1) := by decide +kernel
theorem d_O_compress64_168 : decode b_O_compress64 168 = .ok (.getfield 47, 3) := by decide +kernel
theorem d_O_compress64_171 : decode b_O_compress64 171 = .ok (.iconst 0, 1) := by decide +kernel
theorem d_O_compress64_172 : decode b_O_compress64 172 = .ok (.laload, 1) := by decide +kernel
theorem d_O_compress64_173 : decode b_O_compress64 173 = .ok (.lstore_n 1, 1) := by decide +kernel
theorem d_O_compress64_174 : decode b_O_compress64 174 = .ok (.aload_n 0, 1) := by decide +kernel
theorem d_O_compress64_175 : decode b_O_compress64 175 = .ok (.getfield 47, 3) := by decide +kernel
theorem d_O_compress64_178 : decode b_O_compress64 178 = .ok (.iconst 1, 1) := by decide +kernel
theorem d_O_compress64_179 : decode b_O_compress64 179 = .ok (.laload, 1) := by decide +kernel
theorem d_O_compress64_180 : decode b_O_compress64 180 = .ok (.lstore_n 3, 1) := by decide +kernel
theorem d_O_compress64_181 : decode b_O_compress64 181 = .ok (.aload_n 0, 1) := by decide +kernel
theorem d_O_compress64_182 : decode b_O_compress64 182 = .ok (.getfield 47, 3) := by decide +kernel
theorem d_O_compress64_185 : decode b_O_compress64 185 = .ok (.iconst 2, 1) := by decide +kernel
theorem d_O_compress64_186 : decode b_O_compress64 186 = .ok (.laload, 1) := by decide +kernel
theorem d_O_compress64_187 : decode b_O_compress64 187 = .ok (.lstore 5, 2) := by decide +kernel
theorem d_O_compress64_189 : decode b_O_compress64 189 = .ok (.aload_n 0, 1) := by decide +kernel
theorem d_O_compress64_190 : decode b_O_compress64 190 = .ok (.getfield 47, 3) := by decide +kernel
theorem d_O_compress64_193 : decode b_O_compress64 193 = .ok (.iconst 3, 1) := by decide +kernel
theorem d_O_compress64_194 : decode b_O_compress64 194 = .ok (.laload, 1) := by decide +kernel
theorem d_O_compress64_195 : decode b_O_compress64 195 = .ok (.lstore 7, 2) := by decide +kernel
theorem d_O_compress64_197 : decode b_O_compress64 197 = .ok (.aload_n 0, 1) := by decide +kernel
theorem d_O_compress64_198 : decode b_O_compress64 198 = .ok (.getfield 47, 3) := by decide +kernel
theorem d_O_compress64_201 : decode b_O_compress64 201 = .ok (.iconst 4, 1) := by decide +kernel
theorem d_O_compress64_202 : decode b_O_compress64 202 = .ok (.laload, 1) := by decide +kernel
theorem d_O_compress64_203 : decode b_O_compress64 203 = .ok (.lstore 9, 2) := by decide +kernel
theorem d_O_compress64_205 : decode b_O_compress64 205 = .ok (.aload_n 0, 1) := by decide +kernel
theorem d_O_compress64_206 : decode b_O_compress64 206 = .ok (.getfield 47, 3) := by decide +kernel
theorem d_O_compress64_209 : decode b_O_compress64 209 = .ok (.iconst 5, 1) := by decide +kernel
theorem d_O_compress64_210 : decode b_O_compress64 210 = .ok (.laload, 1) := by decide +kernel
theorem d_O_compress64_211 : decode b_O_compress64 211 = .ok (.lstore 11, 2) := by decide +kernel
theorem d_O_compress64_213 : decode b_O_compress64 213 = .ok (.aload_n 0, 1) := by decide +kernel
theorem d_O_compress64_214 : decode b_O_compress64 214 = .ok (.getfield 47, 3) := by decide +kernel
theorem d_O_compress64_217 : decode b_O_compress64 217 = .ok (.bipush 6, 2) := by decide +kernel
theorem d_O_compress64_219 : decode b_O_compress64 219 = .ok (.laload, 1) := by decide +kernel
theorem d_O_compress64_220 : decode b_O_compress64 220 = .ok (.lstore 13, 2) := by decide +kernel
theorem d_O_compress64_222 : decode b_O_compress64 222 = .ok (.aload_n 0, 1) := by decide +kernel
theorem d_O_compress64_223 : decode b_O_compress64 223 = .ok (.getfield 47, 3) := by decide +kernel
theorem d_O_compress64_226 : decode b_O_compress64 226 = .ok (.bipush 7, 2) := by decide +kernel
theorem d_O_compress64_228 : decode b_O_compress64 228 = .ok (.laload, 1) := by decide +kernel
theorem d_O_compress64_229 : decode b_O_compress64 229 = .ok (.lstore 15, 2) := by decide +kernel
theorem d_O_compress64_231 : decode b_O_compress64 231 = .ok (.iconst 0, 1) := by decide +kernel
theorem d_O_compress64_232 : decode b_O_compress64 232 = .ok (.istore 17, 2) := by decide +kernel
theorem d_O_compress64_234 : decode b_O_compress64 234 = .ok (.iload 17, 2) := by decide +kernel
theorem d_O_compress64_236 : decode b_O_compress64 236 = .ok (.bipush 80, 2) := by decide +kernel
theorem d_O_compress64_238 : decode b_O_compress64 238 = .ok (.if_icmp .ge 139, 3) := by decide +kernel
theorem d_O_compress64_241 : decode b_O_compress64 241 = .ok (.lload 15, 2) := by decide +kernel
theorem d_O_compress64_243 : decode b_O_compress64 243 = .ok (.lload 9, 2) := by decide +kernel
theorem d_O_compress64_245 : decode b_O_compress64 245 = .ok (.bipush 14, 2) := by decide +kernel
theorem d_O_compress64_247 : decode b_O_compress64 247 = .ok (.invokestatic 169, 3) := by decide +kernel
theorem d_O_compress64_250 : decode b_O_compress64 250 = .ok (.lload 9, 2) := by decide +kernel
theorem d_O_compress64_252 : decode b_O_compress64 252 = .ok (.bipush 18, 2) := by decide +kernel
theorem d_O_compress64_254 : decode b_O_compress64 254 = .ok (.invokestatic 169, 3) := by decide +kernel
theorem d_O_compress64_257 : decode b_O_compress64 257 = .ok (.lxor, 1) := by decide +kernel
theorem d_O_compress64_258 : decode b_O_compress64 258 = .ok (.lload 9, 2) := by decide +kernel
theorem d_O_compress64_260 : decode b_O_compress64 260 = .ok (.bipush 41, 2) := by decide +kernel
theorem d_O_compress64_262 : decode b_O_compress64 262 = .ok (.invokestatic 169, 3) := by decide +kernel
theorem d_O_compress64_265 : decode b_O_compress64 265 = .ok (.lxor, 1) := by decide +kernel
theorem d_O_compress64_266 : decode b_O_compress64 266 = .ok (.ladd, 1) := by decide +kernel
theorem d_O_compress64_267 : decode b_O_compress64 267 = .ok (.lload 9, 2) := by decide +kernel
theorem d_O_compress64_269 : decode b_O_compress64 269 = .ok (.lload 11, 2) := by decide +kernel
theorem d_O_compress64_271 : decode b_O_compress64 271 = .ok (.land, 1) := by decide +kernel
theorem d_O_compress64_272 : decode b_O_compress64 272 = .ok (.lload 9, 2) := by decide +kernel
theorem d_O_compress64_274 : decode b_O_compress64 274 = .ok (.ldc2_w 167, 3) := by decide +kernel
theorem d_O_compress64_277 : decode b_O_compress64 277 = .ok (.lxor, 1) := by decide +kernel
theorem d_O_compress64_278 : decode b_O_compress64 278 = .ok (.lload 13, 2) := by decide +kernel
theorem d_O_compress64_280 : decode b_O_compress64 280 = .ok (.land, 1) := by decide +kernel
theorem d_O_compress64_281 : decode b_O_compress64 281 = .ok (.lxor, 1) := by decide +kernel
theorem d_O_compress64_282 : decode b_O_compress64 282 = .ok (.ladd, 1) := by decide +kernel
theorem d_O_compress64_283 : decode b_O_compress64 283 = .ok (.aload_n 0, 1) := by decide +kernel
theorem d_O_compress64_284 : decode b_O_compress64 284 = .ok (.getfield 26, 3) := by decide +kernel
theorem d_O_compress64_287 : decode b_O_compress64 287 = .ok (.iload 17, 2) := by decide +kernel
theorem d_O_compress64_289 : decode b_O_compress64 289 = .ok (.laload, 1) := by decide +kernel
theorem d_O_compress64_290 : decode b_O_compress64 290 = .ok (.ladd, 1) := by decide +kernel
theorem d_O_compress64_291 : decode b_O_compress64 291 = .ok (.aload_n 0, 1) := by decide +kernel
theorem d_O_compress64_292 : decode b_O_compress64 292 = .ok (.getfield 56, 3) := by decide +kernel
theorem d_O_compress64_295 : decode b_O_compress64 295 = .ok (.iload 17, 2) := by decide +kernel
theorem d_O_compress64_297 : decode b_O_compress64 297 = .ok (.laload, 1) := by decide +kernel
theorem d_O_compress64_298 : decode b_O_compress64 298 = .ok (.ladd, 1) := by decide +kernel
theorem d_O_compress64_299 : decode b_O_compress64 299 = .ok (.lstore 18, 2) := by decide +kernel
theorem d_O_compress64_301 : decode b_O_compress64 301 = .ok (.lload_n 1, 1) := by decide +kernel
theorem d_O_compress64_302 : decode b_O_compress64 302 = .ok (.bipush 28, 2) := by decide +kernel
theorem d_O_compress64_304 : decode b_O_compress64 304 = .ok (.invokestatic 169, 3) := by decide +kernel
theorem d_O_compress64_307 : decode b_O_compress64 307 = .ok (.lload_n 1, 1) := by decide +kernel
theorem d_O_compress64_308 : decode b_O_compress64 308 = .ok (.bipush 34, 2) := by decide +kernel
theorem d_O_compress64_310 : decode b_O_compress64 310 = .ok (.invokestatic 169, 3) := by decide +kernel
theorem d_O_compress64_313 : decode b_O_compress64 313 = .ok (.lxor, 1) := by decide +kernel
theorem d_O_compress64_314 : decode b_O_compress64 314 = .ok (.lload_n 1, 1) := by decide +kernel
theorem d_O_compress64_315 : decode b_O_compress64 315 = .ok (.bipush 39, 2) := by decide +kernel
theorem d_O_compress64_317 : decode b_O_compress64 317 = .ok (.invokestatic 169, 3) := by decide +kernel
theorem d_O_compress64_320 : decode b_O_compress64 320 = .ok (.lxor, 1) := by decide +kernel
theorem d_O_compress64_321 : decode b_O_compress64 321 = .ok (.lload_n 1, 1) := by decide +kernel
theorem d_O_compress64_322 : decode b_O_compress64 322 = .ok (.lload_n 3, 1) := by decide +kernel
theorem d_O_compress64_323 : decode b_O_compress64 323 = .ok (.land, 1) := by decide +kernel
theorem d_O_compress64_324 : decode b_O_compress64 324 = .ok (.lload_n 1, 1) := by decide +kernel
theorem d_O_compress64_325 : decode b_O_compress64 325 = .ok (.lload 5, 2) := by decide +kernel
theorem d_O_compress64_327 : decode b_O_compress64 327 = .ok (.land, 1) := by decide +kernel
theorem d_O_compress64_328 : decode b_O_compress64 328 = .ok (.lxor, 1) := by decide +kernel
theorem d_O_compress64_329 : decode b_O_compress64 329 = .ok (.lload_n 3, 1) := by decide +kernel
theorem d_O_compress64_330 : decode b_O_compress64 330 = .ok (.lload 5, 2) := by decide +kernel
theorem d_O_compress64_332 : decode b_O_compress64 332 = .ok (.land, 1) := by decide +kernel
theorem d_O_compress64_333 : decode b_O_compress64 333 = .ok (.lxor, 1) := by decide +kernel
theorem d_O_compress64_334 : decode b_O_compress64 334 = .ok (.ladd, 1) := by decide +kernel
theorem d_O_compress64_335 : decode b_O_compress64 335 = .ok (.lstore 20, 2) := by decide +kernel
theorem d_O_compress64_337 : decode b_O_compress64 337 = .ok (.lload 13, 2) := by decide +kernel
theorem d_O_compress64_339 : decode b_O_compress64 339 = .ok (.lstore 15, 2) := by decide +kernel
theorem d_O_compress64_341 : decode b_O_compress64 341 = .ok (.lload 11, 2) := by decide +kernel
theorem d_O_compress64_343 : decode b_O_compress64 343 = .ok (.lstore 13, 2) := by decide +kernel
theorem d_O_compress64_345 : decode b_O_compress64 345 = .ok (.lload 9, 2) := by decide +kernel
theorem d_O_compress64_347 : decode b_O_compress64 347 = .ok (.lstore 11, 2) := by decide +kernel
theorem d_O_compress64_349 : decode b_O_compress64 349 = .ok (.lload 7, 2) := by decide +kernel
theorem d_O_compress64_351 : decode b_O_compress64 351 = .ok (.lload 18, 2) := by decide +kernel
theorem d_O_compress64_353 : decode b_O_compress64 353 = .ok (.ladd, 1) := by decide +kernel
theorem d_O_compress64_354 : decode b_O_compress64 354 = .ok (.lstore 9, 2) := by decide +kernel
theorem d_O_compress64_356 : decode b_O_compress64 356 = .ok (.lload 5, 2) := by decide +kernel
theorem d_O_compress64_358 : decode b_O_compress64 358 = .ok (.lstore 7, 2) := by decide +kernel
theorem d_O_compress64_360 : decode b_O_compress64 360 = .ok (.lload_n 3, 1) := by decide +kernel
theorem d_O_compress64_361 : decode b_O_compress64 361 = .ok (.lstore 5, 2) := by decide +kernel
theorem d_O_compress64_363 : decode b_O_compress64 363 = .ok (.lload_n 1, 1) := by decide +kernel
theorem d_O_compress64_364 : decode b_O_compress64 364 = .ok (.lstore_n 3, 1) := by decide +kernel
theorem d_O_compress64_365 : decode b_O_compress64 365 = .ok (.lload 18, 2) := by decide +kernel
theorem d_O_compress64_367 : decode b_O_compress64 367 = .ok (.lload 20, 2) := by decide +kernel
theorem d_O_compress64_369 : decode b_O_compress64 369 = .ok (.ladd, 1) := by decide +kernel
theorem d_O_compress64_370 : decode b_O_compress64 370 = .ok (.lstore_n 1, 1) := by decide +kernel
theorem d_O_compress64_371 : decode b_O_compress64 371 = .ok (.iinc 17 1, 3) := by decide +kernel
theorem d_O_compress64_374 : decode b_O_compress64 374 = .ok (.goto (-140), 3) := by decide +kernel
theorem d_O_compress64_377 : decode b_O_compress64 377 = .ok (.aload_n 0, 1) := by decide +kernel
theorem d_O_compress64_378 : decode b_O_compress64 378 = .ok (.getfield 47, 3) := by decide +kernel
theorem d_O_compress64_381 : decode b_O_compress64 381 = .ok (.iconst 0, 1) := by decide +kernel
theorem d_O_compress64_382 : decode b_O_compress64 382 = .ok (.dup2, 1) := by decide +kernel
theorem d_O_compress64_383 : decode b_O_compress64 383 = .ok (.laload, 1) := by decide +kernel
theorem d_O_compress64_384 : decode b_O_compress64 384 = .ok (.lload_n 1, 1) := by decide +kernel
theorem d_O_compress64_385 : decode b_O_compress64 385 = .ok (.ladd, 1) := by decide +kernel
theorem d_O_compress64_386 : decode b_O_compress64 386 = .ok (.lastore, 1) := by decide +kernel
theorem d_O_compress64_387 : decode b_O_compress64 387 = .ok (.aload_n 0, 1) := by decide +kernel
theorem d_O_compress64_388 : decode b_O_compress64 388 = .ok (.getfield 47, 3) := by decide +kernel
theorem d_O_compress64_391 : decode b_O_compress64 391 = .ok (.iconst 1, 1) := by decide +kernel
theorem d_O_compress64_392 : decode b_O_compress64 392 = .ok (.dup2, 1) := by decide +kernel
theorem d_O_compress64_393 : decode b_O_compress64 393 = .ok (.laload, 1) := by decide +kernel
theorem d_O_compress64_394 : decode b_O_compress64 394 = .ok (.lload_n 3, 1) := by decide +kernel
theorem d_O_compress64_395 : decode b_O_compress64 395 = .ok (.ladd, 1) := by decide +kernel
theorem d_O_compress64_396 : decode b_O_compress64 396 = .ok (.lastore, 1) := by decide +kernel
theorem d_O_compress64_397 : decode b_O_compress64 397 = .ok (.aload_n 0, 1) := by decide +kernel
theorem d_O_compress64_398 : decode b_O_compress64 398 = .ok (.getfield 47, 3) := by decide +kernel
theorem d_O_compress64_401 : decode b_O_compress64 401 = .ok (.iconst 2, 1) := by decide +kernel
theorem d_O_compress64_402 : decode b_O_compress64 402 = .ok (.dup2, 1) := by decide +kernel
theorem d_O_compress64_403 : decode b_O_compress64 403 = .ok (.laload, 1) := by decide +kernel
theorem d_O_compress64_404 : decode b_O_compress64 404 = .ok (.lload 5, 2) := by decide +kernel
theorem d_O_compress64_406 : decode b_O_compress64 406 = .ok (.ladd, 1) := by decide +kernel
theorem d_O_compress64_407 : decode b_O_compress64 407 = .ok (.lastore, 1) := by decide +kernel
theorem d_O_compress64_408 : decode b_O_compress64 408 = .ok (.aload_n 0, 1) := by decide +kernel
theorem d_O_compress64_409 : decode b_O_compress64 409 = .ok (.getfield 47, 3) := by decide +kernel
theorem d_O_compress64_412 : decode b_O_compress64 412 = .ok (.iconst 3, 1) := by decide +kernel
theorem d_O_compress64_413 : decode b_O_compress64 413 = .ok (.dup2, 1) := by decide +kernel
theorem d_O_compress64_414 : decode b_O_compress64 414 = .ok (.laload, 1) := by decide +kernel
theorem d_O_compress64_415 : decode b_O_compress64 415 = .ok (.lload 7, 2) := by decide +kernel
theorem d_O_compress64_417 : decode b_O_compress64 417 = .ok (.ladd, 1) := by decide +kernel
theorem d_O_compress64_418 : decode b_O_compress64 418 = .ok (.lastore, 1) := by decide +kernel
theorem d_O_compress64_419 : decode b_O_compress64 419 = .ok (.aload_n 0, 1) := by decide +kernel
theorem d_O_compress64_420 : decode b_O_compress64 420 = .ok (.getfield 47, 3) := by decide +kernel
theorem d_O_compress64_423 : decode b_O_compress64 423 = .ok (.iconst 4, 1) := by decide +kernel
theorem d_O_compress64_424 : decode b_O_compress64 424 = .ok (.dup2, 1) := by decide +kernel
theorem d_O_compress64_425 : decode b_O_compress64 425 = .ok (.laload, 1) := by decide +kernel
theorem d_O_compress64_426 : decode b_O_compress64 426 = .ok (.lload 9, 2) := by decide +kernel
theorem d_O_compress64_428 : decode b_O_compress64 428 = .ok (.ladd, 1) := by decide +kernel
theorem d_O_compress64_429 : decode b_O_compress64 429 = .ok (.lastore, 1) := by decide +kernel
theorem d_O_compress64_430 : decode b_O_compress64 430 = .ok (.aload_n 0, 1) := by decide +kernel
theorem d_O_compress64_431 : decode b_O_compress64 431 = .ok (.getfield 47, 3) := by decide +kernel
theorem d_O_compress64_434 : decode b_O_compress64 434 = .ok (.iconst 5, 1) := by decide +kernel
theorem d_O_compress64_435 : decode b_O_compress64 435 = .ok (.dup2, 1) := by decide +kernel
theorem d_O_compress64_436 : decode b_O_compress64 436 = .ok (.laload, 1) := by decide +kernel
theorem d_O_compress64_437 : decode b_O_compress64 437 = .ok (.lload 11, 2) := by decide +kernel
theorem d_O_compress64_439 : decode b_O_compress64 439 = .ok (.ladd, 1) := by decide +kernel
theorem d_O_compress64_440 : decode b_O_compress64 440 = .ok (.lastore, 1) := by decide +kernel
theorem d_O_compress64_441 : decode b_O_compress64 441 = .ok (.aload_n 0, 1) := by decide +kernel
theorem d_O_compress64_442 : decode b_O_compress64 442 = .ok (.getfield 47, 3) := by decide +kernel
theorem d_O_compress64_445 : decode b_O_compress64 445 = .ok (.bipush 6, 2) := by decide +kernel
theorem d_O_compress64_447 : decode b_O_compress64 447 = .ok (.dup2, 1) := by decide +kernel
theorem d_O_compress64_448 : decode b_O_compress64 448 = .ok (.laload, 1) := by decide +kernel
theorem d_O_compress64_449 : decode b_O_compress64 449 = .ok (.lload 13, 2) := by decide +kernel
theorem d_O_compress64_451 : decode b_O_compress64 451 = .ok (.ladd, 1) := by decide +kernel
theorem d_O_compress64_452 : decode b_O_compress64 452 = .ok (.lastore, 1) := by decide +kernel
theorem d_O_compress64_453 : decode b_O_compress64 453 = .ok (.aload_n 0, 1) := by decide +kernel
theorem d_O_compress64_454 : decode b_O_compress64 454 = .ok (.getfield 47, 3) := by decide +kernel
theorem d_O_compress64_457 : decode b_O_compress64 457 = .ok (.bipush 7, 2) := by decide +kernel
theorem d_O_compress64_459 : decode b_O_compress64 459 = .ok (.dup2, 1) := by decide +kernel
theorem d_O_compress64_460 : decode b_O_compress64 460 = .ok (.laload, 1) := by decide +kernel
theorem d_O_compress64_461 : decode b_O_compress64 461 = .ok (.lload 15, 2) := by decide +kernel
theorem d_O_compress64_463 : decode b_O_compress64 463 = .ok (.ladd, 1) := by decide +kernel
theorem d_O_compress64_464 : decode b_O_compress64 464 = .ok (.lastore, 1) := by decide +kernel
theorem d_O_compress64_465 : decode b_O_compress64 465 = .ok (.return_, 1) := by decide +kernel
theorem d_O_right_0 : decode b_O_right 0 = .ok (.lload_n 0, 1) := by decide +kernel
theorem d_O_right_1 : decode b_O_right 1 = .ok (.iload_n 2, 1) := by decide +kernel
theorem d_O_right_2 : decode b_O_right 2 = .ok (.lushr, 1) := by decide +kernel
theorem d_O_right_3 : decode b_O_right 3 = .ok (.lload_n 0, 1) := by decide +kernel
theorem d_O_right_4 : decode b_O_right 4 = .ok (.bipush 64, 2) := by decide +kernel
theorem d_O_right_6 : decode b_O_right 6 = .ok (.iload_n 2, 1) := by decide +kernel
theorem d_O_right_7 : decode b_O_right 7 = .ok (.isub, 1) := by decide +kernel
theorem d_O_right_8 : decode b_O_right 8 = .ok (.lshl, 1) := by decide +kernel
theorem d_O_right_9 : decode b_O_right 9 = .ok (.lor, 1) := by decide +kernel
theorem d_O_right_10 : decode b_O_right 10 = .ok (.lreturn, 1) := by decide +kernel
theorem d_O_finish_0 : decode b_O_finish 0 = .ok (.aload_n 0, 1) := by decide +kernel
theorem d_O_finish_1 : decode b_O_finish 1 = .ok (.invokevirtual 146, 3) := by decide +kernel
theorem d_O_finish_4 : decode b_O_finish 4 = .ok (.ifCond .eq 50, 3) := by decide +kernel
theorem d_O_finish_7 : decode b_O_finish 7 = .ok (.aload_n 0, 1) := by decide +kernel
theorem d_O_finish_8 : decode b_O_finish 8 = .ok (.aload_n 0, 1) := by decide +kernel
theorem d_O_finish_9 : decode b_O_finish 9 = .ok (.getfield 128, 3) := by decide +kernel
theorem d_O_finish_12 : decode b_O_finish 12 = .ok (.aload_n 0, 1) := by decide +kernel
theorem d_O_finish_13 : decode b_O_finish 13 = .ok (.getfield 125, 3) := by decide +kernel
theorem d_O_finish_16 : decode b_O_finish 16 = .ok (.bipush 10, 2) := by decide +kernel
theorem d_O_finish_18 : decode b_O_finish 18 = .ok (.if_icmp .le 8, 3) := by decide +kernel
theorem d_O_finish_21 : decode b_O_finish 21 = .ok (.bipush 31, 2) := by decide +kernel
theorem d_O_finish_23 : decode b_O_finish 23 = .ok (.goto 5, 3) := by decide +kernel
theorem d_O_finish_26 : decode b_O_finish 26 = .ok (.bipush 6, 2) := by decide +kernel
theorem d_O_finish_28 : decode b_O_finish 28 = .ok (.invokevirtual 150, 3) := by decide +kernel
theorem d_O_finish_31 : decode b_O_finish 31 = .ok (.aload_n 0, 1) := by decide +kernel
theorem d_O_finish_32 : decode b_O_finish 32 = .ok (.aload_n 0, 1) := by decide +kernel
theorem d_O_finish_33 : decode b_O_finish 33 = .ok (.getfield 141, 3) := by decide +kernel
theorem d_O_finish_36 : decode b_O_finish 36 = .ok (.iconst 1, 1) := by decide +kernel
theorem d_O_finish_37 : decode b_O_finish 37 = .ok (.isub, 1) := by decide +kernel
theorem d_O_finish_38 : decode b_O_finish 38 = .ok (.sipush 128, 3) := by decide +kernel
theorem d_O_finish_41 : decode b_O_finish 41 = .ok (.invokevirtual 150, 3) := by decide +kernel
theorem d_O_finish_44 : decode b_O_finish 44 = .ok (.aload_n 0, 1) := by decide +kernel
theorem d_O_finish_45 : decode b_O_finish 45 = .ok (.invokevirtual 154, 3) := by decide +kernel
theorem d_O_finish_48 : decode b_O_finish 48 = .ok (.aload_n 0, 1) := by decide +kernel
theorem d_O_finish_49 : decode b_O_finish 49 = .ok (.iconst 0, 1) := by decide +kernel
theorem d_O_finish_50 : decode b_O_finish 50 = .ok (.putfield 128, 3) := by decide +kernel
theorem d_O_finish_53 : decode b_O_finish 53 = .ok (.return_, 1) := by decide +kernel
theorem d_O_finish_54 : decode b_O_finish 54 = .ok (.ldc2_w 176, 3) := by decide +kernel
theorem d_O_finish_57 : decode b_O_finish 57 = .ok (.aload_n 0, 1) := by decide +kernel
theorem d_O_finish_58 : decode b_O_finish 58 = .ok (.getfield 131, 3) := by decide +kernel
theorem d_O_finish_61 : decode b_O_finish 61 = .ok (.lmul, 1) := by decide +kernel
theorem d_O_finish_62 : decode b_O_finish 62 = .ok (.lstore_n 1, 1) := by decide +kernel
theorem d_O_finish_63 : decode b_O_finish 63 = .ok (.aload_n 0, 1) := by decide +kernel
theorem d_O_finish_64 : decode b_O_finish 64 = .ok (.sipush 128, 3) := by decide +kernel
theorem d_O_finish_67 : decode b_O_finish 67 = .ok (.invokevirtual 119, 3) := by decide +kernel
theorem d_O_finish_70 : decode b_O_finish 70 = .ok (.aload_n 0, 1) := by decide +kernel
theorem d_O_finish_71 : decode b_O_finish 71 = .ok (.getfield 128, 3) := by decide +kernel
theorem d_O_finish_74 : decode b_O_finish 74 = .ok (.aload_n 0, 1) := by decide +kernel
theorem d_O_finish_75 : decode b_O_finish 75 = .ok (.getfield 141, 3) := by decide +kernel
theorem d_O_finish_78 : decode b_O_finish 78 = .ok (.aload_n 0, 1) := by decide +kernel
theorem d_O_finish_79 : decode b_O_finish 79 = .ok (.getfield 141, 3) := by decide +kernel
theorem d_O_finish_82 : decode b_O_finish 82 = .ok (.bipush 8, 2) := by decide +kernel
theorem d_O_finish_84 : decode b_O_finish 84 = .ok (.idiv, 1) := by decide +kernel
theorem d_O_finish_85 : decode b_O_finish 85 = .ok (.isub, 1) := by decide +kernel
theorem d_O_finish_86 : decode b_O_finish 86 = .ok (.if_icmp .eq 11, 3) := by decide +kernel
theorem d_O_finish_89 : decode b_O_finish 89 = .ok (.aload_n 0, 1) := by decide +kernel
theorem d_O_finish_90 : decode b_O_finish 90 = .ok (.iconst 0, 1) := by decide +kernel
theorem d_O_finish_91 : decode b_O_finish 91 = .ok (.invokevirtual 119, 3) := by decide +kernel
theorem d_O_finish_94 : decode b_O_finish 94 = .ok (.goto (-24), 3) := by decide +kernel
theorem d_O_finish_97 : decode b_O_finish 97 = .ok (.aload_n 0, 1) := by decide +kernel
theorem d_O_finish_98 : decode b_O_finish 98 = .ok (.getfield 141, 3) := by decide +kernel
theorem d_O_finish_101 : decode b_O_finish 101 = .ok (.bipush 8, 2) := by decide +kernel
theorem d_O_finish_103 : decode b_O_finish 103 = .ok (.idiv, 1) := by decide +kernel
theorem d_O_finish_104 : decode b_O_finish 104 = .ok (.iconst 1, 1) := by decide +kernel
theorem d_O_finish_105 : decode b_O_finish 105 = .ok (.isub, 1) := by decide +kernel
theorem d_O_finish_106 : decode b_O_finish 106 = .ok (.istore_n 3, 1) := by decide +kernel
theorem d_O_finish_107 : decode b_O_finish 107 = .ok (.iload_n 3, 1) := by decide +kernel
theorem d_O_finish_108 : decode b_O_finish 108 = .ok (.ifCond .lt 30, 3) := by decide +kernel
theorem d_O_finish_111 : decode b_O_finish 111 = .ok (.aload_n 0, 1) := by decide +kernel
theorem d_O_finish_112 : decode b_O_finish 112 = .ok (.iload_n 3, 1) := by decide +kernel
theorem d_O_finish_113 : decode b_O_finish 113 = .ok (.bipush 8, 2) := by decide +kernel
theorem d_O_finish_115 : decode b_O_finish 115 = .ok (.if_icmp .ge 13, 3) := by decide +kernel
theorem d_O_finish_118 : decode b_O_finish 118 = .ok (.lload_n 1, 1) := by decide +kernel
theorem d_O_finish_119 : decode b_O_finish 119 = .ok (.bipush 8, 2) := by decide +kernel
theorem d_O_finish_121 : decode b_O_finish 121 = .ok (.iload_n 3, 1) := by decide +kernel
theorem d_O_finish_122 : decode b_O_finish 122 = .ok (.imul, 1) := by decide +kernel
theorem d_O_finish_123 : decode b_O_finish 123 = .ok (.lushr, 1) := by decide +kernel
theorem d_O_finish_124 : decode b_O_finish 124 = .ok (.l2i, 1) := by decide +kernel
theorem d_O_finish_125 : decode b_O_finish 125 = .ok (.goto 4, 3) := by decide +kernel
theorem d_O_finish_128 : decode b_O_finish 128 = .ok (.iconst 0, 1) := by decide +kernel
theorem d_O_finish_129 : decode b_O_finish 129 = .ok (.invokevirtual 119, 3) := by decide +kernel
theorem d_O_finish_132 : decode b_O_finish 132 = .ok (.iinc 3 (-1), 3) := by decide +kernel
theorem d_O_finish_135 : decode b_O_finish 135 = .ok (.goto (-28), 3) := by decide +kernel
theorem d_O_finish_138 : decode b_O_finish 138 = .ok (.return_, 1) := by decide +kernel
theorem d_O_thrown_0 : decode b_O_thrown 0 = .ok (.aload_n 0, 1) := by decide +kernel
theorem d_O_thrown_1 : decode b_O_thrown 1 = .ok (.getfield 71, 3) := by decide +kernel
theorem d_O_thrown_4 : decode b_O_thrown 4 = .ok (.ireturn, 1) := by decide +kernel
theorem d_O_feed_0 : decode b_O_feed 0 = .ok (.aload_n 0, 1) := by decide +kernel
theorem d_O_feed_1 : decode b_O_feed 1 = .ok (.aload_n 0, 1) := by decide +kernel
theorem d_O_feed_2 : decode b_O_feed 2 = .ok (.getfield 75, 3) := by decide +kernel
theorem d_O_feed_5 : decode b_O_feed 5 = .ok (.bipush 20, 2) := by decide +kernel
theorem d_O_feed_7 : decode b_O_feed 7 = .ok (.iadd, 1) := by decide +kernel
theorem d_O_feed_8 : decode b_O_feed 8 = .ok (.sipush 8192, 3) := by decide +kernel
theorem d_O_feed_11 : decode b_O_feed 11 = .ok (.if_icmp .gt 7, 3) := by decide +kernel
theorem d_O_feed_14 : decode b_O_feed 14 = .ok (.iconst 1, 1) := by decide +kernel
theorem d_O_feed_15 : decode b_O_feed 15 = .ok (.goto 4, 3) := by decide +kernel
theorem d_O_feed_18 : decode b_O_feed 18 = .ok (.iconst 0, 1) := by decide +kernel
theorem d_O_feed_19 : decode b_O_feed 19 = .ok (.iconst 1, 1) := by decide +kernel
theorem d_O_feed_20 : decode b_O_feed 20 = .ok (.invokevirtual 78, 3) := by decide +kernel
theorem d_O_feed_23 : decode b_O_feed 23 = .ok (.ifCond .ne 5, 3) := by decide +kernel
theorem d_O_feed_26 : decode b_O_feed 26 = .ok (.iconst 0, 1) := by decide +kernel
theorem d_O_feed_27 : decode b_O_feed 27 = .ok (.ireturn, 1) := by decide +kernel
theorem d_O_feed_28 : decode b_O_feed 28 = .ok (.aload_n 0, 1) := by decide +kernel

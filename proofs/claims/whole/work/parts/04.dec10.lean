theorem d_O_compress32_180 : decode b_O_compress32 180 = .ok (.l2i, 1) := by decide +kernel
theorem d_O_compress32_181 : decode b_O_compress32 181 = .ok (.istore_n 3, 1) := by decide +kernel
theorem d_O_compress32_182 : decode b_O_compress32 182 = .ok (.aload_n 0, 1) := by decide +kernel
theorem d_O_compress32_183 : decode b_O_compress32 183 = .ok (.getfield 47, 3) := by decide +kernel
theorem d_O_compress32_186 : decode b_O_compress32 186 = .ok (.iconst 3, 1) := by decide +kernel
theorem d_O_compress32_187 : decode b_O_compress32 187 = .ok (.laload, 1) := by decide +kernel
theorem d_O_compress32_188 : decode b_O_compress32 188 = .ok (.l2i, 1) := by decide +kernel
theorem d_O_compress32_189 : decode b_O_compress32 189 = .ok (.istore 4, 2) := by decide +kernel
theorem d_O_compress32_191 : decode b_O_compress32 191 = .ok (.aload_n 0, 1) := by decide +kernel
theorem d_O_compress32_192 : decode b_O_compress32 192 = .ok (.getfield 47, 3) := by decide +kernel
theorem d_O_compress32_195 : decode b_O_compress32 195 = .ok (.iconst 4, 1) := by decide +kernel
theorem d_O_compress32_196 : decode b_O_compress32 196 = .ok (.laload, 1) := by decide +kernel
theorem d_O_compress32_197 : decode b_O_compress32 197 = .ok (.l2i, 1) := by decide +kernel
theorem d_O_compress32_198 : decode b_O_compress32 198 = .ok (.istore 5, 2) := by decide +kernel
theorem d_O_compress32_200 : decode b_O_compress32 200 = .ok (.aload_n 0, 1) := by decide +kernel
theorem d_O_compress32_201 : decode b_O_compress32 201 = .ok (.getfield 47, 3) := by decide +kernel
theorem d_O_compress32_204 : decode b_O_compress32 204 = .ok (.iconst 5, 1) := by decide +kernel
theorem d_O_compress32_205 : decode b_O_compress32 205 = .ok (.laload, 1) := by decide +kernel
theorem d_O_compress32_206 : decode b_O_compress32 206 = .ok (.l2i, 1) := by decide +kernel
theorem d_O_compress32_207 : decode b_O_compress32 207 = .ok (.istore 6, 2) := by decide +kernel
theorem d_O_compress32_209 : decode b_O_compress32 209 = .ok (.aload_n 0, 1) := by decide +kernel
theorem d_O_compress32_210 : decode b_O_compress32 210 = .ok (.getfield 47, 3) := by decide +kernel
theorem d_O_compress32_213 : decode b_O_compress32 213 = .ok (.bipush 6, 2) := by decide +kernel
theorem d_O_compress32_215 : decode b_O_compress32 215 = .ok (.laload, 1) := by decide +kernel
theorem d_O_compress32_216 : decode b_O_compress32 216 = .ok (.l2i, 1) := by decide +kernel
theorem d_O_compress32_217 : decode b_O_compress32 217 = .ok (.istore 7, 2) := by decide +kernel
theorem d_O_compress32_219 : decode b_O_compress32 219 = .ok (.aload_n 0, 1) := by decide +kernel
theorem d_O_compress32_220 : decode b_O_compress32 220 = .ok (.getfield 47, 3) := by decide +kernel
theorem d_O_compress32_223 : decode b_O_compress32 223 = .ok (.bipush 7, 2) := by decide +kernel
theorem d_O_compress32_225 : decode b_O_compress32 225 = .ok (.laload, 1) := by decide +kernel
theorem d_O_compress32_226 : decode b_O_compress32 226 = .ok (.l2i, 1) := by decide +kernel
theorem d_O_compress32_227 : decode b_O_compress32 227 = .ok (.istore 8, 2) := by decide +kernel
theorem d_O_compress32_229 : decode b_O_compress32 229 = .ok (.iconst 0, 1) := by decide +kernel
theorem d_O_compress32_230 : decode b_O_compress32 230 = .ok (.istore 9, 2) := by decide +kernel
theorem d_O_compress32_232 : decode b_O_compress32 232 = .ok (.iload 9, 2) := by decide +kernel
theorem d_O_compress32_234 : decode b_O_compress32 234 = .ok (.bipush 64, 2) := by decide +kernel
theorem d_O_compress32_236 : decode b_O_compress32 236 = .ok (.if_icmp .ge 137, 3) := by decide +kernel
theorem d_O_compress32_239 : decode b_O_compress32 239 = .ok (.iload 8, 2) := by decide +kernel
theorem d_O_compress32_241 : decode b_O_compress32 241 = .ok (.iload 5, 2) := by decide +kernel
theorem d_O_compress32_243 : decode b_O_compress32 243 = .ok (.bipush 6, 2) := by decide +kernel
theorem d_O_compress32_245 : decode b_O_compress32 245 = .ok (.invokestatic 172, 3) := by decide +kernel
theorem d_O_compress32_248 : decode b_O_compress32 248 = .ok (.iload 5, 2) := by decide +kernel
theorem d_O_compress32_250 : decode b_O_compress32 250 = .ok (.bipush 11, 2) := by decide +kernel
theorem d_O_compress32_252 : decode b_O_compress32 252 = .ok (.invokestatic 172, 3) := by decide +kernel
theorem d_O_compress32_255 : decode b_O_compress32 255 = .ok (.ixor, 1) := by decide +kernel
theorem d_O_compress32_256 : decode b_O_compress32 256 = .ok (.iload 5, 2) := by decide +kernel
theorem d_O_compress32_258 : decode b_O_compress32 258 = .ok (.bipush 25, 2) := by decide +kernel
theorem d_O_compress32_260 : decode b_O_compress32 260 = .ok (.invokestatic 172, 3) := by decide +kernel
theorem d_O_compress32_263 : decode b_O_compress32 263 = .ok (.ixor, 1) := by decide +kernel
theorem d_O_compress32_264 : decode b_O_compress32 264 = .ok (.iadd, 1) := by decide +kernel
theorem d_O_compress32_265 : decode b_O_compress32 265 = .ok (.iload 5, 2) := by decide +kernel
theorem d_O_compress32_267 : decode b_O_compress32 267 = .ok (.iload 6, 2) := by decide +kernel
theorem d_O_compress32_269 : decode b_O_compress32 269 = .ok (.iand, 1) := by decide +kernel
theorem d_O_compress32_270 : decode b_O_compress32 270 = .ok (.iload 5, 2) := by decide +kernel
theorem d_O_compress32_272 : decode b_O_compress32 272 = .ok (.iconst (-1), 1) := by decide +kernel
theorem d_O_compress32_273 : decode b_O_compress32 273 = .ok (.ixor, 1) := by decide +kernel
theorem d_O_compress32_274 : decode b_O_compress32 274 = .ok (.iload 7, 2) := by decide +kernel
theorem d_O_compress32_276 : decode b_O_compress32 276 = .ok (.iand, 1) := by decide +kernel
theorem d_O_compress32_277 : decode b_O_compress32 277 = .ok (.ixor, 1) := by decide +kernel
theorem d_O_compress32_278 : decode b_O_compress32 278 = .ok (.iadd, 1) := by decide +kernel
theorem d_O_compress32_279 : decode b_O_compress32 279 = .ok (.aload_n 0, 1) := by decide +kernel
theorem d_O_compress32_280 : decode b_O_compress32 280 = .ok (.getfield 26, 3) := by decide +kernel
theorem d_O_compress32_283 : decode b_O_compress32 283 = .ok (.iload 9, 2) := by decide +kernel
theorem d_O_compress32_285 : decode b_O_compress32 285 = .ok (.laload, 1) := by decide +kernel
theorem d_O_compress32_286 : decode b_O_compress32 286 = .ok (.bipush 32, 2) := by decide +kernel
theorem d_O_compress32_288 : decode b_O_compress32 288 = .ok (.lushr, 1) := by decide +kernel
theorem d_O_compress32_289 : decode b_O_compress32 289 = .ok (.l2i, 1) := by decide +kernel
theorem d_O_compress32_290 : decode b_O_compress32 290 = .ok (.iadd, 1) := by decide +kernel
theorem d_O_compress32_291 : decode b_O_compress32 291 = .ok (.aload_n 0, 1) := by decide +kernel
theorem d_O_compress32_292 : decode b_O_compress32 292 = .ok (.getfield 56, 3) := by decide +kernel
theorem d_O_compress32_295 : decode b_O_compress32 295 = .ok (.iload 9, 2) := by decide +kernel
theorem d_O_compress32_297 : decode b_O_compress32 297 = .ok (.laload, 1) := by decide +kernel
theorem d_O_compress32_298 : decode b_O_compress32 298 = .ok (.l2i, 1) := by decide +kernel
theorem d_O_compress32_299 : decode b_O_compress32 299 = .ok (.iadd, 1) := by decide +kernel
theorem d_O_compress32_300 : decode b_O_compress32 300 = .ok (.istore 10, 2) := by decide +kernel
theorem d_O_compress32_302 : decode b_O_compress32 302 = .ok (.iload_n 1, 1) := by decide +kernel
theorem d_O_compress32_303 : decode b_O_compress32 303 = .ok (.iconst 2, 1) := by decide +kernel
theorem d_O_compress32_304 : decode b_O_compress32 304 = .ok (.invokestatic 172, 3) := by decide +kernel
theorem d_O_compress32_307 : decode b_O_compress32 307 = .ok (.iload_n 1, 1) := by decide +kernel
theorem d_O_compress32_308 : decode b_O_compress32 308 = .ok (.bipush 13, 2) := by decide +kernel
theorem d_O_compress32_310 : decode b_O_compress32 310 = .ok (.invokestatic 172, 3) := by decide +kernel
theorem d_O_compress32_313 : decode b_O_compress32 313 = .ok (.ixor, 1) := by decide +kernel
theorem d_O_compress32_314 : decode b_O_compress32 314 = .ok (.iload_n 1, 1) := by decide +kernel
theorem d_O_compress32_315 : decode b_O_compress32 315 = .ok (.bipush 22, 2) := by decide +kernel
theorem d_O_compress32_317 : decode b_O_compress32 317 = .ok (.invokestatic 172, 3) := by decide +kernel
theorem d_O_compress32_320 : decode b_O_compress32 320 = .ok (.ixor, 1) := by decide +kernel
theorem d_O_compress32_321 : decode b_O_compress32 321 = .ok (.iload_n 1, 1) := by decide +kernel
theorem d_O_compress32_322 : decode b_O_compress32 322 = .ok (.iload_n 2, 1) := by decide +kernel
theorem d_O_compress32_323 : decode b_O_compress32 323 = .ok (.iand, 1) := by decide +kernel
theorem d_O_compress32_324 : decode b_O_compress32 324 = .ok (.iload_n 1, 1) := by decide +kernel
theorem d_O_compress32_325 : decode b_O_compress32 325 = .ok (.iload_n 3, 1) := by decide +kernel
theorem d_O_compress32_326 : decode b_O_compress32 326 = .ok (.iand, 1) := by decide +kernel
theorem d_O_compress32_327 : decode b_O_compress32 327 = .ok (.ixor, 1) := by decide +kernel
theorem d_O_compress32_328 : decode b_O_compress32 328 = .ok (.iload_n 2, 1) := by decide +kernel
theorem d_O_compress32_329 : decode b_O_compress32 329 = .ok (.iload_n 3, 1) := by decide +kernel
theorem d_O_compress32_330 : decode b_O_compress32 330 = .ok (.iand, 1) := by decide +kernel
theorem d_O_compress32_331 : decode b_O_compress32 331 = .ok (.ixor, 1) := by decide +kernel
theorem d_O_compress32_332 : decode b_O_compress32 332 = .ok (.iadd, 1) := by decide +kernel
theorem d_O_compress32_333 : decode b_O_compress32 333 = .ok (.istore 11, 2) := by decide +kernel
theorem d_O_compress32_335 : decode b_O_compress32 335 = .ok (.iload 7, 2) := by decide +kernel
theorem d_O_compress32_337 : decode b_O_compress32 337 = .ok (.istore 8, 2) := by decide +kernel
theorem d_O_compress32_339 : decode b_O_compress32 339 = .ok (.iload 6, 2) := by decide +kernel
theorem d_O_compress32_341 : decode b_O_compress32 341 = .ok (.istore 7, 2) := by decide +kernel
theorem d_O_compress32_343 : decode b_O_compress32 343 = .ok (.iload 5, 2) := by decide +kernel
theorem d_O_compress32_345 : decode b_O_compress32 345 = .ok (.istore 6, 2) := by decide +kernel
theorem d_O_compress32_347 : decode b_O_compress32 347 = .ok (.iload 4, 2) := by decide +kernel
theorem d_O_compress32_349 : decode b_O_compress32 349 = .ok (.iload 10, 2) := by decide +kernel
theorem d_O_compress32_351 : decode b_O_compress32 351 = .ok (.iadd, 1) := by decide +kernel
theorem d_O_compress32_352 : decode b_O_compress32 352 = .ok (.istore 5, 2) := by decide +kernel
theorem d_O_compress32_354 : decode b_O_compress32 354 = .ok (.iload_n 3, 1) := by decide +kernel
theorem d_O_compress32_355 : decode b_O_compress32 355 = .ok (.istore 4, 2) := by decide +kernel
theorem d_O_compress32_357 : decode b_O_compress32 357 = .ok (.iload_n 2, 1) := by decide +kernel
theorem d_O_compress32_358 : decode b_O_compress32 358 = .ok (.istore_n 3, 1) := by decide +kernel
theorem d_O_compress32_359 : decode b_O_compress32 359 = .ok (.iload_n 1, 1) := by decide +kernel
theorem d_O_compress32_360 : decode b_O_compress32 360 = .ok (.istore_n 2, 1) := by decide +kernel
theorem d_O_compress32_361 : decode b_O_compress32 361 = .ok (.iload 10, 2) := by decide +kernel
theorem d_O_compress32_363 : decode b_O_compress32 363 = .ok (.iload 11, 2) := by decide +kernel
theorem d_O_compress32_365 : decode b_O_compress32 365 = .ok (.iadd, 1) := by decide +kernel
theorem d_O_compress32_366 : decode b_O_compress32 366 = .ok (.istore_n 1, 1) := by decide +kernel
theorem d_O_compress32_367 : decode b_O_compress32 367 = .ok (.iinc 9 1, 3) := by decide +kernel
theorem d_O_compress32_370 : decode b_O_compress32 370 = .ok (.goto (-138), 3) := by decide +kernel
theorem d_O_compress32_373 : decode b_O_compress32 373 = .ok (.aload_n 0, 1) := by decide +kernel
theorem d_O_compress32_374 : decode b_O_compress32 374 = .ok (.getfield 47, 3) := by decide +kernel
theorem d_O_compress32_377 : decode b_O_compress32 377 = .ok (.iconst 0, 1) := by decide +kernel
theorem d_O_compress32_378 : decode b_O_compress32 378 = .ok (.dup2, 1) := by decide +kernel
theorem d_O_compress32_379 : decode b_O_compress32 379 = .ok (.laload, 1) := by decide +kernel
theorem d_O_compress32_380 : decode b_O_compress32 380 = .ok (.iload_n 1, 1) := by decide +kernel
theorem d_O_compress32_381 : decode b_O_compress32 381 = .ok (.i2l, 1) := by decide +kernel
theorem d_O_compress32_382 : decode b_O_compress32 382 = .ok (.ladd, 1) := by decide +kernel
theorem d_O_compress32_383 : decode b_O_compress32 383 = .ok (.lastore, 1) := by decide +kernel
theorem d_O_compress32_384 : decode b_O_compress32 384 = .ok (.aload_n 0, 1) := by decide +kernel
theorem d_O_compress32_385 : decode b_O_compress32 385 = .ok (.getfield 47, 3) := by decide +kernel
theorem d_O_compress32_388 : decode b_O_compress32 388 = .ok (.iconst 1, 1) := by decide +kernel
theorem d_O_compress32_389 : decode b_O_compress32 389 = .ok (.dup2, 1) := by decide +kernel
theorem d_O_compress32_390 : decode b_O_compress32 390 = .ok (.laload, 1) := by decide +kernel
theorem d_O_compress32_391 : decode b_O_compress32 391 = .ok (.iload_n 2, 1) := by decide +kernel
theorem d_O_compress32_392 : decode b_O_compress32 392 = .ok (.i2l, 1) := by decide +kernel
theorem d_O_compress32_393 : decode b_O_compress32 393 = .ok (.ladd, 1) := by decide +kernel
theorem d_O_compress32_394 : decode b_O_compress32 394 = .ok (.lastore, 1) := by decide +kernel
theorem d_O_compress32_395 : decode b_O_compress32 395 = .ok (.aload_n 0, 1) := by decide +kernel
theorem d_O_compress32_396 : decode b_O_compress32 396 = .ok (.getfield 47, 3) := by decide +kernel
theorem d_O_compress32_399 : decode b_O_compress32 399 = .ok (.iconst 2, 1) := by decide +kernel
theorem d_O_compress32_400 : decode b_O_compress32 400 = .ok (.dup2, 1) := by decide +kernel
theorem d_O_compress32_401 : decode b_O_compress32 401 = .ok (.laload, 1) := by decide +kernel
theorem d_O_compress32_402 : decode b_O_compress32 402 = .ok (.iload_n 3, 1) := by decide +kernel
theorem d_O_compress32_403 : decode b_O_compress32 403 = .ok (.i2l, 1) := by decide +kernel
theorem d_O_compress32_404 : decode b_O_compress32 404 = .ok (.ladd, 1) := by decide +kernel
theorem d_O_compress32_405 : decode b_O_compress32 405 = .ok (.lastore, 1) := by decide +kernel
theorem d_O_compress32_406 : decode b_O_compress32 406 = .ok (.aload_n 0, 1) := by decide +kernel
theorem d_O_compress32_407 : decode b_O_compress32 407 = .ok (.getfield 47, 3) := by decide +kernel
theorem d_O_compress32_410 : decode b_O_compress32 410 = .ok (.iconst 3, 1) := by decide +kernel
theorem d_O_compress32_411 : decode b_O_compress32 411 = .ok (.dup2, 1) := by decide +kernel
theorem d_O_compress32_412 : decode b_O_compress32 412 = .ok (.laload, 1) := by decide +kernel
theorem d_O_compress32_413 : decode b_O_compress32 413 = .ok (.iload 4, 2) := by decide +kernel
theorem d_O_compress32_415 : decode b_O_compress32 415 = .ok (.i2l, 1) := by decide +kernel
theorem d_O_compress32_416 : decode b_O_compress32 416 = .ok (.ladd, 1) := by decide +kernel
theorem d_O_compress32_417 : decode b_O_compress32 417 = .ok (.lastore, 1) := by decide +kernel
theorem d_O_compress32_418 : decode b_O_compress32 418 = .ok (.aload_n 0, 1) := by decide +kernel
theorem d_O_compress32_419 : decode b_O_compress32 419 = .ok (.getfield 47, 3) := by decide +kernel
theorem d_O_compress32_422 : decode b_O_compress32 422 = .ok (.iconst 4, 1) := by decide +kernel
theorem d_O_compress32_423 : decode b_O_compress32 423 = .ok (.dup2, 1) := by decide +kernel
theorem d_O_compress32_424 : decode b_O_compress32 424 = .ok (.laload, 1) := by decide +kernel
theorem d_O_compress32_425 : decode b_O_compress32 425 = .ok (.iload 5, 2) := by decide +kernel
theorem d_O_compress32_427 : decode b_O_compress32 427 = .ok (.i2l, 1) := by decide +kernel
theorem d_O_compress32_428 : decode b_O_compress32 428 = .ok (.ladd, 1) := by decide +kernel
theorem d_O_compress32_429 : decode b_O_compress32 429 = .ok (.lastore, 1) := by decide +kernel
theorem d_O_compress32_430 : decode b_O_compress32 430 = .ok (.aload_n 0, 1) := by decide +kernel
theorem d_O_compress32_431 : decode b_O_compress32 431 = .ok (.getfield 47, 3) := by decide +kernel
theorem d_O_compress32_434 : decode b_O_compress32 434 = .ok (.iconst 5, 1) := by decide +kernel
theorem d_O_compress32_435 : decode b_O_compress32 435 = .ok (.dup2, 1) := by decide +kernel
theorem d_O_compress32_436 : decode b_O_compress32 436 = .ok (.laload, 1) := by decide +kernel
theorem d_O_compress32_437 : decode b_O_compress32 437 = .ok (.iload 6, 2) := by decide +kernel
theorem d_O_compress32_439 : decode b_O_compress32 439 = .ok (.i2l, 1) := by decide +kernel
theorem d_O_compress32_440 : decode b_O_compress32 440 = .ok (.ladd, 1) := by decide +kernel
theorem d_O_compress32_441 : decode b_O_compress32 441 = .ok (.lastore, 1) := by decide +kernel
theorem d_O_compress32_442 : decode b_O_compress32 442 = .ok (.aload_n 0, 1) := by decide +kernel
theorem d_O_compress32_443 : decode b_O_compress32 443 = .ok (.getfield 47, 3) := by decide +kernel
theorem d_O_compress32_446 : decode b_O_compress32 446 = .ok (.bipush 6, 2) := by decide +kernel
theorem d_O_compress32_448 : decode b_O_compress32 448 = .ok (.dup2, 1) := by decide +kernel
theorem d_O_compress32_449 : decode b_O_compress32 449 = .ok (.laload, 1) := by decide +kernel
theorem d_O_compress32_450 : decode b_O_compress32 450 = .ok (.iload 7, 2) := by decide +kernel
theorem d_O_compress32_452 : decode b_O_compress32 452 = .ok (.i2l, 1) := by decide +kernel
theorem d_O_compress32_453 : decode b_O_compress32 453 = .ok (.ladd, 1) := by decide +kernel
theorem d_O_compress32_454 : decode b_O_compress32 454 = .ok (.lastore, 1) := by decide +kernel
theorem d_O_compress32_455 : decode b_O_compress32 455 = .ok (.aload_n 0, 1) := by decide +kernel
theorem d_O_compress32_456 : decode b_O_compress32 456 = .ok (.getfield 47, 3) := by decide +kernel
theorem d_O_compress32_459 : decode b_O_compress32 459 = .ok (.bipush 7, 2) := by decide +kernel
theorem d_O_compress32_461 : decode b_O_compress32 461 = .ok (.dup2, 1) := by decide +kernel
theorem d_O_compress32_462 : decode b_O_compress32 462 = .ok (.laload, 1) := by decide +kernel
theorem d_O_compress32_463 : decode b_O_compress32 463 = .ok (.iload 8, 2) := by decide +kernel
theorem d_O_compress32_465 : decode b_O_compress32 465 = .ok (.i2l, 1) := by decide +kernel
theorem d_O_compress32_466 : decode b_O_compress32 466 = .ok (.ladd, 1) := by decide +kernel
theorem d_O_compress32_467 : decode b_O_compress32 467 = .ok (.lastore, 1) := by decide +kernel
theorem d_O_compress32_468 : decode b_O_compress32 468 = .ok (.return_, 1) := by decide +kernel
theorem d_O_turn_0 : decode b_O_turn 0 = .ok (.iload_n 0, 1) := by decide +kernel
theorem d_O_turn_1 : decode b_O_turn 1 = .ok (.iload_n 1, 1) := by decide +kernel
theorem d_O_turn_2 : decode b_O_turn 2 = .ok (.iushr, 1) := by decide +kernel
theorem d_O_turn_3 : decode b_O_turn 3 = .ok (.iload_n 0, 1) := by decide +kernel
theorem d_O_turn_4 : decode b_O_turn 4 = .ok (.bipush 32, 2) := by decide +kernel
theorem d_O_turn_6 : decode b_O_turn 6 = .ok (.iload_n 1, 1) := by decide +kernel
theorem d_O_turn_7 : decode b_O_turn 7 = .ok (.isub, 1) := by decide +kernel
theorem d_O_turn_8 : decode b_O_turn 8 = .ok (.ishl, 1) := by decide +kernel
theorem d_O_turn_9 : decode b_O_turn 9 = .ok (.ior, 1) := by decide +kernel
theorem d_O_turn_10 : decode b_O_turn 10 = .ok (.ireturn, 1) := by decide +kernel
theorem d_O_compress64_0 : decode b_O_compress64 0 = .ok (.iconst 0, 1) := by decide +kernel
theorem d_O_compress64_1 : decode b_O_compress64 1 = .ok (.istore_n 1, 1) := by decide +kernel
theorem d_O_compress64_2 : decode b_O_compress64 2 = .ok (.iload_n 1, 1) := by decide +kernel
theorem d_O_compress64_3 : decode b_O_compress64 3 = .ok (.bipush 16, 2) := by decide +kernel
theorem d_O_compress64_5 : decode b_O_compress64 5 = .ok (.if_icmp .ge 62, 3) := by decide +kernel
theorem d_O_compress64_8 : decode b_O_compress64 8 = .ok (.aload_n 0, 1) := by decide +kernel
theorem d_O_compress64_9 : decode b_O_compress64 9 = .ok (.getfield 56, 3) := by decide +kernel
theorem d_O_compress64_12 : decode b_O_compress64 12 = .ok (.iload_n 1, 1) := by decide +kernel
theorem d_O_compress64_13 : decode b_O_compress64 13 = .ok (.lconst 0, 1) := by decide +kernel
theorem d_O_compress64_14 : decode b_O_compress64 14 = .ok (.lastore, 1) := by decide +kernel
theorem d_O_compress64_15 : decode b_O_compress64 15 = .ok (.iconst 0, 1) := by decide +kernel
theorem d_O_compress64_16 : decode b_O_compress64 16 = .ok (.istore_n 2, 1) := by decide +kernel
theorem d_O_compress64_17 : decode b_O_compress64 17 = .ok (.iload_n 2, 1) := by decide +kernel
theorem d_O_compress64_18 : decode b_O_compress64 18 = .ok (.bipush 8, 2) := by decide +kernel
theorem d_O_compress64_20 : decode b_O_compress64 20 = .ok (.if_icmp .ge 41, 3) := by decide +kernel
theorem d_O_compress64_23 : decode b_O_compress64 23 = .ok (.aload_n 0, 1) := by decide +kernel
theorem d_O_compress64_24 : decode b_O_compress64 24 = .ok (.getfield 56, 3) := by decide +kernel
theorem d_O_compress64_27 : decode b_O_compress64 27 = .ok (.iload_n 1, 1) := by decide +kernel
theorem d_O_compress64_28 : decode b_O_compress64 28 = .ok (.aload_n 0, 1) := by decide +kernel
theorem d_O_compress64_29 : decode b_O_compress64 29 = .ok (.getfield 56, 3) := by decide +kernel
theorem d_O_compress64_32 : decode b_O_compress64 32 = .ok (.iload_n 1, 1) := by decide +kernel
theorem d_O_compress64_33 : decode b_O_compress64 33 = .ok (.laload, 1) := by decide +kernel
theorem d_O_compress64_34 : decode b_O_compress64 34 = .ok (.bipush 8, 2) := by decide +kernel
theorem d_O_compress64_36 : decode b_O_compress64 36 = .ok (.lshl, 1) := by decide +kernel
theorem d_O_compress64_37 : decode b_O_compress64 37 = .ok (.aload_n 0, 1) := by decide +kernel
theorem d_O_compress64_38 : decode b_O_compress64 38 = .ok (.getfield 59, 3) := by decide +kernel
theorem d_O_compress64_41 : decode b_O_compress64 41 = .ok (.bipush 8, 2) := by decide +kernel
theorem d_O_compress64_43 : decode b_O_compress64 43 = .ok (.iload_n 1, 1) := by decide +kernel
theorem d_O_compress64_44 : decode b_O_compress64 44 = .ok (.imul, 1) := by decide +kernel
theorem d_O_compress64_45 : decode b_O_compress64 45 = .ok (.iload_n 2, 1) := by decide +kernel
theorem d_O_compress64_46 : decode b_O_compress64 46 = .ok (.iadd, 1) := by decide +kernel
theorem d_O_compress64_47 : decode b_O_compress64 47 = .ok (.baload, 1) := by decide +kernel
theorem d_O_compress64_48 : decode b_O_compress64 48 = .ok (.i2l, 1) := by decide +kernel
theorem d_O_compress64_49 : decode b_O_compress64 49 = .ok (.ldc2_w 90, 3) := by decide +kernel
theorem d_O_compress64_52 : decode b_O_compress64 52 = .ok (.land, 1) := by decide +kernel
theorem d_O_compress64_53 : decode b_O_compress64 53 = .ok (.lor, 1) := by decide +kernel
theorem d_O_compress64_54 : decode b_O_compress64 54 = .ok (.lastore, 1) := by decide +kernel
theorem d_O_compress64_55 : decode b_O_compress64 55 = .ok (.iinc 2 1, 3) := by decide +kernel
theorem d_O_compress64_58 : decode b_O_compress64 58 = .ok (.goto (-41), 3) := by decide +kernel
theorem d_O_compress64_61 : decode b_O_compress64 61 = .ok (.iinc 1 1, 3) := by decide +kernel
theorem d_O_compress64_64 : decode b_O_compress64 64 = .ok (.goto (-62), 3) := by decide +kernel
theorem d_O_compress64_67 : decode b_O_compress64 67 = .ok (.bipush 16, 2) := by decide +kernel
theorem d_O_compress64_69 : decode b_O_compress64 69 = .ok (.istore_n 1, 1) := by decide +kernel
theorem d_O_compress64_70 : decode b_O_compress64 70 = .ok (.iload_n 1, 1) := by decide +kernel
theorem d_O_compress64_71 : decode b_O_compress64 71 = .ok (.bipush 80, 2) := by decide +kernel
theorem d_O_compress64_73 : decode b_O_compress64 73 = .ok (.if_icmp .ge 94, 3) := by decide +kernel
theorem d_O_compress64_76 : decode b_O_compress64 76 = .ok (.aload_n 0, 1) := by decide +kernel
theorem d_O_compress64_77 : decode b_O_compress64 77 = .ok (.getfield 56, 3) := by decide +kernel
theorem d_O_compress64_80 : decode b_O_compress64 80 = .ok (.iload_n 1, 1) := by decide +kernel
theorem d_O_compress64_81 : decode b_O_compress64 81 = .ok (.iconst 2, 1) := by decide +kernel
theorem d_O_compress64_82 : decode b_O_compress64 82 = .ok (.isub, 1) := by decide +kernel
theorem d_O_compress64_83 : decode b_O_compress64 83 = .ok (.laload, 1) := by decide +kernel
theorem d_O_compress64_84 : decode b_O_compress64 84 = .ok (.lstore_n 2, 1) := by decide +kernel
theorem d_O_compress64_85 : decode b_O_compress64 85 = .ok (.aload_n 0, 1) := by decide +kernel
theorem d_O_compress64_86 : decode b_O_compress64 86 = .ok (.getfield 56, 3) := by decide +kernel
theorem d_O_compress64_89 : decode b_O_compress64 89 = .ok (.iload_n 1, 1) := by decide +kernel
theorem d_O_compress64_90 : decode b_O_compress64 90 = .ok (.bipush 15, 2) := by decide +kernel
theorem d_O_compress64_92 : decode b_O_compress64 92 = .ok (.isub, 1) := by decide +kernel
theorem d_O_compress64_93 : decode b_O_compress64 93 = .ok (.laload, 1) := by decide +kernel
theorem d_O_compress64_94 : decode b_O_compress64 94 = .ok (.lstore 4, 2) := by decide +kernel
theorem d_O_compress64_96 : decode b_O_compress64 96 = .ok (.aload_n 0, 1) := by decide +kernel
theorem d_O_compress64_97 : decode b_O_compress64 97 = .ok (.getfield 56, 3) := by decide +kernel
theorem d_O_compress64_100 : decode b_O_compress64 100 = .ok (.iload_n 1, 1) := by decide +kernel
theorem d_O_compress64_101 : decode b_O_compress64 101 = .ok (.lload_n 2, 1) := by decide +kernel
theorem d_O_compress64_102 : decode b_O_compress64 102 = .ok (.bipush 19, 2) := by decide +kernel
theorem d_O_compress64_104 : decode b_O_compress64 104 = .ok (.invokestatic 169, 3) := by decide +kernel
theorem d_O_compress64_107 : decode b_O_compress64 107 = .ok (.lload_n 2, 1) := by decide +kernel
theorem d_O_compress64_108 : decode b_O_compress64 108 = .ok (.bipush 61, 2) := by decide +kernel
theorem d_O_compress64_110 : decode b_O_compress64 110 = .ok (.invokestatic 169, 3) := by decide +kernel
theorem d_O_compress64_113 : decode b_O_compress64 113 = .ok (.lxor, 1) := by decide +kernel
theorem d_O_compress64_114 : decode b_O_compress64 114 = .ok (.lload_n 2, 1) := by decide +kernel
theorem d_O_compress64_115 : decode b_O_compress64 115 = .ok (.bipush 6, 2) := by decide +kernel
theorem d_O_compress64_117 : decode b_O_compress64 117 = .ok (.lushr, 1) := by decide +kernel
theorem d_O_compress64_118 : decode b_O_compress64 118 = .ok (.lxor, 1) := by decide +kernel
theorem d_O_compress64_119 : decode b_O_compress64 119 = .ok (.aload_n 0, 1) := by decide +kernel
theorem d_O_compress64_120 : decode b_O_compress64 120 = .ok (.getfield 56, 3) := by decide +kernel
theorem d_O_compress64_123 : decode b_O_compress64 123 = .ok (.iload_n 1, 1) := by decide +kernel
theorem d_O_compress64_124 : decode b_O_compress64 124 = .ok (.bipush 7, 2) := by decide +kernel
theorem d_O_compress64_126 : decode b_O_compress64 126 = .ok (.isub, 1) := by decide +kernel
theorem d_O_compress64_127 : decode b_O_compress64 127 = .ok (.laload, 1) := by decide +kernel
theorem d_O_compress64_128 : decode b_O_compress64 128 = .ok (.ladd, 1) := by decide +kernel
theorem d_O_compress64_129 : decode b_O_compress64 129 = .ok (.lload 4, 2) := by decide +kernel
theorem d_O_compress64_131 : decode b_O_compress64 131 = .ok (.iconst 1, 1) := by decide +kernel
theorem d_O_compress64_132 : decode b_O_compress64 132 = .ok (.invokestatic 169, 3) := by decide +kernel
theorem d_O_compress64_135 : decode b_O_compress64 135 = .ok (.lload 4, 2) := by decide +kernel
theorem d_O_compress64_137 : decode b_O_compress64 137 = .ok (.bipush 8, 2) := by decide +kernel
theorem d_O_compress64_139 : decode b_O_compress64 139 = .ok (.invokestatic 169, 3) := by decide +kernel
theorem d_O_compress64_142 : decode b_O_compress64 142 = .ok (.lxor, 1) := by decide +kernel
theorem d_O_compress64_143 : decode b_O_compress64 143 = .ok (.lload 4, 2) := by decide +kernel
theorem d_O_compress64_145 : decode b_O_compress64 145 = .ok (.bipush 7, 2) := by decide +kernel
theorem d_O_compress64_147 : decode b_O_compress64 147 = .ok (.lushr, 1) := by decide +kernel
theorem d_O_compress64_148 : decode b_O_compress64 148 = .ok (.lxor, 1) := by decide +kernel
theorem d_O_compress64_149 : decode b_O_compress64 149 = .ok (.ladd, 1) := by decide +kernel
theorem d_O_compress64_150 : decode b_O_compress64 150 = .ok (.aload_n 0, 1) := by decide +kernel
theorem d_O_compress64_151 : decode b_O_compress64 151 = .ok (.getfield 56, 3) := by decide +kernel
theorem d_O_compress64_154 : decode b_O_compress64 154 = .ok (.iload_n 1, 1) := by decide +kernel

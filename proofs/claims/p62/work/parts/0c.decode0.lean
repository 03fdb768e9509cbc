theorem dL_b0 : (decode cL_law 292 = .ok (.aload_n 1, 1)) ∧ (decode cL_law 293 = .ok (.aload_n 0, 1)) ∧ (decode cL_law 294 = .ok (.iload_n 3, 1)) ∧ (decode cL_law 295 = .ok (.iconst 1, 1)) ∧ (decode cL_law 296 = .ok (.iadd, 1)) ∧ (decode cL_law 297 = .ok (.iaload, 1)) ∧ (decode cL_law 298 = .ok (.aload_n 0, 1)) ∧ (decode cL_law 299 = .ok (.iload_n 3, 1)) ∧ (decode cL_law 300 = .ok (.iconst 2, 1)) ∧ (decode cL_law 301 = .ok (.iadd, 1)) ∧ (decode cL_law 302 = .ok (.iaload, 1)) ∧ (decode cL_law 303 = .ok (.aload_n 0, 1)) := by decide +kernel
theorem dL_law_292 : decode cL_law 292 = .ok (.aload_n 1, 1) := dL_b0.1
theorem dL_law_293 : decode cL_law 293 = .ok (.aload_n 0, 1) := dL_b0.2.1
theorem dL_law_294 : decode cL_law 294 = .ok (.iload_n 3, 1) := dL_b0.2.2.1
theorem dL_law_295 : decode cL_law 295 = .ok (.iconst 1, 1) := dL_b0.2.2.2.1
theorem dL_law_296 : decode cL_law 296 = .ok (.iadd, 1) := dL_b0.2.2.2.2.1
theorem dL_law_297 : decode cL_law 297 = .ok (.iaload, 1) := dL_b0.2.2.2.2.2.1
theorem dL_law_298 : decode cL_law 298 = .ok (.aload_n 0, 1) := dL_b0.2.2.2.2.2.2.1
theorem dL_law_299 : decode cL_law 299 = .ok (.iload_n 3, 1) := dL_b0.2.2.2.2.2.2.2.1
theorem dL_law_300 : decode cL_law 300 = .ok (.iconst 2, 1) := dL_b0.2.2.2.2.2.2.2.2.1
theorem dL_law_301 : decode cL_law 301 = .ok (.iadd, 1) := dL_b0.2.2.2.2.2.2.2.2.2.1
theorem dL_law_302 : decode cL_law 302 = .ok (.iaload, 1) := dL_b0.2.2.2.2.2.2.2.2.2.2.1
theorem dL_law_303 : decode cL_law 303 = .ok (.aload_n 0, 1) := dL_b0.2.2.2.2.2.2.2.2.2.2.2
theorem dL_b1 : (decode cL_law 304 = .ok (.iload_n 3, 1)) ∧ (decode cL_law 305 = .ok (.iconst 3, 1)) ∧ (decode cL_law 306 = .ok (.iadd, 1)) ∧ (decode cL_law 307 = .ok (.iaload, 1)) ∧ (decode cL_law 308 = .ok (.aload_n 0, 1)) ∧ (decode cL_law 309 = .ok (.iload_n 3, 1)) ∧ (decode cL_law 310 = .ok (.iconst 4, 1)) ∧ (decode cL_law 311 = .ok (.iadd, 1)) ∧ (decode cL_law 312 = .ok (.iaload, 1)) ∧ (decode cL_law 313 = .ok (.aload_n 0, 1)) ∧ (decode cL_law 314 = .ok (.iload_n 3, 1)) ∧ (decode cL_law 315 = .ok (.iconst 5, 1)) := by decide +kernel
theorem dL_law_304 : decode cL_law 304 = .ok (.iload_n 3, 1) := dL_b1.1
theorem dL_law_305 : decode cL_law 305 = .ok (.iconst 3, 1) := dL_b1.2.1
theorem dL_law_306 : decode cL_law 306 = .ok (.iadd, 1) := dL_b1.2.2.1
theorem dL_law_307 : decode cL_law 307 = .ok (.iaload, 1) := dL_b1.2.2.2.1
theorem dL_law_308 : decode cL_law 308 = .ok (.aload_n 0, 1) := dL_b1.2.2.2.2.1
theorem dL_law_309 : decode cL_law 309 = .ok (.iload_n 3, 1) := dL_b1.2.2.2.2.2.1
theorem dL_law_310 : decode cL_law 310 = .ok (.iconst 4, 1) := dL_b1.2.2.2.2.2.2.1
theorem dL_law_311 : decode cL_law 311 = .ok (.iadd, 1) := dL_b1.2.2.2.2.2.2.2.1
theorem dL_law_312 : decode cL_law 312 = .ok (.iaload, 1) := dL_b1.2.2.2.2.2.2.2.2.1
theorem dL_law_313 : decode cL_law 313 = .ok (.aload_n 0, 1) := dL_b1.2.2.2.2.2.2.2.2.2.1
theorem dL_law_314 : decode cL_law 314 = .ok (.iload_n 3, 1) := dL_b1.2.2.2.2.2.2.2.2.2.2.1
theorem dL_law_315 : decode cL_law 315 = .ok (.iconst 5, 1) := dL_b1.2.2.2.2.2.2.2.2.2.2.2
theorem dL_b2 : (decode cL_law 316 = .ok (.iadd, 1)) ∧ (decode cL_law 317 = .ok (.iaload, 1)) ∧ (decode cL_law 318 = .ok (.invokevirtual 13, 3)) ∧ (decode cL_law 321 = .ok (.pop, 1)) ∧ (decode cL_law 322 = .ok (.aload_n 2, 1)) ∧ (decode cL_law 323 = .ok (.aload_n 0, 1)) ∧ (decode cL_law 324 = .ok (.iload_n 3, 1)) ∧ (decode cL_law 325 = .ok (.iconst 1, 1)) ∧ (decode cL_law 326 = .ok (.iadd, 1)) ∧ (decode cL_law 327 = .ok (.iaload, 1)) ∧ (decode cL_law 328 = .ok (.aload_n 0, 1)) ∧ (decode cL_law 329 = .ok (.iload_n 3, 1)) := by decide +kernel
theorem dL_law_316 : decode cL_law 316 = .ok (.iadd, 1) := dL_b2.1
theorem dL_law_317 : decode cL_law 317 = .ok (.iaload, 1) := dL_b2.2.1
theorem dL_law_318 : decode cL_law 318 = .ok (.invokevirtual 13, 3) := dL_b2.2.2.1
theorem dL_law_321 : decode cL_law 321 = .ok (.pop, 1) := dL_b2.2.2.2.1
theorem dL_law_322 : decode cL_law 322 = .ok (.aload_n 2, 1) := dL_b2.2.2.2.2.1
theorem dL_law_323 : decode cL_law 323 = .ok (.aload_n 0, 1) := dL_b2.2.2.2.2.2.1
theorem dL_law_324 : decode cL_law 324 = .ok (.iload_n 3, 1) := dL_b2.2.2.2.2.2.2.1
theorem dL_law_325 : decode cL_law 325 = .ok (.iconst 1, 1) := dL_b2.2.2.2.2.2.2.2.1
theorem dL_law_326 : decode cL_law 326 = .ok (.iadd, 1) := dL_b2.2.2.2.2.2.2.2.2.1
theorem dL_law_327 : decode cL_law 327 = .ok (.iaload, 1) := dL_b2.2.2.2.2.2.2.2.2.2.1
theorem dL_law_328 : decode cL_law 328 = .ok (.aload_n 0, 1) := dL_b2.2.2.2.2.2.2.2.2.2.2.1
theorem dL_law_329 : decode cL_law 329 = .ok (.iload_n 3, 1) := dL_b2.2.2.2.2.2.2.2.2.2.2.2
theorem dL_b3 : (decode cL_law 330 = .ok (.iconst 2, 1)) ∧ (decode cL_law 331 = .ok (.iadd, 1)) ∧ (decode cL_law 332 = .ok (.iaload, 1)) ∧ (decode cL_law 333 = .ok (.aload_n 0, 1)) ∧ (decode cL_law 334 = .ok (.iload_n 3, 1)) ∧ (decode cL_law 335 = .ok (.iconst 3, 1)) ∧ (decode cL_law 336 = .ok (.iadd, 1)) ∧ (decode cL_law 337 = .ok (.iaload, 1)) ∧ (decode cL_law 338 = .ok (.aload_n 0, 1)) ∧ (decode cL_law 339 = .ok (.iload_n 3, 1)) ∧ (decode cL_law 340 = .ok (.iconst 4, 1)) ∧ (decode cL_law 341 = .ok (.iadd, 1)) := by decide +kernel
theorem dL_law_330 : decode cL_law 330 = .ok (.iconst 2, 1) := dL_b3.1
theorem dL_law_331 : decode cL_law 331 = .ok (.iadd, 1) := dL_b3.2.1
theorem dL_law_332 : decode cL_law 332 = .ok (.iaload, 1) := dL_b3.2.2.1
theorem dL_law_333 : decode cL_law 333 = .ok (.aload_n 0, 1) := dL_b3.2.2.2.1
theorem dL_law_334 : decode cL_law 334 = .ok (.iload_n 3, 1) := dL_b3.2.2.2.2.1
theorem dL_law_335 : decode cL_law 335 = .ok (.iconst 3, 1) := dL_b3.2.2.2.2.2.1
theorem dL_law_336 : decode cL_law 336 = .ok (.iadd, 1) := dL_b3.2.2.2.2.2.2.1
theorem dL_law_337 : decode cL_law 337 = .ok (.iaload, 1) := dL_b3.2.2.2.2.2.2.2.1
theorem dL_law_338 : decode cL_law 338 = .ok (.aload_n 0, 1) := dL_b3.2.2.2.2.2.2.2.2.1
theorem dL_law_339 : decode cL_law 339 = .ok (.iload_n 3, 1) := dL_b3.2.2.2.2.2.2.2.2.2.1
theorem dL_law_340 : decode cL_law 340 = .ok (.iconst 4, 1) := dL_b3.2.2.2.2.2.2.2.2.2.2.1
theorem dL_law_341 : decode cL_law 341 = .ok (.iadd, 1) := dL_b3.2.2.2.2.2.2.2.2.2.2.2
theorem dL_b4 : (decode cL_law 342 = .ok (.iaload, 1)) ∧ (decode cL_law 343 = .ok (.aload_n 0, 1)) ∧ (decode cL_law 344 = .ok (.iload_n 3, 1)) ∧ (decode cL_law 345 = .ok (.iconst 5, 1)) ∧ (decode cL_law 346 = .ok (.iadd, 1)) ∧ (decode cL_law 347 = .ok (.iaload, 1)) ∧ (decode cL_law 348 = .ok (.invokevirtual 17, 3)) ∧ (decode cL_law 351 = .ok (.pop, 1)) ∧ (decode cL_law 352 = .ok (.goto 1613, 3)) ∧ (decode cL_law 355 = .ok (.aload_n 1, 1)) ∧ (decode cL_law 356 = .ok (.aload_n 0, 1)) ∧ (decode cL_law 357 = .ok (.iload_n 3, 1)) := by decide +kernel
theorem dL_law_342 : decode cL_law 342 = .ok (.iaload, 1) := dL_b4.1
theorem dL_law_343 : decode cL_law 343 = .ok (.aload_n 0, 1) := dL_b4.2.1
theorem dL_law_344 : decode cL_law 344 = .ok (.iload_n 3, 1) := dL_b4.2.2.1
theorem dL_law_345 : decode cL_law 345 = .ok (.iconst 5, 1) := dL_b4.2.2.2.1
theorem dL_law_346 : decode cL_law 346 = .ok (.iadd, 1) := dL_b4.2.2.2.2.1
theorem dL_law_347 : decode cL_law 347 = .ok (.iaload, 1) := dL_b4.2.2.2.2.2.1
theorem dL_law_348 : decode cL_law 348 = .ok (.invokevirtual 17, 3) := dL_b4.2.2.2.2.2.2.1
theorem dL_law_351 : decode cL_law 351 = .ok (.pop, 1) := dL_b4.2.2.2.2.2.2.2.1
theorem dL_law_352 : decode cL_law 352 = .ok (.goto 1613, 3) := dL_b4.2.2.2.2.2.2.2.2.1
theorem dL_law_355 : decode cL_law 355 = .ok (.aload_n 1, 1) := dL_b4.2.2.2.2.2.2.2.2.2.1
theorem dL_law_356 : decode cL_law 356 = .ok (.aload_n 0, 1) := dL_b4.2.2.2.2.2.2.2.2.2.2.1
theorem dL_law_357 : decode cL_law 357 = .ok (.iload_n 3, 1) := dL_b4.2.2.2.2.2.2.2.2.2.2.2
theorem dL_b5 : (decode cL_law 358 = .ok (.iconst 1, 1)) ∧ (decode cL_law 359 = .ok (.iadd, 1)) ∧ (decode cL_law 360 = .ok (.iaload, 1)) ∧ (decode cL_law 361 = .ok (.invokevirtual 18, 3)) ∧ (decode cL_law 364 = .ok (.pop, 1)) ∧ (decode cL_law 365 = .ok (.aload_n 2, 1)) ∧ (decode cL_law 366 = .ok (.aload_n 0, 1)) ∧ (decode cL_law 367 = .ok (.iload_n 3, 1)) ∧ (decode cL_law 368 = .ok (.iconst 1, 1)) ∧ (decode cL_law 369 = .ok (.iadd, 1)) ∧ (decode cL_law 370 = .ok (.iaload, 1)) ∧ (decode cL_law 371 = .ok (.invokevirtual 22, 3)) := by decide +kernel
theorem dL_law_358 : decode cL_law 358 = .ok (.iconst 1, 1) := dL_b5.1
theorem dL_law_359 : decode cL_law 359 = .ok (.iadd, 1) := dL_b5.2.1
theorem dL_law_360 : decode cL_law 360 = .ok (.iaload, 1) := dL_b5.2.2.1
theorem dL_law_361 : decode cL_law 361 = .ok (.invokevirtual 18, 3) := dL_b5.2.2.2.1
theorem dL_law_364 : decode cL_law 364 = .ok (.pop, 1) := dL_b5.2.2.2.2.1
theorem dL_law_365 : decode cL_law 365 = .ok (.aload_n 2, 1) := dL_b5.2.2.2.2.2.1
theorem dL_law_366 : decode cL_law 366 = .ok (.aload_n 0, 1) := dL_b5.2.2.2.2.2.2.1
theorem dL_law_367 : decode cL_law 367 = .ok (.iload_n 3, 1) := dL_b5.2.2.2.2.2.2.2.1
theorem dL_law_368 : decode cL_law 368 = .ok (.iconst 1, 1) := dL_b5.2.2.2.2.2.2.2.2.1
theorem dL_law_369 : decode cL_law 369 = .ok (.iadd, 1) := dL_b5.2.2.2.2.2.2.2.2.2.1
theorem dL_law_370 : decode cL_law 370 = .ok (.iaload, 1) := dL_b5.2.2.2.2.2.2.2.2.2.2.1
theorem dL_law_371 : decode cL_law 371 = .ok (.invokevirtual 22, 3) := dL_b5.2.2.2.2.2.2.2.2.2.2.2
theorem dL_b6 : (decode cL_law 374 = .ok (.pop, 1)) ∧ (decode cL_law 375 = .ok (.goto 1590, 3)) ∧ (decode cL_law 378 = .ok (.aload_n 1, 1)) ∧ (decode cL_law 379 = .ok (.invokevirtual 23, 3)) ∧ (decode cL_law 382 = .ok (.pop, 1)) ∧ (decode cL_law 383 = .ok (.aload_n 2, 1)) ∧ (decode cL_law 384 = .ok (.invokevirtual 27, 3)) ∧ (decode cL_law 387 = .ok (.pop, 1)) ∧ (decode cL_law 388 = .ok (.goto 1577, 3)) ∧ (decode cL_law 391 = .ok (.aload_n 1, 1)) ∧ (decode cL_law 392 = .ok (.aload_n 0, 1)) ∧ (decode cL_law 393 = .ok (.iload_n 3, 1)) := by decide +kernel
theorem dL_law_374 : decode cL_law 374 = .ok (.pop, 1) := dL_b6.1
theorem dL_law_375 : decode cL_law 375 = .ok (.goto 1590, 3) := dL_b6.2.1
theorem dL_law_378 : decode cL_law 378 = .ok (.aload_n 1, 1) := dL_b6.2.2.1
theorem dL_law_379 : decode cL_law 379 = .ok (.invokevirtual 23, 3) := dL_b6.2.2.2.1
theorem dL_law_382 : decode cL_law 382 = .ok (.pop, 1) := dL_b6.2.2.2.2.1
theorem dL_law_383 : decode cL_law 383 = .ok (.aload_n 2, 1) := dL_b6.2.2.2.2.2.1
theorem dL_law_384 : decode cL_law 384 = .ok (.invokevirtual 27, 3) := dL_b6.2.2.2.2.2.2.1
theorem dL_law_387 : decode cL_law 387 = .ok (.pop, 1) := dL_b6.2.2.2.2.2.2.2.1
theorem dL_law_388 : decode cL_law 388 = .ok (.goto 1577, 3) := dL_b6.2.2.2.2.2.2.2.2.1
theorem dL_law_391 : decode cL_law 391 = .ok (.aload_n 1, 1) := dL_b6.2.2.2.2.2.2.2.2.2.1
theorem dL_law_392 : decode cL_law 392 = .ok (.aload_n 0, 1) := dL_b6.2.2.2.2.2.2.2.2.2.2.1
theorem dL_law_393 : decode cL_law 393 = .ok (.iload_n 3, 1) := dL_b6.2.2.2.2.2.2.2.2.2.2.2
theorem dL_b7 : (decode cL_law 394 = .ok (.iconst 1, 1)) ∧ (decode cL_law 395 = .ok (.iadd, 1)) ∧ (decode cL_law 396 = .ok (.iaload, 1)) ∧ (decode cL_law 397 = .ok (.invokevirtual 28, 3)) ∧ (decode cL_law 400 = .ok (.pop, 1)) ∧ (decode cL_law 401 = .ok (.aload_n 2, 1)) ∧ (decode cL_law 402 = .ok (.aload_n 0, 1)) ∧ (decode cL_law 403 = .ok (.iload_n 3, 1)) ∧ (decode cL_law 404 = .ok (.iconst 1, 1)) ∧ (decode cL_law 405 = .ok (.iadd, 1)) ∧ (decode cL_law 406 = .ok (.iaload, 1)) ∧ (decode cL_law 407 = .ok (.invokevirtual 31, 3)) := by decide +kernel
theorem dL_law_394 : decode cL_law 394 = .ok (.iconst 1, 1) := dL_b7.1
theorem dL_law_395 : decode cL_law 395 = .ok (.iadd, 1) := dL_b7.2.1
theorem dL_law_396 : decode cL_law 396 = .ok (.iaload, 1) := dL_b7.2.2.1
theorem dL_law_397 : decode cL_law 397 = .ok (.invokevirtual 28, 3) := dL_b7.2.2.2.1
theorem dL_law_400 : decode cL_law 400 = .ok (.pop, 1) := dL_b7.2.2.2.2.1
theorem dL_law_401 : decode cL_law 401 = .ok (.aload_n 2, 1) := dL_b7.2.2.2.2.2.1
theorem dL_law_402 : decode cL_law 402 = .ok (.aload_n 0, 1) := dL_b7.2.2.2.2.2.2.1
theorem dL_law_403 : decode cL_law 403 = .ok (.iload_n 3, 1) := dL_b7.2.2.2.2.2.2.2.1
theorem dL_law_404 : decode cL_law 404 = .ok (.iconst 1, 1) := dL_b7.2.2.2.2.2.2.2.2.1
theorem dL_law_405 : decode cL_law 405 = .ok (.iadd, 1) := dL_b7.2.2.2.2.2.2.2.2.2.1
theorem dL_law_406 : decode cL_law 406 = .ok (.iaload, 1) := dL_b7.2.2.2.2.2.2.2.2.2.2.1
theorem dL_law_407 : decode cL_law 407 = .ok (.invokevirtual 31, 3) := dL_b7.2.2.2.2.2.2.2.2.2.2.2
theorem dL_b8 : (decode cL_law 410 = .ok (.pop, 1)) ∧ (decode cL_law 411 = .ok (.goto 1554, 3)) ∧ (decode cL_law 414 = .ok (.aload_n 1, 1)) ∧ (decode cL_law 415 = .ok (.aload_n 0, 1)) ∧ (decode cL_law 416 = .ok (.iload_n 3, 1)) ∧ (decode cL_law 417 = .ok (.iconst 1, 1)) ∧ (decode cL_law 418 = .ok (.iadd, 1)) ∧ (decode cL_law 419 = .ok (.iaload, 1)) ∧ (decode cL_law 420 = .ok (.aload_n 0, 1)) ∧ (decode cL_law 421 = .ok (.iload_n 3, 1)) ∧ (decode cL_law 422 = .ok (.iconst 2, 1)) ∧ (decode cL_law 423 = .ok (.iadd, 1)) := by decide +kernel
theorem dL_law_410 : decode cL_law 410 = .ok (.pop, 1) := dL_b8.1
theorem dL_law_411 : decode cL_law 411 = .ok (.goto 1554, 3) := dL_b8.2.1
theorem dL_law_414 : decode cL_law 414 = .ok (.aload_n 1, 1) := dL_b8.2.2.1
theorem dL_law_415 : decode cL_law 415 = .ok (.aload_n 0, 1) := dL_b8.2.2.2.1
theorem dL_law_416 : decode cL_law 416 = .ok (.iload_n 3, 1) := dL_b8.2.2.2.2.1
theorem dL_law_417 : decode cL_law 417 = .ok (.iconst 1, 1) := dL_b8.2.2.2.2.2.1
theorem dL_law_418 : decode cL_law 418 = .ok (.iadd, 1) := dL_b8.2.2.2.2.2.2.1
theorem dL_law_419 : decode cL_law 419 = .ok (.iaload, 1) := dL_b8.2.2.2.2.2.2.2.1
theorem dL_law_420 : decode cL_law 420 = .ok (.aload_n 0, 1) := dL_b8.2.2.2.2.2.2.2.2.1
theorem dL_law_421 : decode cL_law 421 = .ok (.iload_n 3, 1) := dL_b8.2.2.2.2.2.2.2.2.2.1
theorem dL_law_422 : decode cL_law 422 = .ok (.iconst 2, 1) := dL_b8.2.2.2.2.2.2.2.2.2.2.1
theorem dL_law_423 : decode cL_law 423 = .ok (.iadd, 1) := dL_b8.2.2.2.2.2.2.2.2.2.2.2
theorem dL_b9 : (decode cL_law 424 = .ok (.iaload, 1)) ∧ (decode cL_law 425 = .ok (.invokevirtual 32, 3)) ∧ (decode cL_law 428 = .ok (.pop, 1)) ∧ (decode cL_law 429 = .ok (.aload_n 2, 1)) ∧ (decode cL_law 430 = .ok (.aload_n 0, 1)) ∧ (decode cL_law 431 = .ok (.iload_n 3, 1)) ∧ (decode cL_law 432 = .ok (.iconst 1, 1)) ∧ (decode cL_law 433 = .ok (.iadd, 1)) ∧ (decode cL_law 434 = .ok (.iaload, 1)) ∧ (decode cL_law 435 = .ok (.aload_n 0, 1)) ∧ (decode cL_law 436 = .ok (.iload_n 3, 1)) ∧ (decode cL_law 437 = .ok (.iconst 2, 1)) := by decide +kernel
theorem dL_law_424 : decode cL_law 424 = .ok (.iaload, 1) := dL_b9.1
theorem dL_law_425 : decode cL_law 425 = .ok (.invokevirtual 32, 3) := dL_b9.2.1
theorem dL_law_428 : decode cL_law 428 = .ok (.pop, 1) := dL_b9.2.2.1
theorem dL_law_429 : decode cL_law 429 = .ok (.aload_n 2, 1) := dL_b9.2.2.2.1
theorem dL_law_430 : decode cL_law 430 = .ok (.aload_n 0, 1) := dL_b9.2.2.2.2.1
theorem dL_law_431 : decode cL_law 431 = .ok (.iload_n 3, 1) := dL_b9.2.2.2.2.2.1
theorem dL_law_432 : decode cL_law 432 = .ok (.iconst 1, 1) := dL_b9.2.2.2.2.2.2.1
theorem dL_law_433 : decode cL_law 433 = .ok (.iadd, 1) := dL_b9.2.2.2.2.2.2.2.1
theorem dL_law_434 : decode cL_law 434 = .ok (.iaload, 1) := dL_b9.2.2.2.2.2.2.2.2.1
theorem dL_law_435 : decode cL_law 435 = .ok (.aload_n 0, 1) := dL_b9.2.2.2.2.2.2.2.2.2.1
theorem dL_law_436 : decode cL_law 436 = .ok (.iload_n 3, 1) := dL_b9.2.2.2.2.2.2.2.2.2.2.1
theorem dL_law_437 : decode cL_law 437 = .ok (.iconst 2, 1) := dL_b9.2.2.2.2.2.2.2.2.2.2.2
theorem dL_b10 : (decode cL_law 438 = .ok (.iadd, 1)) ∧ (decode cL_law 439 = .ok (.iaload, 1)) ∧ (decode cL_law 440 = .ok (.invokevirtual 36, 3)) ∧ (decode cL_law 443 = .ok (.pop, 1)) ∧ (decode cL_law 444 = .ok (.goto 1521, 3)) ∧ (decode cL_law 447 = .ok (.aload_n 1, 1)) ∧ (decode cL_law 448 = .ok (.aload_n 0, 1)) ∧ (decode cL_law 449 = .ok (.iload_n 3, 1)) ∧ (decode cL_law 450 = .ok (.iconst 1, 1)) ∧ (decode cL_law 451 = .ok (.iadd, 1)) ∧ (decode cL_law 452 = .ok (.iaload, 1)) ∧ (decode cL_law 453 = .ok (.aload_n 0, 1)) := by decide +kernel
theorem dL_law_438 : decode cL_law 438 = .ok (.iadd, 1) := dL_b10.1
theorem dL_law_439 : decode cL_law 439 = .ok (.iaload, 1) := dL_b10.2.1
theorem dL_law_440 : decode cL_law 440 = .ok (.invokevirtual 36, 3) := dL_b10.2.2.1
theorem dL_law_443 : decode cL_law 443 = .ok (.pop, 1) := dL_b10.2.2.2.1
theorem dL_law_444 : decode cL_law 444 = .ok (.goto 1521, 3) := dL_b10.2.2.2.2.1
theorem dL_law_447 : decode cL_law 447 = .ok (.aload_n 1, 1) := dL_b10.2.2.2.2.2.1
theorem dL_law_448 : decode cL_law 448 = .ok (.aload_n 0, 1) := dL_b10.2.2.2.2.2.2.1
theorem dL_law_449 : decode cL_law 449 = .ok (.iload_n 3, 1) := dL_b10.2.2.2.2.2.2.2.1
theorem dL_law_450 : decode cL_law 450 = .ok (.iconst 1, 1) := dL_b10.2.2.2.2.2.2.2.2.1
theorem dL_law_451 : decode cL_law 451 = .ok (.iadd, 1) := dL_b10.2.2.2.2.2.2.2.2.2.1
theorem dL_law_452 : decode cL_law 452 = .ok (.iaload, 1) := dL_b10.2.2.2.2.2.2.2.2.2.2.1
theorem dL_law_453 : decode cL_law 453 = .ok (.aload_n 0, 1) := dL_b10.2.2.2.2.2.2.2.2.2.2.2
theorem dL_b11 : (decode cL_law 454 = .ok (.iload_n 3, 1)) ∧ (decode cL_law 455 = .ok (.iconst 2, 1)) ∧ (decode cL_law 456 = .ok (.iadd, 1)) ∧ (decode cL_law 457 = .ok (.iaload, 1)) ∧ (decode cL_law 458 = .ok (.invokevirtual 37, 3)) ∧ (decode cL_law 461 = .ok (.pop, 1)) ∧ (decode cL_law 462 = .ok (.aload_n 2, 1)) ∧ (decode cL_law 463 = .ok (.aload_n 0, 1)) ∧ (decode cL_law 464 = .ok (.iload_n 3, 1)) ∧ (decode cL_law 465 = .ok (.iconst 1, 1)) ∧ (decode cL_law 466 = .ok (.iadd, 1)) ∧ (decode cL_law 467 = .ok (.iaload, 1)) := by decide +kernel
theorem dL_law_454 : decode cL_law 454 = .ok (.iload_n 3, 1) := dL_b11.1
theorem dL_law_455 : decode cL_law 455 = .ok (.iconst 2, 1) := dL_b11.2.1
theorem dL_law_456 : decode cL_law 456 = .ok (.iadd, 1) := dL_b11.2.2.1
theorem dL_law_457 : decode cL_law 457 = .ok (.iaload, 1) := dL_b11.2.2.2.1
theorem dL_law_458 : decode cL_law 458 = .ok (.invokevirtual 37, 3) := dL_b11.2.2.2.2.1
theorem dL_law_461 : decode cL_law 461 = .ok (.pop, 1) := dL_b11.2.2.2.2.2.1
theorem dL_law_462 : decode cL_law 462 = .ok (.aload_n 2, 1) := dL_b11.2.2.2.2.2.2.1
theorem dL_law_463 : decode cL_law 463 = .ok (.aload_n 0, 1) := dL_b11.2.2.2.2.2.2.2.1
theorem dL_law_464 : decode cL_law 464 = .ok (.iload_n 3, 1) := dL_b11.2.2.2.2.2.2.2.2.1
theorem dL_law_465 : decode cL_law 465 = .ok (.iconst 1, 1) := dL_b11.2.2.2.2.2.2.2.2.2.1
theorem dL_law_466 : decode cL_law 466 = .ok (.iadd, 1) := dL_b11.2.2.2.2.2.2.2.2.2.2.1
theorem dL_law_467 : decode cL_law 467 = .ok (.iaload, 1) := dL_b11.2.2.2.2.2.2.2.2.2.2.2
theorem dL_b12 : (decode cL_law 468 = .ok (.aload_n 0, 1)) ∧ (decode cL_law 469 = .ok (.iload_n 3, 1)) ∧ (decode cL_law 470 = .ok (.iconst 2, 1)) ∧ (decode cL_law 471 = .ok (.iadd, 1)) ∧ (decode cL_law 472 = .ok (.iaload, 1)) ∧ (decode cL_law 473 = .ok (.invokevirtual 40, 3)) ∧ (decode cL_law 476 = .ok (.pop, 1)) ∧ (decode cL_law 477 = .ok (.goto 1488, 3)) ∧ (decode cL_law 480 = .ok (.aload_n 1, 1)) ∧ (decode cL_law 481 = .ok (.aload_n 0, 1)) ∧ (decode cL_law 482 = .ok (.iload_n 3, 1)) ∧ (decode cL_law 483 = .ok (.iconst 1, 1)) := by decide +kernel
theorem dL_law_468 : decode cL_law 468 = .ok (.aload_n 0, 1) := dL_b12.1
theorem dL_law_469 : decode cL_law 469 = .ok (.iload_n 3, 1) := dL_b12.2.1
theorem dL_law_470 : decode cL_law 470 = .ok (.iconst 2, 1) := dL_b12.2.2.1
theorem dL_law_471 : decode cL_law 471 = .ok (.iadd, 1) := dL_b12.2.2.2.1
theorem dL_law_472 : decode cL_law 472 = .ok (.iaload, 1) := dL_b12.2.2.2.2.1
theorem dL_law_473 : decode cL_law 473 = .ok (.invokevirtual 40, 3) := dL_b12.2.2.2.2.2.1
theorem dL_law_476 : decode cL_law 476 = .ok (.pop, 1) := dL_b12.2.2.2.2.2.2.1
theorem dL_law_477 : decode cL_law 477 = .ok (.goto 1488, 3) := dL_b12.2.2.2.2.2.2.2.1
theorem dL_law_480 : decode cL_law 480 = .ok (.aload_n 1, 1) := dL_b12.2.2.2.2.2.2.2.2.1
theorem dL_law_481 : decode cL_law 481 = .ok (.aload_n 0, 1) := dL_b12.2.2.2.2.2.2.2.2.2.1
theorem dL_law_482 : decode cL_law 482 = .ok (.iload_n 3, 1) := dL_b12.2.2.2.2.2.2.2.2.2.2.1
theorem dL_law_483 : decode cL_law 483 = .ok (.iconst 1, 1) := dL_b12.2.2.2.2.2.2.2.2.2.2.2
theorem dL_b13 : (decode cL_law 484 = .ok (.iadd, 1)) ∧ (decode cL_law 485 = .ok (.iaload, 1)) ∧ (decode cL_law 486 = .ok (.aload_n 0, 1)) ∧ (decode cL_law 487 = .ok (.iload_n 3, 1)) ∧ (decode cL_law 488 = .ok (.iconst 2, 1)) ∧ (decode cL_law 489 = .ok (.iadd, 1)) ∧ (decode cL_law 490 = .ok (.iaload, 1)) ∧ (decode cL_law 491 = .ok (.invokevirtual 41, 3)) ∧ (decode cL_law 494 = .ok (.pop, 1)) ∧ (decode cL_law 495 = .ok (.aload_n 2, 1)) ∧ (decode cL_law 496 = .ok (.aload_n 0, 1)) ∧ (decode cL_law 497 = .ok (.iload_n 3, 1)) := by decide +kernel
theorem dL_law_484 : decode cL_law 484 = .ok (.iadd, 1) := dL_b13.1
theorem dL_law_485 : decode cL_law 485 = .ok (.iaload, 1) := dL_b13.2.1
theorem dL_law_486 : decode cL_law 486 = .ok (.aload_n 0, 1) := dL_b13.2.2.1
theorem dL_law_487 : decode cL_law 487 = .ok (.iload_n 3, 1) := dL_b13.2.2.2.1
theorem dL_law_488 : decode cL_law 488 = .ok (.iconst 2, 1) := dL_b13.2.2.2.2.1
theorem dL_law_489 : decode cL_law 489 = .ok (.iadd, 1) := dL_b13.2.2.2.2.2.1
theorem dL_law_490 : decode cL_law 490 = .ok (.iaload, 1) := dL_b13.2.2.2.2.2.2.1
theorem dL_law_491 : decode cL_law 491 = .ok (.invokevirtual 41, 3) := dL_b13.2.2.2.2.2.2.2.1
theorem dL_law_494 : decode cL_law 494 = .ok (.pop, 1) := dL_b13.2.2.2.2.2.2.2.2.1
theorem dL_law_495 : decode cL_law 495 = .ok (.aload_n 2, 1) := dL_b13.2.2.2.2.2.2.2.2.2.1
theorem dL_law_496 : decode cL_law 496 = .ok (.aload_n 0, 1) := dL_b13.2.2.2.2.2.2.2.2.2.2.1
theorem dL_law_497 : decode cL_law 497 = .ok (.iload_n 3, 1) := dL_b13.2.2.2.2.2.2.2.2.2.2.2
theorem dL_b14 : (decode cL_law 498 = .ok (.iconst 1, 1)) ∧ (decode cL_law 499 = .ok (.iadd, 1)) ∧ (decode cL_law 500 = .ok (.iaload, 1)) ∧ (decode cL_law 501 = .ok (.aload_n 0, 1)) ∧ (decode cL_law 502 = .ok (.iload_n 3, 1)) ∧ (decode cL_law 503 = .ok (.iconst 2, 1)) ∧ (decode cL_law 504 = .ok (.iadd, 1)) ∧ (decode cL_law 505 = .ok (.iaload, 1)) ∧ (decode cL_law 506 = .ok (.invokevirtual 44, 3)) ∧ (decode cL_law 509 = .ok (.pop, 1)) ∧ (decode cL_law 510 = .ok (.goto 1455, 3)) ∧ (decode cL_law 513 = .ok (.aload_n 1, 1)) := by decide +kernel
theorem dL_law_498 : decode cL_law 498 = .ok (.iconst 1, 1) := dL_b14.1
theorem dL_law_499 : decode cL_law 499 = .ok (.iadd, 1) := dL_b14.2.1
theorem dL_law_500 : decode cL_law 500 = .ok (.iaload, 1) := dL_b14.2.2.1
theorem dL_law_501 : decode cL_law 501 = .ok (.aload_n 0, 1) := dL_b14.2.2.2.1
theorem dL_law_502 : decode cL_law 502 = .ok (.iload_n 3, 1) := dL_b14.2.2.2.2.1
theorem dL_law_503 : decode cL_law 503 = .ok (.iconst 2, 1) := dL_b14.2.2.2.2.2.1
theorem dL_law_504 : decode cL_law 504 = .ok (.iadd, 1) := dL_b14.2.2.2.2.2.2.1
theorem dL_law_505 : decode cL_law 505 = .ok (.iaload, 1) := dL_b14.2.2.2.2.2.2.2.1
theorem dL_law_506 : decode cL_law 506 = .ok (.invokevirtual 44, 3) := dL_b14.2.2.2.2.2.2.2.2.1
theorem dL_law_509 : decode cL_law 509 = .ok (.pop, 1) := dL_b14.2.2.2.2.2.2.2.2.2.1
theorem dL_law_510 : decode cL_law 510 = .ok (.goto 1455, 3) := dL_b14.2.2.2.2.2.2.2.2.2.2.1
theorem dL_law_513 : decode cL_law 513 = .ok (.aload_n 1, 1) := dL_b14.2.2.2.2.2.2.2.2.2.2.2
theorem dL_b15 : (decode cL_law 514 = .ok (.aload_n 0, 1)) ∧ (decode cL_law 515 = .ok (.iload_n 3, 1)) ∧ (decode cL_law 516 = .ok (.iconst 1, 1)) ∧ (decode cL_law 517 = .ok (.iadd, 1)) ∧ (decode cL_law 518 = .ok (.iaload, 1)) ∧ (decode cL_law 519 = .ok (.aload_n 0, 1)) ∧ (decode cL_law 520 = .ok (.iload_n 3, 1)) ∧ (decode cL_law 521 = .ok (.iconst 2, 1)) ∧ (decode cL_law 522 = .ok (.iadd, 1)) ∧ (decode cL_law 523 = .ok (.iaload, 1)) ∧ (decode cL_law 524 = .ok (.invokevirtual 45, 3)) ∧ (decode cL_law 527 = .ok (.pop, 1)) := by decide +kernel
theorem dL_law_514 : decode cL_law 514 = .ok (.aload_n 0, 1) := dL_b15.1
theorem dL_law_515 : decode cL_law 515 = .ok (.iload_n 3, 1) := dL_b15.2.1
theorem dL_law_516 : decode cL_law 516 = .ok (.iconst 1, 1) := dL_b15.2.2.1
theorem dL_law_517 : decode cL_law 517 = .ok (.iadd, 1) := dL_b15.2.2.2.1
theorem dL_law_518 : decode cL_law 518 = .ok (.iaload, 1) := dL_b15.2.2.2.2.1
theorem dL_law_519 : decode cL_law 519 = .ok (.aload_n 0, 1) := dL_b15.2.2.2.2.2.1
theorem dL_law_520 : decode cL_law 520 = .ok (.iload_n 3, 1) := dL_b15.2.2.2.2.2.2.1
theorem dL_law_521 : decode cL_law 521 = .ok (.iconst 2, 1) := dL_b15.2.2.2.2.2.2.2.1
theorem dL_law_522 : decode cL_law 522 = .ok (.iadd, 1) := dL_b15.2.2.2.2.2.2.2.2.1
theorem dL_law_523 : decode cL_law 523 = .ok (.iaload, 1) := dL_b15.2.2.2.2.2.2.2.2.2.1
theorem dL_law_524 : decode cL_law 524 = .ok (.invokevirtual 45, 3) := dL_b15.2.2.2.2.2.2.2.2.2.2.1
theorem dL_law_527 : decode cL_law 527 = .ok (.pop, 1) := dL_b15.2.2.2.2.2.2.2.2.2.2.2
theorem dL_b16 : (decode cL_law 528 = .ok (.aload_n 2, 1)) ∧ (decode cL_law 529 = .ok (.aload_n 0, 1)) ∧ (decode cL_law 530 = .ok (.iload_n 3, 1)) ∧ (decode cL_law 531 = .ok (.iconst 1, 1)) ∧ (decode cL_law 532 = .ok (.iadd, 1)) ∧ (decode cL_law 533 = .ok (.iaload, 1)) ∧ (decode cL_law 534 = .ok (.aload_n 0, 1)) ∧ (decode cL_law 535 = .ok (.iload_n 3, 1)) ∧ (decode cL_law 536 = .ok (.iconst 2, 1)) ∧ (decode cL_law 537 = .ok (.iadd, 1)) ∧ (decode cL_law 538 = .ok (.iaload, 1)) ∧ (decode cL_law 539 = .ok (.invokevirtual 48, 3)) := by decide +kernel
theorem dL_law_528 : decode cL_law 528 = .ok (.aload_n 2, 1) := dL_b16.1
theorem dL_law_529 : decode cL_law 529 = .ok (.aload_n 0, 1) := dL_b16.2.1
theorem dL_law_530 : decode cL_law 530 = .ok (.iload_n 3, 1) := dL_b16.2.2.1
theorem dL_law_531 : decode cL_law 531 = .ok (.iconst 1, 1) := dL_b16.2.2.2.1
theorem dL_law_532 : decode cL_law 532 = .ok (.iadd, 1) := dL_b16.2.2.2.2.1
theorem dL_law_533 : decode cL_law 533 = .ok (.iaload, 1) := dL_b16.2.2.2.2.2.1
theorem dL_law_534 : decode cL_law 534 = .ok (.aload_n 0, 1) := dL_b16.2.2.2.2.2.2.1
theorem dL_law_535 : decode cL_law 535 = .ok (.iload_n 3, 1) := dL_b16.2.2.2.2.2.2.2.1
theorem dL_law_536 : decode cL_law 536 = .ok (.iconst 2, 1) := dL_b16.2.2.2.2.2.2.2.2.1
theorem dL_law_537 : decode cL_law 537 = .ok (.iadd, 1) := dL_b16.2.2.2.2.2.2.2.2.2.1
theorem dL_law_538 : decode cL_law 538 = .ok (.iaload, 1) := dL_b16.2.2.2.2.2.2.2.2.2.2.1
theorem dL_law_539 : decode cL_law 539 = .ok (.invokevirtual 48, 3) := dL_b16.2.2.2.2.2.2.2.2.2.2.2
theorem dL_b17 : (decode cL_law 542 = .ok (.pop, 1)) ∧ (decode cL_law 543 = .ok (.goto 1422, 3)) ∧ (decode cL_law 546 = .ok (.aload_n 1, 1)) ∧ (decode cL_law 547 = .ok (.aload_n 0, 1)) ∧ (decode cL_law 548 = .ok (.iload_n 3, 1)) ∧ (decode cL_law 549 = .ok (.iconst 1, 1)) ∧ (decode cL_law 550 = .ok (.iadd, 1)) ∧ (decode cL_law 551 = .ok (.iaload, 1)) ∧ (decode cL_law 552 = .ok (.invokevirtual 49, 3)) ∧ (decode cL_law 555 = .ok (.pop, 1)) ∧ (decode cL_law 556 = .ok (.aload_n 2, 1)) ∧ (decode cL_law 557 = .ok (.aload_n 0, 1)) := by decide +kernel
theorem dL_law_542 : decode cL_law 542 = .ok (.pop, 1) := dL_b17.1
theorem dL_law_543 : decode cL_law 543 = .ok (.goto 1422, 3) := dL_b17.2.1
theorem dL_law_546 : decode cL_law 546 = .ok (.aload_n 1, 1) := dL_b17.2.2.1
theorem dL_law_547 : decode cL_law 547 = .ok (.aload_n 0, 1) := dL_b17.2.2.2.1
theorem dL_law_548 : decode cL_law 548 = .ok (.iload_n 3, 1) := dL_b17.2.2.2.2.1
theorem dL_law_549 : decode cL_law 549 = .ok (.iconst 1, 1) := dL_b17.2.2.2.2.2.1
theorem dL_law_550 : decode cL_law 550 = .ok (.iadd, 1) := dL_b17.2.2.2.2.2.2.1
theorem dL_law_551 : decode cL_law 551 = .ok (.iaload, 1) := dL_b17.2.2.2.2.2.2.2.1
theorem dL_law_552 : decode cL_law 552 = .ok (.invokevirtual 49, 3) := dL_b17.2.2.2.2.2.2.2.2.1
theorem dL_law_555 : decode cL_law 555 = .ok (.pop, 1) := dL_b17.2.2.2.2.2.2.2.2.2.1
theorem dL_law_556 : decode cL_law 556 = .ok (.aload_n 2, 1) := dL_b17.2.2.2.2.2.2.2.2.2.2.1
theorem dL_law_557 : decode cL_law 557 = .ok (.aload_n 0, 1) := dL_b17.2.2.2.2.2.2.2.2.2.2.2
theorem dL_b18 : (decode cL_law 558 = .ok (.iload_n 3, 1)) ∧ (decode cL_law 559 = .ok (.iconst 1, 1)) ∧ (decode cL_law 560 = .ok (.iadd, 1)) ∧ (decode cL_law 561 = .ok (.iaload, 1)) ∧ (decode cL_law 562 = .ok (.invokevirtual 52, 3)) ∧ (decode cL_law 565 = .ok (.pop, 1)) ∧ (decode cL_law 566 = .ok (.goto 1399, 3)) ∧ (decode cL_law 569 = .ok (.aload_n 1, 1)) ∧ (decode cL_law 570 = .ok (.aload_n 0, 1)) ∧ (decode cL_law 571 = .ok (.iload_n 3, 1)) ∧ (decode cL_law 572 = .ok (.iconst 1, 1)) ∧ (decode cL_law 573 = .ok (.iadd, 1)) := by decide +kernel
theorem dL_law_558 : decode cL_law 558 = .ok (.iload_n 3, 1) := dL_b18.1
theorem dL_law_559 : decode cL_law 559 = .ok (.iconst 1, 1) := dL_b18.2.1
theorem dL_law_560 : decode cL_law 560 = .ok (.iadd, 1) := dL_b18.2.2.1
theorem dL_law_561 : decode cL_law 561 = .ok (.iaload, 1) := dL_b18.2.2.2.1
theorem dL_law_562 : decode cL_law 562 = .ok (.invokevirtual 52, 3) := dL_b18.2.2.2.2.1
theorem dL_law_565 : decode cL_law 565 = .ok (.pop, 1) := dL_b18.2.2.2.2.2.1
theorem dL_law_566 : decode cL_law 566 = .ok (.goto 1399, 3) := dL_b18.2.2.2.2.2.2.1
theorem dL_law_569 : decode cL_law 569 = .ok (.aload_n 1, 1) := dL_b18.2.2.2.2.2.2.2.1
theorem dL_law_570 : decode cL_law 570 = .ok (.aload_n 0, 1) := dL_b18.2.2.2.2.2.2.2.2.1
theorem dL_law_571 : decode cL_law 571 = .ok (.iload_n 3, 1) := dL_b18.2.2.2.2.2.2.2.2.2.1
theorem dL_law_572 : decode cL_law 572 = .ok (.iconst 1, 1) := dL_b18.2.2.2.2.2.2.2.2.2.2.1
theorem dL_law_573 : decode cL_law 573 = .ok (.iadd, 1) := dL_b18.2.2.2.2.2.2.2.2.2.2.2
theorem dL_b19 : (decode cL_law 574 = .ok (.iaload, 1)) ∧ (decode cL_law 575 = .ok (.invokevirtual 53, 3)) ∧ (decode cL_law 578 = .ok (.pop, 1)) ∧ (decode cL_law 579 = .ok (.aload_n 2, 1)) ∧ (decode cL_law 580 = .ok (.aload_n 0, 1)) ∧ (decode cL_law 581 = .ok (.iload_n 3, 1)) ∧ (decode cL_law 582 = .ok (.iconst 1, 1)) ∧ (decode cL_law 583 = .ok (.iadd, 1)) ∧ (decode cL_law 584 = .ok (.iaload, 1)) ∧ (decode cL_law 585 = .ok (.invokevirtual 56, 3)) ∧ (decode cL_law 588 = .ok (.pop, 1)) ∧ (decode cL_law 589 = .ok (.goto 1376, 3)) := by decide +kernel
theorem dL_law_574 : decode cL_law 574 = .ok (.iaload, 1) := dL_b19.1
theorem dL_law_575 : decode cL_law 575 = .ok (.invokevirtual 53, 3) := dL_b19.2.1
theorem dL_law_578 : decode cL_law 578 = .ok (.pop, 1) := dL_b19.2.2.1
theorem dL_law_579 : decode cL_law 579 = .ok (.aload_n 2, 1) := dL_b19.2.2.2.1
theorem dL_law_580 : decode cL_law 580 = .ok (.aload_n 0, 1) := dL_b19.2.2.2.2.1
theorem dL_law_581 : decode cL_law 581 = .ok (.iload_n 3, 1) := dL_b19.2.2.2.2.2.1
theorem dL_law_582 : decode cL_law 582 = .ok (.iconst 1, 1) := dL_b19.2.2.2.2.2.2.1
theorem dL_law_583 : decode cL_law 583 = .ok (.iadd, 1) := dL_b19.2.2.2.2.2.2.2.1
theorem dL_law_584 : decode cL_law 584 = .ok (.iaload, 1) := dL_b19.2.2.2.2.2.2.2.2.1
theorem dL_law_585 : decode cL_law 585 = .ok (.invokevirtual 56, 3) := dL_b19.2.2.2.2.2.2.2.2.2.1
theorem dL_law_588 : decode cL_law 588 = .ok (.pop, 1) := dL_b19.2.2.2.2.2.2.2.2.2.2.1
theorem dL_law_589 : decode cL_law 589 = .ok (.goto 1376, 3) := dL_b19.2.2.2.2.2.2.2.2.2.2.2
theorem dL_b20 : (decode cL_law 592 = .ok (.aload_n 1, 1)) ∧ (decode cL_law 593 = .ok (.aload_n 0, 1)) ∧ (decode cL_law 594 = .ok (.iload_n 3, 1)) ∧ (decode cL_law 595 = .ok (.iconst 1, 1)) ∧ (decode cL_law 596 = .ok (.iadd, 1)) ∧ (decode cL_law 597 = .ok (.iaload, 1)) ∧ (decode cL_law 598 = .ok (.aload_n 0, 1)) ∧ (decode cL_law 599 = .ok (.iload_n 3, 1)) ∧ (decode cL_law 600 = .ok (.iconst 2, 1)) ∧ (decode cL_law 601 = .ok (.iadd, 1)) ∧ (decode cL_law 602 = .ok (.iaload, 1)) ∧ (decode cL_law 603 = .ok (.aload_n 0, 1)) := by decide +kernel
theorem dL_law_592 : decode cL_law 592 = .ok (.aload_n 1, 1) := dL_b20.1
theorem dL_law_593 : decode cL_law 593 = .ok (.aload_n 0, 1) := dL_b20.2.1
theorem dL_law_594 : decode cL_law 594 = .ok (.iload_n 3, 1) := dL_b20.2.2.1
theorem dL_law_595 : decode cL_law 595 = .ok (.iconst 1, 1) := dL_b20.2.2.2.1
theorem dL_law_596 : decode cL_law 596 = .ok (.iadd, 1) := dL_b20.2.2.2.2.1
theorem dL_law_597 : decode cL_law 597 = .ok (.iaload, 1) := dL_b20.2.2.2.2.2.1
theorem dL_law_598 : decode cL_law 598 = .ok (.aload_n 0, 1) := dL_b20.2.2.2.2.2.2.1
theorem dL_law_599 : decode cL_law 599 = .ok (.iload_n 3, 1) := dL_b20.2.2.2.2.2.2.2.1
theorem dL_law_600 : decode cL_law 600 = .ok (.iconst 2, 1) := dL_b20.2.2.2.2.2.2.2.2.1
theorem dL_law_601 : decode cL_law 601 = .ok (.iadd, 1) := dL_b20.2.2.2.2.2.2.2.2.2.1
theorem dL_law_602 : decode cL_law 602 = .ok (.iaload, 1) := dL_b20.2.2.2.2.2.2.2.2.2.2.1
theorem dL_law_603 : decode cL_law 603 = .ok (.aload_n 0, 1) := dL_b20.2.2.2.2.2.2.2.2.2.2.2
theorem dL_b21 : (decode cL_law 604 = .ok (.iload_n 3, 1)) ∧ (decode cL_law 605 = .ok (.iconst 3, 1)) ∧ (decode cL_law 606 = .ok (.iadd, 1)) ∧ (decode cL_law 607 = .ok (.iaload, 1)) ∧ (decode cL_law 608 = .ok (.invokevirtual 57, 3)) ∧ (decode cL_law 611 = .ok (.pop, 1)) ∧ (decode cL_law 612 = .ok (.aload_n 2, 1)) ∧ (decode cL_law 613 = .ok (.aload_n 0, 1)) ∧ (decode cL_law 614 = .ok (.iload_n 3, 1)) ∧ (decode cL_law 615 = .ok (.iconst 1, 1)) ∧ (decode cL_law 616 = .ok (.iadd, 1)) ∧ (decode cL_law 617 = .ok (.iaload, 1)) := by decide +kernel
theorem dL_law_604 : decode cL_law 604 = .ok (.iload_n 3, 1) := dL_b21.1
theorem dL_law_605 : decode cL_law 605 = .ok (.iconst 3, 1) := dL_b21.2.1
theorem dL_law_606 : decode cL_law 606 = .ok (.iadd, 1) := dL_b21.2.2.1
theorem dL_law_607 : decode cL_law 607 = .ok (.iaload, 1) := dL_b21.2.2.2.1
theorem dL_law_608 : decode cL_law 608 = .ok (.invokevirtual 57, 3) := dL_b21.2.2.2.2.1
theorem dL_law_611 : decode cL_law 611 = .ok (.pop, 1) := dL_b21.2.2.2.2.2.1
theorem dL_law_612 : decode cL_law 612 = .ok (.aload_n 2, 1) := dL_b21.2.2.2.2.2.2.1
theorem dL_law_613 : decode cL_law 613 = .ok (.aload_n 0, 1) := dL_b21.2.2.2.2.2.2.2.1
theorem dL_law_614 : decode cL_law 614 = .ok (.iload_n 3, 1) := dL_b21.2.2.2.2.2.2.2.2.1
theorem dL_law_615 : decode cL_law 615 = .ok (.iconst 1, 1) := dL_b21.2.2.2.2.2.2.2.2.2.1
theorem dL_law_616 : decode cL_law 616 = .ok (.iadd, 1) := dL_b21.2.2.2.2.2.2.2.2.2.2.1
theorem dL_law_617 : decode cL_law 617 = .ok (.iaload, 1) := dL_b21.2.2.2.2.2.2.2.2.2.2.2
theorem dL_b22 : (decode cL_law 618 = .ok (.aload_n 0, 1)) ∧ (decode cL_law 619 = .ok (.iload_n 3, 1)) ∧ (decode cL_law 620 = .ok (.iconst 2, 1)) ∧ (decode cL_law 621 = .ok (.iadd, 1)) ∧ (decode cL_law 622 = .ok (.iaload, 1)) ∧ (decode cL_law 623 = .ok (.aload_n 0, 1)) ∧ (decode cL_law 624 = .ok (.iload_n 3, 1)) ∧ (decode cL_law 625 = .ok (.iconst 3, 1)) ∧ (decode cL_law 626 = .ok (.iadd, 1)) ∧ (decode cL_law 627 = .ok (.iaload, 1)) ∧ (decode cL_law 628 = .ok (.invokevirtual 61, 3)) ∧ (decode cL_law 631 = .ok (.pop, 1)) := by decide +kernel
theorem dL_law_618 : decode cL_law 618 = .ok (.aload_n 0, 1) := dL_b22.1
theorem dL_law_619 : decode cL_law 619 = .ok (.iload_n 3, 1) := dL_b22.2.1
theorem dL_law_620 : decode cL_law 620 = .ok (.iconst 2, 1) := dL_b22.2.2.1
theorem dL_law_621 : decode cL_law 621 = .ok (.iadd, 1) := dL_b22.2.2.2.1
theorem dL_law_622 : decode cL_law 622 = .ok (.iaload, 1) := dL_b22.2.2.2.2.1
theorem dL_law_623 : decode cL_law 623 = .ok (.aload_n 0, 1) := dL_b22.2.2.2.2.2.1
theorem dL_law_624 : decode cL_law 624 = .ok (.iload_n 3, 1) := dL_b22.2.2.2.2.2.2.1
theorem dL_law_625 : decode cL_law 625 = .ok (.iconst 3, 1) := dL_b22.2.2.2.2.2.2.2.1
theorem dL_law_626 : decode cL_law 626 = .ok (.iadd, 1) := dL_b22.2.2.2.2.2.2.2.2.1
theorem dL_law_627 : decode cL_law 627 = .ok (.iaload, 1) := dL_b22.2.2.2.2.2.2.2.2.2.1
theorem dL_law_628 : decode cL_law 628 = .ok (.invokevirtual 61, 3) := dL_b22.2.2.2.2.2.2.2.2.2.2.1
theorem dL_law_631 : decode cL_law 631 = .ok (.pop, 1) := dL_b22.2.2.2.2.2.2.2.2.2.2.2
theorem dL_b23 : (decode cL_law 632 = .ok (.goto 1333, 3)) ∧ (decode cL_law 635 = .ok (.aload_n 1, 1)) ∧ (decode cL_law 636 = .ok (.aload_n 0, 1)) ∧ (decode cL_law 637 = .ok (.iload_n 3, 1)) ∧ (decode cL_law 638 = .ok (.iconst 1, 1)) ∧ (decode cL_law 639 = .ok (.iadd, 1)) ∧ (decode cL_law 640 = .ok (.iaload, 1)) ∧ (decode cL_law 641 = .ok (.aload_n 0, 1)) ∧ (decode cL_law 642 = .ok (.iload_n 3, 1)) ∧ (decode cL_law 643 = .ok (.iconst 2, 1)) ∧ (decode cL_law 644 = .ok (.iadd, 1)) ∧ (decode cL_law 645 = .ok (.iaload, 1)) := by decide +kernel
theorem dL_law_632 : decode cL_law 632 = .ok (.goto 1333, 3) := dL_b23.1
theorem dL_law_635 : decode cL_law 635 = .ok (.aload_n 1, 1) := dL_b23.2.1
theorem dL_law_636 : decode cL_law 636 = .ok (.aload_n 0, 1) := dL_b23.2.2.1
theorem dL_law_637 : decode cL_law 637 = .ok (.iload_n 3, 1) := dL_b23.2.2.2.1
theorem dL_law_638 : decode cL_law 638 = .ok (.iconst 1, 1) := dL_b23.2.2.2.2.1
theorem dL_law_639 : decode cL_law 639 = .ok (.iadd, 1) := dL_b23.2.2.2.2.2.1
theorem dL_law_640 : decode cL_law 640 = .ok (.iaload, 1) := dL_b23.2.2.2.2.2.2.1
theorem dL_law_641 : decode cL_law 641 = .ok (.aload_n 0, 1) := dL_b23.2.2.2.2.2.2.2.1
theorem dL_law_642 : decode cL_law 642 = .ok (.iload_n 3, 1) := dL_b23.2.2.2.2.2.2.2.2.1
theorem dL_law_643 : decode cL_law 643 = .ok (.iconst 2, 1) := dL_b23.2.2.2.2.2.2.2.2.2.1
theorem dL_law_644 : decode cL_law 644 = .ok (.iadd, 1) := dL_b23.2.2.2.2.2.2.2.2.2.2.1
theorem dL_law_645 : decode cL_law 645 = .ok (.iaload, 1) := dL_b23.2.2.2.2.2.2.2.2.2.2.2
theorem dL_b24 : (decode cL_law 646 = .ok (.invokevirtual 62, 3)) ∧ (decode cL_law 649 = .ok (.pop, 1)) ∧ (decode cL_law 650 = .ok (.aload_n 2, 1)) ∧ (decode cL_law 651 = .ok (.aload_n 0, 1)) ∧ (decode cL_law 652 = .ok (.iload_n 3, 1)) ∧ (decode cL_law 653 = .ok (.iconst 1, 1)) ∧ (decode cL_law 654 = .ok (.iadd, 1)) ∧ (decode cL_law 655 = .ok (.iaload, 1)) ∧ (decode cL_law 656 = .ok (.aload_n 0, 1)) ∧ (decode cL_law 657 = .ok (.iload_n 3, 1)) ∧ (decode cL_law 658 = .ok (.iconst 2, 1)) ∧ (decode cL_law 659 = .ok (.iadd, 1)) := by decide +kernel
theorem dL_law_646 : decode cL_law 646 = .ok (.invokevirtual 62, 3) := dL_b24.1
theorem dL_law_649 : decode cL_law 649 = .ok (.pop, 1) := dL_b24.2.1
theorem dL_law_650 : decode cL_law 650 = .ok (.aload_n 2, 1) := dL_b24.2.2.1
theorem dL_law_651 : decode cL_law 651 = .ok (.aload_n 0, 1) := dL_b24.2.2.2.1
theorem dL_law_652 : decode cL_law 652 = .ok (.iload_n 3, 1) := dL_b24.2.2.2.2.1
theorem dL_law_653 : decode cL_law 653 = .ok (.iconst 1, 1) := dL_b24.2.2.2.2.2.1
theorem dL_law_654 : decode cL_law 654 = .ok (.iadd, 1) := dL_b24.2.2.2.2.2.2.1
theorem dL_law_655 : decode cL_law 655 = .ok (.iaload, 1) := dL_b24.2.2.2.2.2.2.2.1
theorem dL_law_656 : decode cL_law 656 = .ok (.aload_n 0, 1) := dL_b24.2.2.2.2.2.2.2.2.1
theorem dL_law_657 : decode cL_law 657 = .ok (.iload_n 3, 1) := dL_b24.2.2.2.2.2.2.2.2.2.1
theorem dL_law_658 : decode cL_law 658 = .ok (.iconst 2, 1) := dL_b24.2.2.2.2.2.2.2.2.2.2.1
theorem dL_law_659 : decode cL_law 659 = .ok (.iadd, 1) := dL_b24.2.2.2.2.2.2.2.2.2.2.2
theorem dL_b25 : (decode cL_law 660 = .ok (.iaload, 1)) ∧ (decode cL_law 661 = .ok (.invokevirtual 65, 3)) ∧ (decode cL_law 664 = .ok (.pop, 1)) ∧ (decode cL_law 665 = .ok (.goto 1300, 3)) ∧ (decode cL_law 668 = .ok (.aload_n 1, 1)) ∧ (decode cL_law 669 = .ok (.aload_n 0, 1)) ∧ (decode cL_law 670 = .ok (.iload_n 3, 1)) ∧ (decode cL_law 671 = .ok (.iconst 1, 1)) ∧ (decode cL_law 672 = .ok (.iadd, 1)) ∧ (decode cL_law 673 = .ok (.iaload, 1)) ∧ (decode cL_law 674 = .ok (.invokevirtual 66, 3)) ∧ (decode cL_law 677 = .ok (.pop, 1)) := by decide +kernel
theorem dL_law_660 : decode cL_law 660 = .ok (.iaload, 1) := dL_b25.1
theorem dL_law_661 : decode cL_law 661 = .ok (.invokevirtual 65, 3) := dL_b25.2.1
theorem dL_law_664 : decode cL_law 664 = .ok (.pop, 1) := dL_b25.2.2.1
theorem dL_law_665 : decode cL_law 665 = .ok (.goto 1300, 3) := dL_b25.2.2.2.1
theorem dL_law_668 : decode cL_law 668 = .ok (.aload_n 1, 1) := dL_b25.2.2.2.2.1
theorem dL_law_669 : decode cL_law 669 = .ok (.aload_n 0, 1) := dL_b25.2.2.2.2.2.1
theorem dL_law_670 : decode cL_law 670 = .ok (.iload_n 3, 1) := dL_b25.2.2.2.2.2.2.1
theorem dL_law_671 : decode cL_law 671 = .ok (.iconst 1, 1) := dL_b25.2.2.2.2.2.2.2.1
theorem dL_law_672 : decode cL_law 672 = .ok (.iadd, 1) := dL_b25.2.2.2.2.2.2.2.2.1
theorem dL_law_673 : decode cL_law 673 = .ok (.iaload, 1) := dL_b25.2.2.2.2.2.2.2.2.2.1
theorem dL_law_674 : decode cL_law 674 = .ok (.invokevirtual 66, 3) := dL_b25.2.2.2.2.2.2.2.2.2.2.1
theorem dL_law_677 : decode cL_law 677 = .ok (.pop, 1) := dL_b25.2.2.2.2.2.2.2.2.2.2.2
theorem dL_b26 : (decode cL_law 678 = .ok (.aload_n 2, 1)) ∧ (decode cL_law 679 = .ok (.aload_n 0, 1)) ∧ (decode cL_law 680 = .ok (.iload_n 3, 1)) ∧ (decode cL_law 681 = .ok (.iconst 1, 1)) ∧ (decode cL_law 682 = .ok (.iadd, 1)) ∧ (decode cL_law 683 = .ok (.iaload, 1)) ∧ (decode cL_law 684 = .ok (.invokevirtual 69, 3)) ∧ (decode cL_law 687 = .ok (.pop, 1)) ∧ (decode cL_law 688 = .ok (.goto 1277, 3)) ∧ (decode cL_law 691 = .ok (.aload_n 1, 1)) ∧ (decode cL_law 692 = .ok (.aload_n 0, 1)) ∧ (decode cL_law 693 = .ok (.iload_n 3, 1)) := by decide +kernel
theorem dL_law_678 : decode cL_law 678 = .ok (.aload_n 2, 1) := dL_b26.1
theorem dL_law_679 : decode cL_law 679 = .ok (.aload_n 0, 1) := dL_b26.2.1
theorem dL_law_680 : decode cL_law 680 = .ok (.iload_n 3, 1) := dL_b26.2.2.1
theorem dL_law_681 : decode cL_law 681 = .ok (.iconst 1, 1) := dL_b26.2.2.2.1
theorem dL_law_682 : decode cL_law 682 = .ok (.iadd, 1) := dL_b26.2.2.2.2.1
theorem dL_law_683 : decode cL_law 683 = .ok (.iaload, 1) := dL_b26.2.2.2.2.2.1
theorem dL_law_684 : decode cL_law 684 = .ok (.invokevirtual 69, 3) := dL_b26.2.2.2.2.2.2.1
theorem dL_law_687 : decode cL_law 687 = .ok (.pop, 1) := dL_b26.2.2.2.2.2.2.2.1
theorem dL_law_688 : decode cL_law 688 = .ok (.goto 1277, 3) := dL_b26.2.2.2.2.2.2.2.2.1
theorem dL_law_691 : decode cL_law 691 = .ok (.aload_n 1, 1) := dL_b26.2.2.2.2.2.2.2.2.2.1
theorem dL_law_692 : decode cL_law 692 = .ok (.aload_n 0, 1) := dL_b26.2.2.2.2.2.2.2.2.2.2.1
theorem dL_law_693 : decode cL_law 693 = .ok (.iload_n 3, 1) := dL_b26.2.2.2.2.2.2.2.2.2.2.2
theorem dL_b27 : (decode cL_law 694 = .ok (.iconst 1, 1)) ∧ (decode cL_law 695 = .ok (.iadd, 1)) ∧ (decode cL_law 696 = .ok (.iaload, 1)) ∧ (decode cL_law 697 = .ok (.invokevirtual 70, 3)) ∧ (decode cL_law 700 = .ok (.pop, 1)) ∧ (decode cL_law 701 = .ok (.aload_n 2, 1)) ∧ (decode cL_law 702 = .ok (.aload_n 0, 1)) ∧ (decode cL_law 703 = .ok (.iload_n 3, 1)) ∧ (decode cL_law 704 = .ok (.iconst 1, 1)) ∧ (decode cL_law 705 = .ok (.iadd, 1)) ∧ (decode cL_law 706 = .ok (.iaload, 1)) ∧ (decode cL_law 707 = .ok (.invokevirtual 73, 3)) := by decide +kernel
theorem dL_law_694 : decode cL_law 694 = .ok (.iconst 1, 1) := dL_b27.1
theorem dL_law_695 : decode cL_law 695 = .ok (.iadd, 1) := dL_b27.2.1
theorem dL_law_696 : decode cL_law 696 = .ok (.iaload, 1) := dL_b27.2.2.1
theorem dL_law_697 : decode cL_law 697 = .ok (.invokevirtual 70, 3) := dL_b27.2.2.2.1
theorem dL_law_700 : decode cL_law 700 = .ok (.pop, 1) := dL_b27.2.2.2.2.1
theorem dL_law_701 : decode cL_law 701 = .ok (.aload_n 2, 1) := dL_b27.2.2.2.2.2.1
theorem dL_law_702 : decode cL_law 702 = .ok (.aload_n 0, 1) := dL_b27.2.2.2.2.2.2.1
theorem dL_law_703 : decode cL_law 703 = .ok (.iload_n 3, 1) := dL_b27.2.2.2.2.2.2.2.1
theorem dL_law_704 : decode cL_law 704 = .ok (.iconst 1, 1) := dL_b27.2.2.2.2.2.2.2.2.1
theorem dL_law_705 : decode cL_law 705 = .ok (.iadd, 1) := dL_b27.2.2.2.2.2.2.2.2.2.1
theorem dL_law_706 : decode cL_law 706 = .ok (.iaload, 1) := dL_b27.2.2.2.2.2.2.2.2.2.2.1
theorem dL_law_707 : decode cL_law 707 = .ok (.invokevirtual 73, 3) := dL_b27.2.2.2.2.2.2.2.2.2.2.2
theorem dL_b28 : (decode cL_law 710 = .ok (.pop, 1)) ∧ (decode cL_law 711 = .ok (.goto 1254, 3)) ∧ (decode cL_law 714 = .ok (.aload_n 1, 1)) ∧ (decode cL_law 715 = .ok (.aload_n 0, 1)) ∧ (decode cL_law 716 = .ok (.iload_n 3, 1)) ∧ (decode cL_law 717 = .ok (.iconst 1, 1)) ∧ (decode cL_law 718 = .ok (.iadd, 1)) ∧ (decode cL_law 719 = .ok (.iaload, 1)) ∧ (decode cL_law 720 = .ok (.aload_n 0, 1)) ∧ (decode cL_law 721 = .ok (.iload_n 3, 1)) ∧ (decode cL_law 722 = .ok (.iconst 2, 1)) ∧ (decode cL_law 723 = .ok (.iadd, 1)) := by decide +kernel
theorem dL_law_710 : decode cL_law 710 = .ok (.pop, 1) := dL_b28.1
theorem dL_law_711 : decode cL_law 711 = .ok (.goto 1254, 3) := dL_b28.2.1
theorem dL_law_714 : decode cL_law 714 = .ok (.aload_n 1, 1) := dL_b28.2.2.1
theorem dL_law_715 : decode cL_law 715 = .ok (.aload_n 0, 1) := dL_b28.2.2.2.1
theorem dL_law_716 : decode cL_law 716 = .ok (.iload_n 3, 1) := dL_b28.2.2.2.2.1
theorem dL_law_717 : decode cL_law 717 = .ok (.iconst 1, 1) := dL_b28.2.2.2.2.2.1
theorem dL_law_718 : decode cL_law 718 = .ok (.iadd, 1) := dL_b28.2.2.2.2.2.2.1
theorem dL_law_719 : decode cL_law 719 = .ok (.iaload, 1) := dL_b28.2.2.2.2.2.2.2.1
theorem dL_law_720 : decode cL_law 720 = .ok (.aload_n 0, 1) := dL_b28.2.2.2.2.2.2.2.2.1
theorem dL_law_721 : decode cL_law 721 = .ok (.iload_n 3, 1) := dL_b28.2.2.2.2.2.2.2.2.2.1
theorem dL_law_722 : decode cL_law 722 = .ok (.iconst 2, 1) := dL_b28.2.2.2.2.2.2.2.2.2.2.1
theorem dL_law_723 : decode cL_law 723 = .ok (.iadd, 1) := dL_b28.2.2.2.2.2.2.2.2.2.2.2
theorem dL_b29 : (decode cL_law 724 = .ok (.iaload, 1)) ∧ (decode cL_law 725 = .ok (.invokevirtual 74, 3)) ∧ (decode cL_law 728 = .ok (.pop, 1)) ∧ (decode cL_law 729 = .ok (.aload_n 2, 1)) ∧ (decode cL_law 730 = .ok (.aload_n 0, 1)) ∧ (decode cL_law 731 = .ok (.iload_n 3, 1)) ∧ (decode cL_law 732 = .ok (.iconst 1, 1)) ∧ (decode cL_law 733 = .ok (.iadd, 1)) ∧ (decode cL_law 734 = .ok (.iaload, 1)) ∧ (decode cL_law 735 = .ok (.aload_n 0, 1)) ∧ (decode cL_law 736 = .ok (.iload_n 3, 1)) ∧ (decode cL_law 737 = .ok (.iconst 2, 1)) := by decide +kernel
theorem dL_law_724 : decode cL_law 724 = .ok (.iaload, 1) := dL_b29.1
theorem dL_law_725 : decode cL_law 725 = .ok (.invokevirtual 74, 3) := dL_b29.2.1
theorem dL_law_728 : decode cL_law 728 = .ok (.pop, 1) := dL_b29.2.2.1
theorem dL_law_729 : decode cL_law 729 = .ok (.aload_n 2, 1) := dL_b29.2.2.2.1
theorem dL_law_730 : decode cL_law 730 = .ok (.aload_n 0, 1) := dL_b29.2.2.2.2.1
theorem dL_law_731 : decode cL_law 731 = .ok (.iload_n 3, 1) := dL_b29.2.2.2.2.2.1
theorem dL_law_732 : decode cL_law 732 = .ok (.iconst 1, 1) := dL_b29.2.2.2.2.2.2.1
theorem dL_law_733 : decode cL_law 733 = .ok (.iadd, 1) := dL_b29.2.2.2.2.2.2.2.1
theorem dL_law_734 : decode cL_law 734 = .ok (.iaload, 1) := dL_b29.2.2.2.2.2.2.2.2.1
theorem dL_law_735 : decode cL_law 735 = .ok (.aload_n 0, 1) := dL_b29.2.2.2.2.2.2.2.2.2.1
theorem dL_law_736 : decode cL_law 736 = .ok (.iload_n 3, 1) := dL_b29.2.2.2.2.2.2.2.2.2.2.1
theorem dL_law_737 : decode cL_law 737 = .ok (.iconst 2, 1) := dL_b29.2.2.2.2.2.2.2.2.2.2.2
theorem dL_b30 : (decode cL_law 738 = .ok (.iadd, 1)) ∧ (decode cL_law 739 = .ok (.iaload, 1)) ∧ (decode cL_law 740 = .ok (.invokevirtual 77, 3)) ∧ (decode cL_law 743 = .ok (.pop, 1)) ∧ (decode cL_law 744 = .ok (.goto 1221, 3)) ∧ (decode cL_law 747 = .ok (.aload_n 1, 1)) ∧ (decode cL_law 748 = .ok (.invokevirtual 78, 3)) ∧ (decode cL_law 751 = .ok (.pop, 1)) ∧ (decode cL_law 752 = .ok (.aload_n 2, 1)) ∧ (decode cL_law 753 = .ok (.invokevirtual 81, 3)) ∧ (decode cL_law 756 = .ok (.pop, 1)) ∧ (decode cL_law 757 = .ok (.goto 1208, 3)) := by decide +kernel
theorem dL_law_738 : decode cL_law 738 = .ok (.iadd, 1) := dL_b30.1
theorem dL_law_739 : decode cL_law 739 = .ok (.iaload, 1) := dL_b30.2.1
theorem dL_law_740 : decode cL_law 740 = .ok (.invokevirtual 77, 3) := dL_b30.2.2.1
theorem dL_law_743 : decode cL_law 743 = .ok (.pop, 1) := dL_b30.2.2.2.1
theorem dL_law_744 : decode cL_law 744 = .ok (.goto 1221, 3) := dL_b30.2.2.2.2.1
theorem dL_law_747 : decode cL_law 747 = .ok (.aload_n 1, 1) := dL_b30.2.2.2.2.2.1
theorem dL_law_748 : decode cL_law 748 = .ok (.invokevirtual 78, 3) := dL_b30.2.2.2.2.2.2.1
theorem dL_law_751 : decode cL_law 751 = .ok (.pop, 1) := dL_b30.2.2.2.2.2.2.2.1
theorem dL_law_752 : decode cL_law 752 = .ok (.aload_n 2, 1) := dL_b30.2.2.2.2.2.2.2.2.1
theorem dL_law_753 : decode cL_law 753 = .ok (.invokevirtual 81, 3) := dL_b30.2.2.2.2.2.2.2.2.2.1
theorem dL_law_756 : decode cL_law 756 = .ok (.pop, 1) := dL_b30.2.2.2.2.2.2.2.2.2.2.1
theorem dL_law_757 : decode cL_law 757 = .ok (.goto 1208, 3) := dL_b30.2.2.2.2.2.2.2.2.2.2.2
theorem dL_b31 : (decode cL_law 760 = .ok (.aload_n 1, 1)) ∧ (decode cL_law 761 = .ok (.invokevirtual 82, 3)) ∧ (decode cL_law 764 = .ok (.pop, 1)) ∧ (decode cL_law 765 = .ok (.aload_n 2, 1)) ∧ (decode cL_law 766 = .ok (.invokevirtual 85, 3)) ∧ (decode cL_law 769 = .ok (.pop, 1)) ∧ (decode cL_law 770 = .ok (.goto 1195, 3)) ∧ (decode cL_law 773 = .ok (.aload_n 1, 1)) ∧ (decode cL_law 774 = .ok (.invokevirtual 86, 3)) ∧ (decode cL_law 777 = .ok (.pop, 1)) ∧ (decode cL_law 778 = .ok (.aload_n 2, 1)) ∧ (decode cL_law 779 = .ok (.invokevirtual 89, 3)) := by decide +kernel
theorem dL_law_760 : decode cL_law 760 = .ok (.aload_n 1, 1) := dL_b31.1
theorem dL_law_761 : decode cL_law 761 = .ok (.invokevirtual 82, 3) := dL_b31.2.1
theorem dL_law_764 : decode cL_law 764 = .ok (.pop, 1) := dL_b31.2.2.1
theorem dL_law_765 : decode cL_law 765 = .ok (.aload_n 2, 1) := dL_b31.2.2.2.1
theorem dL_law_766 : decode cL_law 766 = .ok (.invokevirtual 85, 3) := dL_b31.2.2.2.2.1
theorem dL_law_769 : decode cL_law 769 = .ok (.pop, 1) := dL_b31.2.2.2.2.2.1
theorem dL_law_770 : decode cL_law 770 = .ok (.goto 1195, 3) := dL_b31.2.2.2.2.2.2.1
theorem dL_law_773 : decode cL_law 773 = .ok (.aload_n 1, 1) := dL_b31.2.2.2.2.2.2.2.1
theorem dL_law_774 : decode cL_law 774 = .ok (.invokevirtual 86, 3) := dL_b31.2.2.2.2.2.2.2.2.1
theorem dL_law_777 : decode cL_law 777 = .ok (.pop, 1) := dL_b31.2.2.2.2.2.2.2.2.2.1
theorem dL_law_778 : decode cL_law 778 = .ok (.aload_n 2, 1) := dL_b31.2.2.2.2.2.2.2.2.2.2.1
theorem dL_law_779 : decode cL_law 779 = .ok (.invokevirtual 89, 3) := dL_b31.2.2.2.2.2.2.2.2.2.2.2
theorem dL_b32 : (decode cL_law 782 = .ok (.pop, 1)) ∧ (decode cL_law 783 = .ok (.goto 1182, 3)) ∧ (decode cL_law 786 = .ok (.aload_n 1, 1)) ∧ (decode cL_law 787 = .ok (.aload_n 0, 1)) ∧ (decode cL_law 788 = .ok (.iload_n 3, 1)) ∧ (decode cL_law 789 = .ok (.iconst 1, 1)) ∧ (decode cL_law 790 = .ok (.iadd, 1)) ∧ (decode cL_law 791 = .ok (.iaload, 1)) ∧ (decode cL_law 792 = .ok (.invokevirtual 90, 3)) ∧ (decode cL_law 795 = .ok (.pop, 1)) ∧ (decode cL_law 796 = .ok (.aload_n 2, 1)) ∧ (decode cL_law 797 = .ok (.aload_n 0, 1)) := by decide +kernel
theorem dL_law_782 : decode cL_law 782 = .ok (.pop, 1) := dL_b32.1
theorem dL_law_783 : decode cL_law 783 = .ok (.goto 1182, 3) := dL_b32.2.1
theorem dL_law_786 : decode cL_law 786 = .ok (.aload_n 1, 1) := dL_b32.2.2.1
theorem dL_law_787 : decode cL_law 787 = .ok (.aload_n 0, 1) := dL_b32.2.2.2.1
theorem dL_law_788 : decode cL_law 788 = .ok (.iload_n 3, 1) := dL_b32.2.2.2.2.1
theorem dL_law_789 : decode cL_law 789 = .ok (.iconst 1, 1) := dL_b32.2.2.2.2.2.1
theorem dL_law_790 : decode cL_law 790 = .ok (.iadd, 1) := dL_b32.2.2.2.2.2.2.1
theorem dL_law_791 : decode cL_law 791 = .ok (.iaload, 1) := dL_b32.2.2.2.2.2.2.2.1
theorem dL_law_792 : decode cL_law 792 = .ok (.invokevirtual 90, 3) := dL_b32.2.2.2.2.2.2.2.2.1
theorem dL_law_795 : decode cL_law 795 = .ok (.pop, 1) := dL_b32.2.2.2.2.2.2.2.2.2.1
theorem dL_law_796 : decode cL_law 796 = .ok (.aload_n 2, 1) := dL_b32.2.2.2.2.2.2.2.2.2.2.1
theorem dL_law_797 : decode cL_law 797 = .ok (.aload_n 0, 1) := dL_b32.2.2.2.2.2.2.2.2.2.2.2
theorem dL_b33 : (decode cL_law 798 = .ok (.iload_n 3, 1)) ∧ (decode cL_law 799 = .ok (.iconst 1, 1)) ∧ (decode cL_law 800 = .ok (.iadd, 1)) ∧ (decode cL_law 801 = .ok (.iaload, 1)) ∧ (decode cL_law 802 = .ok (.invokevirtual 93, 3)) ∧ (decode cL_law 805 = .ok (.pop, 1)) ∧ (decode cL_law 806 = .ok (.goto 1159, 3)) ∧ (decode cL_law 809 = .ok (.aload_n 1, 1)) ∧ (decode cL_law 810 = .ok (.aload_n 0, 1)) ∧ (decode cL_law 811 = .ok (.iload_n 3, 1)) ∧ (decode cL_law 812 = .ok (.iconst 1, 1)) ∧ (decode cL_law 813 = .ok (.iadd, 1)) := by decide +kernel
theorem dL_law_798 : decode cL_law 798 = .ok (.iload_n 3, 1) := dL_b33.1
theorem dL_law_799 : decode cL_law 799 = .ok (.iconst 1, 1) := dL_b33.2.1
theorem dL_law_800 : decode cL_law 800 = .ok (.iadd, 1) := dL_b33.2.2.1
theorem dL_law_801 : decode cL_law 801 = .ok (.iaload, 1) := dL_b33.2.2.2.1
theorem dL_law_802 : decode cL_law 802 = .ok (.invokevirtual 93, 3) := dL_b33.2.2.2.2.1
theorem dL_law_805 : decode cL_law 805 = .ok (.pop, 1) := dL_b33.2.2.2.2.2.1
theorem dL_law_806 : decode cL_law 806 = .ok (.goto 1159, 3) := dL_b33.2.2.2.2.2.2.1
theorem dL_law_809 : decode cL_law 809 = .ok (.aload_n 1, 1) := dL_b33.2.2.2.2.2.2.2.1
theorem dL_law_810 : decode cL_law 810 = .ok (.aload_n 0, 1) := dL_b33.2.2.2.2.2.2.2.2.1
theorem dL_law_811 : decode cL_law 811 = .ok (.iload_n 3, 1) := dL_b33.2.2.2.2.2.2.2.2.2.1
theorem dL_law_812 : decode cL_law 812 = .ok (.iconst 1, 1) := dL_b33.2.2.2.2.2.2.2.2.2.2.1
theorem dL_law_813 : decode cL_law 813 = .ok (.iadd, 1) := dL_b33.2.2.2.2.2.2.2.2.2.2.2
theorem dL_b34 : (decode cL_law 814 = .ok (.iaload, 1)) ∧ (decode cL_law 815 = .ok (.invokevirtual 94, 3)) ∧ (decode cL_law 818 = .ok (.pop, 1)) ∧ (decode cL_law 819 = .ok (.aload_n 2, 1)) ∧ (decode cL_law 820 = .ok (.aload_n 0, 1)) ∧ (decode cL_law 821 = .ok (.iload_n 3, 1)) ∧ (decode cL_law 822 = .ok (.iconst 1, 1)) ∧ (decode cL_law 823 = .ok (.iadd, 1)) ∧ (decode cL_law 824 = .ok (.iaload, 1)) ∧ (decode cL_law 825 = .ok (.invokevirtual 97, 3)) ∧ (decode cL_law 828 = .ok (.pop, 1)) ∧ (decode cL_law 829 = .ok (.goto 1136, 3)) := by decide +kernel
theorem dL_law_814 : decode cL_law 814 = .ok (.iaload, 1) := dL_b34.1
theorem dL_law_815 : decode cL_law 815 = .ok (.invokevirtual 94, 3) := dL_b34.2.1
theorem dL_law_818 : decode cL_law 818 = .ok (.pop, 1) := dL_b34.2.2.1
theorem dL_law_819 : decode cL_law 819 = .ok (.aload_n 2, 1) := dL_b34.2.2.2.1
theorem dL_law_820 : decode cL_law 820 = .ok (.aload_n 0, 1) := dL_b34.2.2.2.2.1
theorem dL_law_821 : decode cL_law 821 = .ok (.iload_n 3, 1) := dL_b34.2.2.2.2.2.1
theorem dL_law_822 : decode cL_law 822 = .ok (.iconst 1, 1) := dL_b34.2.2.2.2.2.2.1
theorem dL_law_823 : decode cL_law 823 = .ok (.iadd, 1) := dL_b34.2.2.2.2.2.2.2.1
theorem dL_law_824 : decode cL_law 824 = .ok (.iaload, 1) := dL_b34.2.2.2.2.2.2.2.2.1
theorem dL_law_825 : decode cL_law 825 = .ok (.invokevirtual 97, 3) := dL_b34.2.2.2.2.2.2.2.2.2.1
theorem dL_law_828 : decode cL_law 828 = .ok (.pop, 1) := dL_b34.2.2.2.2.2.2.2.2.2.2.1
theorem dL_law_829 : decode cL_law 829 = .ok (.goto 1136, 3) := dL_b34.2.2.2.2.2.2.2.2.2.2.2
theorem dL_b35 : (decode cL_law 832 = .ok (.aload_n 1, 1)) ∧ (decode cL_law 833 = .ok (.aload_n 0, 1)) ∧ (decode cL_law 834 = .ok (.iload_n 3, 1)) ∧ (decode cL_law 835 = .ok (.iconst 1, 1)) ∧ (decode cL_law 836 = .ok (.iadd, 1)) ∧ (decode cL_law 837 = .ok (.iaload, 1)) ∧ (decode cL_law 838 = .ok (.aload_n 0, 1)) ∧ (decode cL_law 839 = .ok (.iload_n 3, 1)) ∧ (decode cL_law 840 = .ok (.iconst 2, 1)) ∧ (decode cL_law 841 = .ok (.iadd, 1)) ∧ (decode cL_law 842 = .ok (.iaload, 1)) ∧ (decode cL_law 843 = .ok (.invokevirtual 98, 3)) := by decide +kernel
theorem dL_law_832 : decode cL_law 832 = .ok (.aload_n 1, 1) := dL_b35.1
theorem dL_law_833 : decode cL_law 833 = .ok (.aload_n 0, 1) := dL_b35.2.1
theorem dL_law_834 : decode cL_law 834 = .ok (.iload_n 3, 1) := dL_b35.2.2.1
theorem dL_law_835 : decode cL_law 835 = .ok (.iconst 1, 1) := dL_b35.2.2.2.1
theorem dL_law_836 : decode cL_law 836 = .ok (.iadd, 1) := dL_b35.2.2.2.2.1
theorem dL_law_837 : decode cL_law 837 = .ok (.iaload, 1) := dL_b35.2.2.2.2.2.1
theorem dL_law_838 : decode cL_law 838 = .ok (.aload_n 0, 1) := dL_b35.2.2.2.2.2.2.1
theorem dL_law_839 : decode cL_law 839 = .ok (.iload_n 3, 1) := dL_b35.2.2.2.2.2.2.2.1
theorem dL_law_840 : decode cL_law 840 = .ok (.iconst 2, 1) := dL_b35.2.2.2.2.2.2.2.2.1
theorem dL_law_841 : decode cL_law 841 = .ok (.iadd, 1) := dL_b35.2.2.2.2.2.2.2.2.2.1
theorem dL_law_842 : decode cL_law 842 = .ok (.iaload, 1) := dL_b35.2.2.2.2.2.2.2.2.2.2.1
theorem dL_law_843 : decode cL_law 843 = .ok (.invokevirtual 98, 3) := dL_b35.2.2.2.2.2.2.2.2.2.2.2
theorem dL_b36 : (decode cL_law 846 = .ok (.pop, 1)) ∧ (decode cL_law 847 = .ok (.aload_n 2, 1)) ∧ (decode cL_law 848 = .ok (.aload_n 0, 1)) ∧ (decode cL_law 849 = .ok (.iload_n 3, 1)) ∧ (decode cL_law 850 = .ok (.iconst 1, 1)) ∧ (decode cL_law 851 = .ok (.iadd, 1)) ∧ (decode cL_law 852 = .ok (.iaload, 1)) ∧ (decode cL_law 853 = .ok (.aload_n 0, 1)) ∧ (decode cL_law 854 = .ok (.iload_n 3, 1)) ∧ (decode cL_law 855 = .ok (.iconst 2, 1)) ∧ (decode cL_law 856 = .ok (.iadd, 1)) ∧ (decode cL_law 857 = .ok (.iaload, 1)) := by decide +kernel
theorem dL_law_846 : decode cL_law 846 = .ok (.pop, 1) := dL_b36.1
theorem dL_law_847 : decode cL_law 847 = .ok (.aload_n 2, 1) := dL_b36.2.1
theorem dL_law_848 : decode cL_law 848 = .ok (.aload_n 0, 1) := dL_b36.2.2.1
theorem dL_law_849 : decode cL_law 849 = .ok (.iload_n 3, 1) := dL_b36.2.2.2.1
theorem dL_law_850 : decode cL_law 850 = .ok (.iconst 1, 1) := dL_b36.2.2.2.2.1
theorem dL_law_851 : decode cL_law 851 = .ok (.iadd, 1) := dL_b36.2.2.2.2.2.1
theorem dL_law_852 : decode cL_law 852 = .ok (.iaload, 1) := dL_b36.2.2.2.2.2.2.1
theorem dL_law_853 : decode cL_law 853 = .ok (.aload_n 0, 1) := dL_b36.2.2.2.2.2.2.2.1
theorem dL_law_854 : decode cL_law 854 = .ok (.iload_n 3, 1) := dL_b36.2.2.2.2.2.2.2.2.1
theorem dL_law_855 : decode cL_law 855 = .ok (.iconst 2, 1) := dL_b36.2.2.2.2.2.2.2.2.2.1
theorem dL_law_856 : decode cL_law 856 = .ok (.iadd, 1) := dL_b36.2.2.2.2.2.2.2.2.2.2.1
theorem dL_law_857 : decode cL_law 857 = .ok (.iaload, 1) := dL_b36.2.2.2.2.2.2.2.2.2.2.2

theorem lr_d_L_258 : decode code 258 = .ok (.if_icmp .eq 493, 3) := by decide +kernel
theorem lr_d_L_261 : decode code 261 = .ok (.iconst 0, 1) := by decide +kernel
theorem lr_d_L_262 : decode code 262 = .ok (.ireturn, 1) := by decide +kernel
theorem lr_d_L_263 : decode code 263 = .ok (.aload_n 1, 1) := by decide +kernel
theorem lr_d_L_264 : decode code 264 = .ok (.aload_n 0, 1) := by decide +kernel
theorem lr_d_L_265 : decode code 265 = .ok (.iload_n 3, 1) := by decide +kernel
theorem lr_d_L_266 : decode code 266 = .ok (.iconst 1, 1) := by decide +kernel
theorem lr_d_L_267 : decode code 267 = .ok (.iadd, 1) := by decide +kernel
theorem lr_d_L_268 : decode code 268 = .ok (.iaload, 1) := by decide +kernel
theorem lr_d_L_269 : decode code 269 = .ok (.aload_n 0, 1) := by decide +kernel
theorem lr_d_L_270 : decode code 270 = .ok (.iload_n 3, 1) := by decide +kernel
theorem lr_d_L_271 : decode code 271 = .ok (.iconst 2, 1) := by decide +kernel
theorem lr_d_L_272 : decode code 272 = .ok (.iadd, 1) := by decide +kernel
theorem lr_d_L_273 : decode code 273 = .ok (.iaload, 1) := by decide +kernel
theorem lr_d_L_274 : decode code 274 = .ok (.invokevirtual 27, 3) := by decide +kernel
theorem lr_d_L_277 : decode code 277 = .ok (.aload_n 2, 1) := by decide +kernel
theorem lr_d_L_278 : decode code 278 = .ok (.aload_n 0, 1) := by decide +kernel
theorem lr_d_L_279 : decode code 279 = .ok (.iload_n 3, 1) := by decide +kernel
theorem lr_d_L_280 : decode code 280 = .ok (.iconst 1, 1) := by decide +kernel
theorem lr_d_L_281 : decode code 281 = .ok (.iadd, 1) := by decide +kernel
theorem lr_d_L_282 : decode code 282 = .ok (.iaload, 1) := by decide +kernel
theorem lr_d_L_283 : decode code 283 = .ok (.aload_n 0, 1) := by decide +kernel
theorem lr_d_L_284 : decode code 284 = .ok (.iload_n 3, 1) := by decide +kernel
theorem lr_d_L_285 : decode code 285 = .ok (.iconst 2, 1) := by decide +kernel
theorem lr_d_L_286 : decode code 286 = .ok (.iadd, 1) := by decide +kernel
theorem lr_d_L_287 : decode code 287 = .ok (.iaload, 1) := by decide +kernel
theorem lr_d_L_288 : decode code 288 = .ok (.invokevirtual 31, 3) := by decide +kernel
theorem lr_d_L_291 : decode code 291 = .ok (.if_icmp .eq 460, 3) := by decide +kernel
theorem lr_d_L_294 : decode code 294 = .ok (.iconst 0, 1) := by decide +kernel
theorem lr_d_L_295 : decode code 295 = .ok (.ireturn, 1) := by decide +kernel
theorem lr_d_L_296 : decode code 296 = .ok (.aload_n 1, 1) := by decide +kernel
theorem lr_d_L_297 : decode code 297 = .ok (.aload_n 0, 1) := by decide +kernel
theorem lr_d_L_298 : decode code 298 = .ok (.iload_n 3, 1) := by decide +kernel
theorem lr_d_L_299 : decode code 299 = .ok (.iconst 1, 1) := by decide +kernel
theorem lr_d_L_300 : decode code 300 = .ok (.iadd, 1) := by decide +kernel
theorem lr_d_L_301 : decode code 301 = .ok (.iaload, 1) := by decide +kernel
theorem lr_d_L_302 : decode code 302 = .ok (.aload_n 0, 1) := by decide +kernel
theorem lr_d_L_303 : decode code 303 = .ok (.iload_n 3, 1) := by decide +kernel
theorem lr_d_L_304 : decode code 304 = .ok (.iconst 2, 1) := by decide +kernel
theorem lr_d_L_305 : decode code 305 = .ok (.iadd, 1) := by decide +kernel
theorem lr_d_L_306 : decode code 306 = .ok (.iaload, 1) := by decide +kernel
theorem lr_d_L_307 : decode code 307 = .ok (.aload_n 0, 1) := by decide +kernel
theorem lr_d_L_308 : decode code 308 = .ok (.iload_n 3, 1) := by decide +kernel
theorem lr_d_L_309 : decode code 309 = .ok (.iconst 3, 1) := by decide +kernel
theorem lr_d_L_310 : decode code 310 = .ok (.iadd, 1) := by decide +kernel
theorem lr_d_L_311 : decode code 311 = .ok (.iaload, 1) := by decide +kernel
theorem lr_d_L_312 : decode code 312 = .ok (.aload_n 0, 1) := by decide +kernel
theorem lr_d_L_313 : decode code 313 = .ok (.iload_n 3, 1) := by decide +kernel
theorem lr_d_L_314 : decode code 314 = .ok (.iconst 4, 1) := by decide +kernel
theorem lr_d_L_315 : decode code 315 = .ok (.iadd, 1) := by decide +kernel
theorem lr_d_L_316 : decode code 316 = .ok (.iaload, 1) := by decide +kernel
theorem lr_d_L_317 : decode code 317 = .ok (.invokevirtual 32, 3) := by decide +kernel
theorem lr_d_L_320 : decode code 320 = .ok (.aload_n 2, 1) := by decide +kernel
theorem lr_d_L_321 : decode code 321 = .ok (.aload_n 0, 1) := by decide +kernel
theorem lr_d_L_322 : decode code 322 = .ok (.iload_n 3, 1) := by decide +kernel
theorem lr_d_L_323 : decode code 323 = .ok (.iconst 1, 1) := by decide +kernel
theorem lr_d_L_324 : decode code 324 = .ok (.iadd, 1) := by decide +kernel
theorem lr_d_L_325 : decode code 325 = .ok (.iaload, 1) := by decide +kernel
theorem lr_d_L_326 : decode code 326 = .ok (.aload_n 0, 1) := by decide +kernel
theorem lr_d_L_327 : decode code 327 = .ok (.iload_n 3, 1) := by decide +kernel
theorem lr_d_L_328 : decode code 328 = .ok (.iconst 2, 1) := by decide +kernel
theorem lr_d_L_329 : decode code 329 = .ok (.iadd, 1) := by decide +kernel
theorem lr_d_L_330 : decode code 330 = .ok (.iaload, 1) := by decide +kernel
theorem lr_d_L_331 : decode code 331 = .ok (.aload_n 0, 1) := by decide +kernel
theorem lr_d_L_332 : decode code 332 = .ok (.iload_n 3, 1) := by decide +kernel
theorem lr_d_L_333 : decode code 333 = .ok (.iconst 3, 1) := by decide +kernel
theorem lr_d_L_334 : decode code 334 = .ok (.iadd, 1) := by decide +kernel
theorem lr_d_L_335 : decode code 335 = .ok (.iaload, 1) := by decide +kernel
theorem lr_d_L_336 : decode code 336 = .ok (.aload_n 0, 1) := by decide +kernel
theorem lr_d_L_337 : decode code 337 = .ok (.iload_n 3, 1) := by decide +kernel
theorem lr_d_L_338 : decode code 338 = .ok (.iconst 4, 1) := by decide +kernel
theorem lr_d_L_339 : decode code 339 = .ok (.iadd, 1) := by decide +kernel
theorem lr_d_L_340 : decode code 340 = .ok (.iaload, 1) := by decide +kernel
theorem lr_d_L_341 : decode code 341 = .ok (.invokevirtual 36, 3) := by decide +kernel
theorem lr_d_L_344 : decode code 344 = .ok (.if_icmp .eq 407, 3) := by decide +kernel
theorem lr_d_L_347 : decode code 347 = .ok (.iconst 0, 1) := by decide +kernel
theorem lr_d_L_348 : decode code 348 = .ok (.ireturn, 1) := by decide +kernel
theorem lr_d_L_349 : decode code 349 = .ok (.aload_n 1, 1) := by decide +kernel
theorem lr_d_L_350 : decode code 350 = .ok (.aload_n 0, 1) := by decide +kernel
theorem lr_d_L_351 : decode code 351 = .ok (.iload_n 3, 1) := by decide +kernel
theorem lr_d_L_352 : decode code 352 = .ok (.iconst 1, 1) := by decide +kernel
theorem lr_d_L_353 : decode code 353 = .ok (.iadd, 1) := by decide +kernel
theorem lr_d_L_354 : decode code 354 = .ok (.iaload, 1) := by decide +kernel
theorem lr_d_L_355 : decode code 355 = .ok (.aload_n 0, 1) := by decide +kernel
theorem lr_d_L_356 : decode code 356 = .ok (.iload_n 3, 1) := by decide +kernel
theorem lr_d_L_357 : decode code 357 = .ok (.iconst 2, 1) := by decide +kernel
theorem lr_d_L_358 : decode code 358 = .ok (.iadd, 1) := by decide +kernel
theorem lr_d_L_359 : decode code 359 = .ok (.iaload, 1) := by decide +kernel
theorem lr_d_L_360 : decode code 360 = .ok (.aload_n 0, 1) := by decide +kernel
theorem lr_d_L_361 : decode code 361 = .ok (.iload_n 3, 1) := by decide +kernel
theorem lr_d_L_362 : decode code 362 = .ok (.iconst 3, 1) := by decide +kernel
theorem lr_d_L_363 : decode code 363 = .ok (.iadd, 1) := by decide +kernel
theorem lr_d_L_364 : decode code 364 = .ok (.iaload, 1) := by decide +kernel
theorem lr_d_L_365 : decode code 365 = .ok (.invokevirtual 37, 3) := by decide +kernel
theorem lr_d_L_368 : decode code 368 = .ok (.aload_n 2, 1) := by decide +kernel
theorem lr_d_L_369 : decode code 369 = .ok (.aload_n 0, 1) := by decide +kernel
theorem lr_d_L_370 : decode code 370 = .ok (.iload_n 3, 1) := by decide +kernel
theorem lr_d_L_371 : decode code 371 = .ok (.iconst 1, 1) := by decide +kernel
theorem lr_d_L_372 : decode code 372 = .ok (.iadd, 1) := by decide +kernel
theorem lr_d_L_373 : decode code 373 = .ok (.iaload, 1) := by decide +kernel
theorem lr_d_L_374 : decode code 374 = .ok (.aload_n 0, 1) := by decide +kernel
theorem lr_d_L_375 : decode code 375 = .ok (.iload_n 3, 1) := by decide +kernel
theorem lr_d_L_376 : decode code 376 = .ok (.iconst 2, 1) := by decide +kernel
theorem lr_d_L_377 : decode code 377 = .ok (.iadd, 1) := by decide +kernel
theorem lr_d_L_378 : decode code 378 = .ok (.iaload, 1) := by decide +kernel
theorem lr_d_L_379 : decode code 379 = .ok (.aload_n 0, 1) := by decide +kernel
theorem lr_d_L_380 : decode code 380 = .ok (.iload_n 3, 1) := by decide +kernel
theorem lr_d_L_381 : decode code 381 = .ok (.iconst 3, 1) := by decide +kernel
theorem lr_d_L_382 : decode code 382 = .ok (.iadd, 1) := by decide +kernel
theorem lr_d_L_383 : decode code 383 = .ok (.iaload, 1) := by decide +kernel
theorem lr_d_L_384 : decode code 384 = .ok (.invokevirtual 41, 3) := by decide +kernel
theorem lr_d_L_387 : decode code 387 = .ok (.if_icmp .eq 364, 3) := by decide +kernel
theorem lr_d_L_390 : decode code 390 = .ok (.iconst 0, 1) := by decide +kernel
theorem lr_d_L_391 : decode code 391 = .ok (.ireturn, 1) := by decide +kernel
theorem lr_d_L_392 : decode code 392 = .ok (.aload_n 1, 1) := by decide +kernel
theorem lr_d_L_393 : decode code 393 = .ok (.aload_n 0, 1) := by decide +kernel
theorem lr_d_L_394 : decode code 394 = .ok (.iload_n 3, 1) := by decide +kernel
theorem lr_d_L_395 : decode code 395 = .ok (.iconst 1, 1) := by decide +kernel
theorem lr_d_L_396 : decode code 396 = .ok (.iadd, 1) := by decide +kernel
theorem lr_d_L_397 : decode code 397 = .ok (.iaload, 1) := by decide +kernel
theorem lr_d_L_398 : decode code 398 = .ok (.invokevirtual 42, 3) := by decide +kernel
theorem lr_d_L_401 : decode code 401 = .ok (.aload_n 2, 1) := by decide +kernel
theorem lr_d_L_402 : decode code 402 = .ok (.aload_n 0, 1) := by decide +kernel
theorem lr_d_L_403 : decode code 403 = .ok (.iload_n 3, 1) := by decide +kernel
theorem lr_d_L_404 : decode code 404 = .ok (.iconst 1, 1) := by decide +kernel
theorem lr_d_L_405 : decode code 405 = .ok (.iadd, 1) := by decide +kernel
theorem lr_d_L_406 : decode code 406 = .ok (.iaload, 1) := by decide +kernel
theorem lr_d_L_407 : decode code 407 = .ok (.invokevirtual 46, 3) := by decide +kernel
theorem lr_d_L_410 : decode code 410 = .ok (.if_icmp .eq 341, 3) := by decide +kernel
theorem lr_d_L_413 : decode code 413 = .ok (.iconst 0, 1) := by decide +kernel
theorem lr_d_L_414 : decode code 414 = .ok (.ireturn, 1) := by decide +kernel
theorem lr_d_L_415 : decode code 415 = .ok (.aload_n 1, 1) := by decide +kernel
theorem lr_d_L_416 : decode code 416 = .ok (.aload_n 0, 1) := by decide +kernel
theorem lr_d_L_417 : decode code 417 = .ok (.iload_n 3, 1) := by decide +kernel
theorem lr_d_L_418 : decode code 418 = .ok (.iconst 1, 1) := by decide +kernel
theorem lr_d_L_419 : decode code 419 = .ok (.iadd, 1) := by decide +kernel
theorem lr_d_L_420 : decode code 420 = .ok (.iaload, 1) := by decide +kernel
theorem lr_d_L_421 : decode code 421 = .ok (.invokevirtual 47, 3) := by decide +kernel
theorem lr_d_L_424 : decode code 424 = .ok (.aload_n 2, 1) := by decide +kernel
theorem lr_d_L_425 : decode code 425 = .ok (.aload_n 0, 1) := by decide +kernel

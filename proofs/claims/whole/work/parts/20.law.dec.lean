/-! 295 PlayedTruthLaw.law([I)Z -/
theorem d_295_18 : decode (mth 295).2.1 18 = .ok (.iload_n 3, 1) := by decide +kernel
theorem d_295_19 : decode (mth 295).2.1 19 = .ok (.aload_n 0, 1) := by decide +kernel
theorem d_295_20 : decode (mth 295).2.1 20 = .ok (.arraylength, 1) := by decide +kernel
theorem d_295_21 : decode (mth 295).2.1 21 = .ok (.iconst 5, 1) := by decide +kernel
theorem d_295_22 : decode (mth 295).2.1 22 = .ok (.isub, 1) := by decide +kernel
theorem d_295_23 : decode (mth 295).2.1 23 = .ok (.if_icmp .gt 1718, 3) := by decide +kernel
theorem d_295_26 : decode (mth 295).2.1 26 = .ok (.aload_n 0, 1) := by decide +kernel
theorem d_295_27 : decode (mth 295).2.1 27 = .ok (.iload_n 3, 1) := by decide +kernel
theorem d_295_28 : decode (mth 295).2.1 28 = .ok (.iaload, 1) := by decide +kernel
theorem d_295_29 : decode (mth 295).2.1 29 = .ok (.bipush 63, 2) := by decide +kernel
theorem d_295_31 : decode (mth 295).2.1 31 = .ok (.iand, 1) := by decide +kernel
theorem d_295_32 : decode (mth 295).2.1 32 = .ok (.tableswitch 1703 0 50 #[220, 273, 306, 349, 382, 415, 458, 491, 514, 527, 550, 613, 626, 639, 662, 685, 708, 731, 754, 777, 800, 823, 846, 879, 902, 935, 968, 991, 1014, 1067, 1080, 1103, 1116, 1139, 1152, 1185, 1208, 1241, 1284, 1297, 1340, 1383, 1426, 1469, 1512, 1555, 1588, 1631, 1654, 1677, 1690], 220) := by decide +kernel
theorem d_295_252 : decode (mth 295).2.1 252 = .ok (.aload_n 1, 1) := by decide +kernel
theorem d_295_253 : decode (mth 295).2.1 253 = .ok (.aload_n 0, 1) := by decide +kernel
theorem d_295_254 : decode (mth 295).2.1 254 = .ok (.iload_n 3, 1) := by decide +kernel
theorem d_295_255 : decode (mth 295).2.1 255 = .ok (.iconst 1, 1) := by decide +kernel
theorem d_295_256 : decode (mth 295).2.1 256 = .ok (.iadd, 1) := by decide +kernel
theorem d_295_257 : decode (mth 295).2.1 257 = .ok (.iaload, 1) := by decide +kernel
theorem d_295_258 : decode (mth 295).2.1 258 = .ok (.aload_n 0, 1) := by decide +kernel
theorem d_295_259 : decode (mth 295).2.1 259 = .ok (.iload_n 3, 1) := by decide +kernel
theorem d_295_260 : decode (mth 295).2.1 260 = .ok (.iconst 2, 1) := by decide +kernel
theorem d_295_261 : decode (mth 295).2.1 261 = .ok (.iadd, 1) := by decide +kernel
theorem d_295_262 : decode (mth 295).2.1 262 = .ok (.iaload, 1) := by decide +kernel
theorem d_295_263 : decode (mth 295).2.1 263 = .ok (.aload_n 0, 1) := by decide +kernel
theorem d_295_264 : decode (mth 295).2.1 264 = .ok (.iload_n 3, 1) := by decide +kernel
theorem d_295_265 : decode (mth 295).2.1 265 = .ok (.iconst 3, 1) := by decide +kernel
theorem d_295_266 : decode (mth 295).2.1 266 = .ok (.iadd, 1) := by decide +kernel
theorem d_295_267 : decode (mth 295).2.1 267 = .ok (.iaload, 1) := by decide +kernel
theorem d_295_268 : decode (mth 295).2.1 268 = .ok (.aload_n 0, 1) := by decide +kernel
theorem d_295_269 : decode (mth 295).2.1 269 = .ok (.iload_n 3, 1) := by decide +kernel
theorem d_295_270 : decode (mth 295).2.1 270 = .ok (.iconst 4, 1) := by decide +kernel
theorem d_295_271 : decode (mth 295).2.1 271 = .ok (.iadd, 1) := by decide +kernel
theorem d_295_272 : decode (mth 295).2.1 272 = .ok (.iaload, 1) := by decide +kernel
theorem d_295_273 : decode (mth 295).2.1 273 = .ok (.invokevirtual 13, 3) := by decide +kernel
theorem d_295_276 : decode (mth 295).2.1 276 = .ok (.aload_n 2, 1) := by decide +kernel
theorem d_295_277 : decode (mth 295).2.1 277 = .ok (.aload_n 0, 1) := by decide +kernel
theorem d_295_278 : decode (mth 295).2.1 278 = .ok (.iload_n 3, 1) := by decide +kernel
theorem d_295_279 : decode (mth 295).2.1 279 = .ok (.iconst 1, 1) := by decide +kernel
theorem d_295_280 : decode (mth 295).2.1 280 = .ok (.iadd, 1) := by decide +kernel
theorem d_295_281 : decode (mth 295).2.1 281 = .ok (.iaload, 1) := by decide +kernel
theorem d_295_282 : decode (mth 295).2.1 282 = .ok (.aload_n 0, 1) := by decide +kernel
theorem d_295_283 : decode (mth 295).2.1 283 = .ok (.iload_n 3, 1) := by decide +kernel
theorem d_295_284 : decode (mth 295).2.1 284 = .ok (.iconst 2, 1) := by decide +kernel
theorem d_295_285 : decode (mth 295).2.1 285 = .ok (.iadd, 1) := by decide +kernel
theorem d_295_286 : decode (mth 295).2.1 286 = .ok (.iaload, 1) := by decide +kernel
theorem d_295_287 : decode (mth 295).2.1 287 = .ok (.aload_n 0, 1) := by decide +kernel
theorem d_295_288 : decode (mth 295).2.1 288 = .ok (.iload_n 3, 1) := by decide +kernel
theorem d_295_289 : decode (mth 295).2.1 289 = .ok (.iconst 3, 1) := by decide +kernel
theorem d_295_290 : decode (mth 295).2.1 290 = .ok (.iadd, 1) := by decide +kernel
theorem d_295_291 : decode (mth 295).2.1 291 = .ok (.iaload, 1) := by decide +kernel
theorem d_295_292 : decode (mth 295).2.1 292 = .ok (.aload_n 0, 1) := by decide +kernel
theorem d_295_293 : decode (mth 295).2.1 293 = .ok (.iload_n 3, 1) := by decide +kernel
theorem d_295_294 : decode (mth 295).2.1 294 = .ok (.iconst 4, 1) := by decide +kernel
theorem d_295_295 : decode (mth 295).2.1 295 = .ok (.iadd, 1) := by decide +kernel
theorem d_295_296 : decode (mth 295).2.1 296 = .ok (.iaload, 1) := by decide +kernel
theorem d_295_297 : decode (mth 295).2.1 297 = .ok (.invokevirtual 17, 3) := by decide +kernel
theorem d_295_300 : decode (mth 295).2.1 300 = .ok (.if_icmp .eq 1435, 3) := by decide +kernel
theorem d_295_303 : decode (mth 295).2.1 303 = .ok (.iconst 0, 1) := by decide +kernel
theorem d_295_304 : decode (mth 295).2.1 304 = .ok (.ireturn, 1) := by decide +kernel
theorem d_295_305 : decode (mth 295).2.1 305 = .ok (.aload_n 1, 1) := by decide +kernel
theorem d_295_306 : decode (mth 295).2.1 306 = .ok (.aload_n 0, 1) := by decide +kernel
theorem d_295_307 : decode (mth 295).2.1 307 = .ok (.iload_n 3, 1) := by decide +kernel
theorem d_295_308 : decode (mth 295).2.1 308 = .ok (.iconst 1, 1) := by decide +kernel
theorem d_295_309 : decode (mth 295).2.1 309 = .ok (.iadd, 1) := by decide +kernel
theorem d_295_310 : decode (mth 295).2.1 310 = .ok (.iaload, 1) := by decide +kernel
theorem d_295_311 : decode (mth 295).2.1 311 = .ok (.aload_n 0, 1) := by decide +kernel
theorem d_295_312 : decode (mth 295).2.1 312 = .ok (.iload_n 3, 1) := by decide +kernel
theorem d_295_313 : decode (mth 295).2.1 313 = .ok (.iconst 2, 1) := by decide +kernel
theorem d_295_314 : decode (mth 295).2.1 314 = .ok (.iadd, 1) := by decide +kernel
theorem d_295_315 : decode (mth 295).2.1 315 = .ok (.iaload, 1) := by decide +kernel
theorem d_295_316 : decode (mth 295).2.1 316 = .ok (.invokevirtual 18, 3) := by decide +kernel
theorem d_295_319 : decode (mth 295).2.1 319 = .ok (.aload_n 2, 1) := by decide +kernel
theorem d_295_320 : decode (mth 295).2.1 320 = .ok (.aload_n 0, 1) := by decide +kernel
theorem d_295_321 : decode (mth 295).2.1 321 = .ok (.iload_n 3, 1) := by decide +kernel
theorem d_295_322 : decode (mth 295).2.1 322 = .ok (.iconst 1, 1) := by decide +kernel
theorem d_295_323 : decode (mth 295).2.1 323 = .ok (.iadd, 1) := by decide +kernel
theorem d_295_324 : decode (mth 295).2.1 324 = .ok (.iaload, 1) := by decide +kernel
theorem d_295_325 : decode (mth 295).2.1 325 = .ok (.aload_n 0, 1) := by decide +kernel
theorem d_295_326 : decode (mth 295).2.1 326 = .ok (.iload_n 3, 1) := by decide +kernel
theorem d_295_327 : decode (mth 295).2.1 327 = .ok (.iconst 2, 1) := by decide +kernel
theorem d_295_328 : decode (mth 295).2.1 328 = .ok (.iadd, 1) := by decide +kernel
theorem d_295_329 : decode (mth 295).2.1 329 = .ok (.iaload, 1) := by decide +kernel
theorem d_295_330 : decode (mth 295).2.1 330 = .ok (.invokevirtual 22, 3) := by decide +kernel
theorem d_295_333 : decode (mth 295).2.1 333 = .ok (.if_icmp .eq 1402, 3) := by decide +kernel
theorem d_295_336 : decode (mth 295).2.1 336 = .ok (.iconst 0, 1) := by decide +kernel
theorem d_295_337 : decode (mth 295).2.1 337 = .ok (.ireturn, 1) := by decide +kernel
theorem d_295_338 : decode (mth 295).2.1 338 = .ok (.aload_n 1, 1) := by decide +kernel
theorem d_295_339 : decode (mth 295).2.1 339 = .ok (.aload_n 0, 1) := by decide +kernel
theorem d_295_340 : decode (mth 295).2.1 340 = .ok (.iload_n 3, 1) := by decide +kernel
theorem d_295_341 : decode (mth 295).2.1 341 = .ok (.iconst 1, 1) := by decide +kernel
theorem d_295_342 : decode (mth 295).2.1 342 = .ok (.iadd, 1) := by decide +kernel
theorem d_295_343 : decode (mth 295).2.1 343 = .ok (.iaload, 1) := by decide +kernel
theorem d_295_344 : decode (mth 295).2.1 344 = .ok (.aload_n 0, 1) := by decide +kernel
theorem d_295_345 : decode (mth 295).2.1 345 = .ok (.iload_n 3, 1) := by decide +kernel
theorem d_295_346 : decode (mth 295).2.1 346 = .ok (.iconst 2, 1) := by decide +kernel
theorem d_295_347 : decode (mth 295).2.1 347 = .ok (.iadd, 1) := by decide +kernel
theorem d_295_348 : decode (mth 295).2.1 348 = .ok (.iaload, 1) := by decide +kernel
theorem d_295_349 : decode (mth 295).2.1 349 = .ok (.aload_n 0, 1) := by decide +kernel
theorem d_295_350 : decode (mth 295).2.1 350 = .ok (.iload_n 3, 1) := by decide +kernel
theorem d_295_351 : decode (mth 295).2.1 351 = .ok (.iconst 3, 1) := by decide +kernel
theorem d_295_352 : decode (mth 295).2.1 352 = .ok (.iadd, 1) := by decide +kernel
theorem d_295_353 : decode (mth 295).2.1 353 = .ok (.iaload, 1) := by decide +kernel
theorem d_295_354 : decode (mth 295).2.1 354 = .ok (.invokevirtual 23, 3) := by decide +kernel
theorem d_295_357 : decode (mth 295).2.1 357 = .ok (.aload_n 2, 1) := by decide +kernel
theorem d_295_358 : decode (mth 295).2.1 358 = .ok (.aload_n 0, 1) := by decide +kernel
theorem d_295_359 : decode (mth 295).2.1 359 = .ok (.iload_n 3, 1) := by decide +kernel
theorem d_295_360 : decode (mth 295).2.1 360 = .ok (.iconst 1, 1) := by decide +kernel
theorem d_295_361 : decode (mth 295).2.1 361 = .ok (.iadd, 1) := by decide +kernel
theorem d_295_362 : decode (mth 295).2.1 362 = .ok (.iaload, 1) := by decide +kernel
theorem d_295_363 : decode (mth 295).2.1 363 = .ok (.aload_n 0, 1) := by decide +kernel
theorem d_295_364 : decode (mth 295).2.1 364 = .ok (.iload_n 3, 1) := by decide +kernel
theorem d_295_365 : decode (mth 295).2.1 365 = .ok (.iconst 2, 1) := by decide +kernel
theorem d_295_366 : decode (mth 295).2.1 366 = .ok (.iadd, 1) := by decide +kernel
theorem d_295_367 : decode (mth 295).2.1 367 = .ok (.iaload, 1) := by decide +kernel
theorem d_295_368 : decode (mth 295).2.1 368 = .ok (.aload_n 0, 1) := by decide +kernel
theorem d_295_369 : decode (mth 295).2.1 369 = .ok (.iload_n 3, 1) := by decide +kernel
theorem d_295_370 : decode (mth 295).2.1 370 = .ok (.iconst 3, 1) := by decide +kernel
theorem d_295_371 : decode (mth 295).2.1 371 = .ok (.iadd, 1) := by decide +kernel
theorem d_295_372 : decode (mth 295).2.1 372 = .ok (.iaload, 1) := by decide +kernel
theorem d_295_373 : decode (mth 295).2.1 373 = .ok (.invokevirtual 27, 3) := by decide +kernel
theorem d_295_376 : decode (mth 295).2.1 376 = .ok (.if_icmp .eq 1359, 3) := by decide +kernel
theorem d_295_379 : decode (mth 295).2.1 379 = .ok (.iconst 0, 1) := by decide +kernel
theorem d_295_380 : decode (mth 295).2.1 380 = .ok (.ireturn, 1) := by decide +kernel
theorem d_295_381 : decode (mth 295).2.1 381 = .ok (.aload_n 1, 1) := by decide +kernel
theorem d_295_382 : decode (mth 295).2.1 382 = .ok (.aload_n 0, 1) := by decide +kernel
theorem d_295_383 : decode (mth 295).2.1 383 = .ok (.iload_n 3, 1) := by decide +kernel
theorem d_295_384 : decode (mth 295).2.1 384 = .ok (.iconst 1, 1) := by decide +kernel
theorem d_295_385 : decode (mth 295).2.1 385 = .ok (.iadd, 1) := by decide +kernel
theorem d_295_386 : decode (mth 295).2.1 386 = .ok (.iaload, 1) := by decide +kernel
theorem d_295_387 : decode (mth 295).2.1 387 = .ok (.aload_n 0, 1) := by decide +kernel
theorem d_295_388 : decode (mth 295).2.1 388 = .ok (.iload_n 3, 1) := by decide +kernel
theorem d_295_389 : decode (mth 295).2.1 389 = .ok (.iconst 2, 1) := by decide +kernel
theorem d_295_390 : decode (mth 295).2.1 390 = .ok (.iadd, 1) := by decide +kernel
theorem d_295_391 : decode (mth 295).2.1 391 = .ok (.iaload, 1) := by decide +kernel
theorem d_295_392 : decode (mth 295).2.1 392 = .ok (.invokevirtual 28, 3) := by decide +kernel
theorem d_295_395 : decode (mth 295).2.1 395 = .ok (.aload_n 2, 1) := by decide +kernel
theorem d_295_396 : decode (mth 295).2.1 396 = .ok (.aload_n 0, 1) := by decide +kernel
theorem d_295_397 : decode (mth 295).2.1 397 = .ok (.iload_n 3, 1) := by decide +kernel
theorem d_295_398 : decode (mth 295).2.1 398 = .ok (.iconst 1, 1) := by decide +kernel
theorem d_295_399 : decode (mth 295).2.1 399 = .ok (.iadd, 1) := by decide +kernel
theorem d_295_400 : decode (mth 295).2.1 400 = .ok (.iaload, 1) := by decide +kernel
theorem d_295_401 : decode (mth 295).2.1 401 = .ok (.aload_n 0, 1) := by decide +kernel
theorem d_295_402 : decode (mth 295).2.1 402 = .ok (.iload_n 3, 1) := by decide +kernel
theorem d_295_403 : decode (mth 295).2.1 403 = .ok (.iconst 2, 1) := by decide +kernel
theorem d_295_404 : decode (mth 295).2.1 404 = .ok (.iadd, 1) := by decide +kernel
theorem d_295_405 : decode (mth 295).2.1 405 = .ok (.iaload, 1) := by decide +kernel
theorem d_295_406 : decode (mth 295).2.1 406 = .ok (.invokevirtual 31, 3) := by decide +kernel
theorem d_295_409 : decode (mth 295).2.1 409 = .ok (.if_icmp .eq 1326, 3) := by decide +kernel
theorem d_295_412 : decode (mth 295).2.1 412 = .ok (.iconst 0, 1) := by decide +kernel
theorem d_295_413 : decode (mth 295).2.1 413 = .ok (.ireturn, 1) := by decide +kernel
theorem d_295_414 : decode (mth 295).2.1 414 = .ok (.aload_n 1, 1) := by decide +kernel
theorem d_295_415 : decode (mth 295).2.1 415 = .ok (.aload_n 0, 1) := by decide +kernel
theorem d_295_416 : decode (mth 295).2.1 416 = .ok (.iload_n 3, 1) := by decide +kernel
theorem d_295_417 : decode (mth 295).2.1 417 = .ok (.iconst 1, 1) := by decide +kernel
theorem d_295_418 : decode (mth 295).2.1 418 = .ok (.iadd, 1) := by decide +kernel
theorem d_295_419 : decode (mth 295).2.1 419 = .ok (.iaload, 1) := by decide +kernel
theorem d_295_420 : decode (mth 295).2.1 420 = .ok (.aload_n 0, 1) := by decide +kernel
theorem d_295_421 : decode (mth 295).2.1 421 = .ok (.iload_n 3, 1) := by decide +kernel
theorem d_295_422 : decode (mth 295).2.1 422 = .ok (.iconst 2, 1) := by decide +kernel
theorem d_295_423 : decode (mth 295).2.1 423 = .ok (.iadd, 1) := by decide +kernel
theorem d_295_424 : decode (mth 295).2.1 424 = .ok (.iaload, 1) := by decide +kernel
theorem d_295_425 : decode (mth 295).2.1 425 = .ok (.invokevirtual 32, 3) := by decide +kernel
theorem d_295_428 : decode (mth 295).2.1 428 = .ok (.aload_n 2, 1) := by decide +kernel
theorem d_295_429 : decode (mth 295).2.1 429 = .ok (.aload_n 0, 1) := by decide +kernel
theorem d_295_430 : decode (mth 295).2.1 430 = .ok (.iload_n 3, 1) := by decide +kernel
theorem d_295_431 : decode (mth 295).2.1 431 = .ok (.iconst 1, 1) := by decide +kernel
theorem d_295_432 : decode (mth 295).2.1 432 = .ok (.iadd, 1) := by decide +kernel
theorem d_295_433 : decode (mth 295).2.1 433 = .ok (.iaload, 1) := by decide +kernel
theorem d_295_434 : decode (mth 295).2.1 434 = .ok (.aload_n 0, 1) := by decide +kernel
theorem d_295_435 : decode (mth 295).2.1 435 = .ok (.iload_n 3, 1) := by decide +kernel
theorem d_295_436 : decode (mth 295).2.1 436 = .ok (.iconst 2, 1) := by decide +kernel
theorem d_295_437 : decode (mth 295).2.1 437 = .ok (.iadd, 1) := by decide +kernel
theorem d_295_438 : decode (mth 295).2.1 438 = .ok (.iaload, 1) := by decide +kernel
theorem d_295_439 : decode (mth 295).2.1 439 = .ok (.invokevirtual 35, 3) := by decide +kernel
theorem d_295_442 : decode (mth 295).2.1 442 = .ok (.if_icmp .eq 1293, 3) := by decide +kernel
theorem d_295_445 : decode (mth 295).2.1 445 = .ok (.iconst 0, 1) := by decide +kernel
theorem d_295_446 : decode (mth 295).2.1 446 = .ok (.ireturn, 1) := by decide +kernel
theorem d_295_447 : decode (mth 295).2.1 447 = .ok (.aload_n 1, 1) := by decide +kernel
theorem d_295_448 : decode (mth 295).2.1 448 = .ok (.aload_n 0, 1) := by decide +kernel
theorem d_295_449 : decode (mth 295).2.1 449 = .ok (.iload_n 3, 1) := by decide +kernel
theorem d_295_450 : decode (mth 295).2.1 450 = .ok (.iconst 1, 1) := by decide +kernel
theorem d_295_451 : decode (mth 295).2.1 451 = .ok (.iadd, 1) := by decide +kernel
theorem d_295_452 : decode (mth 295).2.1 452 = .ok (.iaload, 1) := by decide +kernel
theorem d_295_453 : decode (mth 295).2.1 453 = .ok (.aload_n 0, 1) := by decide +kernel
theorem d_295_454 : decode (mth 295).2.1 454 = .ok (.iload_n 3, 1) := by decide +kernel
theorem d_295_455 : decode (mth 295).2.1 455 = .ok (.iconst 2, 1) := by decide +kernel
theorem d_295_456 : decode (mth 295).2.1 456 = .ok (.iadd, 1) := by decide +kernel
theorem d_295_457 : decode (mth 295).2.1 457 = .ok (.iaload, 1) := by decide +kernel
theorem d_295_458 : decode (mth 295).2.1 458 = .ok (.aload_n 0, 1) := by decide +kernel
theorem d_295_459 : decode (mth 295).2.1 459 = .ok (.iload_n 3, 1) := by decide +kernel
theorem d_295_460 : decode (mth 295).2.1 460 = .ok (.iconst 3, 1) := by decide +kernel
theorem d_295_461 : decode (mth 295).2.1 461 = .ok (.iadd, 1) := by decide +kernel
theorem d_295_462 : decode (mth 295).2.1 462 = .ok (.iaload, 1) := by decide +kernel
theorem d_295_463 : decode (mth 295).2.1 463 = .ok (.invokevirtual 36, 3) := by decide +kernel
theorem d_295_466 : decode (mth 295).2.1 466 = .ok (.aload_n 2, 1) := by decide +kernel
theorem d_295_467 : decode (mth 295).2.1 467 = .ok (.aload_n 0, 1) := by decide +kernel
theorem d_295_468 : decode (mth 295).2.1 468 = .ok (.iload_n 3, 1) := by decide +kernel
theorem d_295_469 : decode (mth 295).2.1 469 = .ok (.iconst 1, 1) := by decide +kernel
theorem d_295_470 : decode (mth 295).2.1 470 = .ok (.iadd, 1) := by decide +kernel
theorem d_295_471 : decode (mth 295).2.1 471 = .ok (.iaload, 1) := by decide +kernel
theorem d_295_472 : decode (mth 295).2.1 472 = .ok (.aload_n 0, 1) := by decide +kernel
theorem d_295_473 : decode (mth 295).2.1 473 = .ok (.iload_n 3, 1) := by decide +kernel
theorem d_295_474 : decode (mth 295).2.1 474 = .ok (.iconst 2, 1) := by decide +kernel
theorem d_295_475 : decode (mth 295).2.1 475 = .ok (.iadd, 1) := by decide +kernel
theorem d_295_476 : decode (mth 295).2.1 476 = .ok (.iaload, 1) := by decide +kernel
theorem d_295_477 : decode (mth 295).2.1 477 = .ok (.aload_n 0, 1) := by decide +kernel
theorem d_295_478 : decode (mth 295).2.1 478 = .ok (.iload_n 3, 1) := by decide +kernel
theorem d_295_479 : decode (mth 295).2.1 479 = .ok (.iconst 3, 1) := by decide +kernel
theorem d_295_480 : decode (mth 295).2.1 480 = .ok (.iadd, 1) := by decide +kernel
theorem d_295_481 : decode (mth 295).2.1 481 = .ok (.iaload, 1) := by decide +kernel
theorem d_295_482 : decode (mth 295).2.1 482 = .ok (.invokevirtual 39, 3) := by decide +kernel
theorem d_295_485 : decode (mth 295).2.1 485 = .ok (.if_icmp .eq 1250, 3) := by decide +kernel
theorem d_295_488 : decode (mth 295).2.1 488 = .ok (.iconst 0, 1) := by decide +kernel
theorem d_295_489 : decode (mth 295).2.1 489 = .ok (.ireturn, 1) := by decide +kernel
theorem d_295_490 : decode (mth 295).2.1 490 = .ok (.aload_n 1, 1) := by decide +kernel
theorem d_295_491 : decode (mth 295).2.1 491 = .ok (.aload_n 0, 1) := by decide +kernel
theorem d_295_492 : decode (mth 295).2.1 492 = .ok (.iload_n 3, 1) := by decide +kernel
theorem d_295_493 : decode (mth 295).2.1 493 = .ok (.iconst 1, 1) := by decide +kernel
theorem d_295_494 : decode (mth 295).2.1 494 = .ok (.iadd, 1) := by decide +kernel
theorem d_295_495 : decode (mth 295).2.1 495 = .ok (.iaload, 1) := by decide +kernel
theorem d_295_496 : decode (mth 295).2.1 496 = .ok (.aload_n 0, 1) := by decide +kernel
theorem d_295_497 : decode (mth 295).2.1 497 = .ok (.iload_n 3, 1) := by decide +kernel
theorem d_295_498 : decode (mth 295).2.1 498 = .ok (.iconst 2, 1) := by decide +kernel
theorem d_295_499 : decode (mth 295).2.1 499 = .ok (.iadd, 1) := by decide +kernel
theorem d_295_500 : decode (mth 295).2.1 500 = .ok (.iaload, 1) := by decide +kernel
theorem d_295_501 : decode (mth 295).2.1 501 = .ok (.invokevirtual 40, 3) := by decide +kernel
theorem d_295_504 : decode (mth 295).2.1 504 = .ok (.aload_n 2, 1) := by decide +kernel
theorem d_295_505 : decode (mth 295).2.1 505 = .ok (.aload_n 0, 1) := by decide +kernel
theorem d_295_506 : decode (mth 295).2.1 506 = .ok (.iload_n 3, 1) := by decide +kernel
theorem d_295_507 : decode (mth 295).2.1 507 = .ok (.iconst 1, 1) := by decide +kernel
theorem d_295_508 : decode (mth 295).2.1 508 = .ok (.iadd, 1) := by decide +kernel
theorem d_295_509 : decode (mth 295).2.1 509 = .ok (.iaload, 1) := by decide +kernel
theorem d_295_510 : decode (mth 295).2.1 510 = .ok (.aload_n 0, 1) := by decide +kernel
theorem d_295_511 : decode (mth 295).2.1 511 = .ok (.iload_n 3, 1) := by decide +kernel
theorem d_295_512 : decode (mth 295).2.1 512 = .ok (.iconst 2, 1) := by decide +kernel
theorem d_295_513 : decode (mth 295).2.1 513 = .ok (.iadd, 1) := by decide +kernel
theorem d_295_514 : decode (mth 295).2.1 514 = .ok (.iaload, 1) := by decide +kernel
theorem d_295_515 : decode (mth 295).2.1 515 = .ok (.invokevirtual 43, 3) := by decide +kernel
theorem d_295_518 : decode (mth 295).2.1 518 = .ok (.if_icmp .eq 1217, 3) := by decide +kernel
theorem d_295_521 : decode (mth 295).2.1 521 = .ok (.iconst 0, 1) := by decide +kernel
theorem d_295_522 : decode (mth 295).2.1 522 = .ok (.ireturn, 1) := by decide +kernel
theorem d_295_523 : decode (mth 295).2.1 523 = .ok (.aload_n 1, 1) := by decide +kernel
theorem d_295_524 : decode (mth 295).2.1 524 = .ok (.aload_n 0, 1) := by decide +kernel
theorem d_295_525 : decode (mth 295).2.1 525 = .ok (.iload_n 3, 1) := by decide +kernel
theorem d_295_526 : decode (mth 295).2.1 526 = .ok (.iconst 1, 1) := by decide +kernel
theorem d_295_527 : decode (mth 295).2.1 527 = .ok (.iadd, 1) := by decide +kernel
theorem d_295_528 : decode (mth 295).2.1 528 = .ok (.iaload, 1) := by decide +kernel
theorem d_295_529 : decode (mth 295).2.1 529 = .ok (.invokevirtual 44, 3) := by decide +kernel
theorem d_295_532 : decode (mth 295).2.1 532 = .ok (.aload_n 2, 1) := by decide +kernel
theorem d_295_533 : decode (mth 295).2.1 533 = .ok (.aload_n 0, 1) := by decide +kernel
theorem d_295_534 : decode (mth 295).2.1 534 = .ok (.iload_n 3, 1) := by decide +kernel
theorem d_295_535 : decode (mth 295).2.1 535 = .ok (.iconst 1, 1) := by decide +kernel
theorem d_295_536 : decode (mth 295).2.1 536 = .ok (.iadd, 1) := by decide +kernel
theorem d_295_537 : decode (mth 295).2.1 537 = .ok (.iaload, 1) := by decide +kernel
theorem d_295_538 : decode (mth 295).2.1 538 = .ok (.invokevirtual 48, 3) := by decide +kernel
theorem d_295_541 : decode (mth 295).2.1 541 = .ok (.if_icmp .eq 1194, 3) := by decide +kernel
theorem d_295_544 : decode (mth 295).2.1 544 = .ok (.iconst 0, 1) := by decide +kernel
theorem d_295_545 : decode (mth 295).2.1 545 = .ok (.ireturn, 1) := by decide +kernel
theorem d_295_546 : decode (mth 295).2.1 546 = .ok (.aload_n 1, 1) := by decide +kernel
theorem d_295_547 : decode (mth 295).2.1 547 = .ok (.invokevirtual 49, 3) := by decide +kernel
theorem d_295_550 : decode (mth 295).2.1 550 = .ok (.aload_n 2, 1) := by decide +kernel
theorem d_295_551 : decode (mth 295).2.1 551 = .ok (.invokevirtual 53, 3) := by decide +kernel
theorem d_295_554 : decode (mth 295).2.1 554 = .ok (.if_icmp .eq 1181, 3) := by decide +kernel
theorem d_295_557 : decode (mth 295).2.1 557 = .ok (.iconst 0, 1) := by decide +kernel
theorem d_295_558 : decode (mth 295).2.1 558 = .ok (.ireturn, 1) := by decide +kernel
theorem d_295_559 : decode (mth 295).2.1 559 = .ok (.aload_n 1, 1) := by decide +kernel
theorem d_295_560 : decode (mth 295).2.1 560 = .ok (.aload_n 0, 1) := by decide +kernel
theorem d_295_561 : decode (mth 295).2.1 561 = .ok (.iload_n 3, 1) := by decide +kernel
theorem d_295_562 : decode (mth 295).2.1 562 = .ok (.iconst 1, 1) := by decide +kernel
theorem d_295_563 : decode (mth 295).2.1 563 = .ok (.iadd, 1) := by decide +kernel
theorem d_295_564 : decode (mth 295).2.1 564 = .ok (.iaload, 1) := by decide +kernel
theorem d_295_565 : decode (mth 295).2.1 565 = .ok (.invokevirtual 54, 3) := by decide +kernel
theorem d_295_568 : decode (mth 295).2.1 568 = .ok (.aload_n 2, 1) := by decide +kernel
theorem d_295_569 : decode (mth 295).2.1 569 = .ok (.aload_n 0, 1) := by decide +kernel
theorem d_295_570 : decode (mth 295).2.1 570 = .ok (.iload_n 3, 1) := by decide +kernel
theorem d_295_571 : decode (mth 295).2.1 571 = .ok (.iconst 1, 1) := by decide +kernel
theorem d_295_572 : decode (mth 295).2.1 572 = .ok (.iadd, 1) := by decide +kernel
theorem d_295_573 : decode (mth 295).2.1 573 = .ok (.iaload, 1) := by decide +kernel
theorem d_295_574 : decode (mth 295).2.1 574 = .ok (.invokevirtual 57, 3) := by decide +kernel
theorem d_295_577 : decode (mth 295).2.1 577 = .ok (.if_icmp .eq 1158, 3) := by decide +kernel
theorem d_295_580 : decode (mth 295).2.1 580 = .ok (.iconst 0, 1) := by decide +kernel
theorem d_295_581 : decode (mth 295).2.1 581 = .ok (.ireturn, 1) := by decide +kernel
theorem d_295_582 : decode (mth 295).2.1 582 = .ok (.aload_n 1, 1) := by decide +kernel
theorem d_295_583 : decode (mth 295).2.1 583 = .ok (.aload_n 0, 1) := by decide +kernel
theorem d_295_584 : decode (mth 295).2.1 584 = .ok (.iload_n 3, 1) := by decide +kernel
theorem d_295_585 : decode (mth 295).2.1 585 = .ok (.iconst 1, 1) := by decide +kernel
theorem d_295_586 : decode (mth 295).2.1 586 = .ok (.iadd, 1) := by decide +kernel
theorem d_295_587 : decode (mth 295).2.1 587 = .ok (.iaload, 1) := by decide +kernel
theorem d_295_588 : decode (mth 295).2.1 588 = .ok (.i2l, 1) := by decide +kernel
theorem d_295_589 : decode (mth 295).2.1 589 = .ok (.bipush 32, 2) := by decide +kernel
theorem d_295_591 : decode (mth 295).2.1 591 = .ok (.lshl, 1) := by decide +kernel
theorem d_295_592 : decode (mth 295).2.1 592 = .ok (.aload_n 0, 1) := by decide +kernel
theorem d_295_593 : decode (mth 295).2.1 593 = .ok (.iload_n 3, 1) := by decide +kernel
theorem d_295_594 : decode (mth 295).2.1 594 = .ok (.iconst 2, 1) := by decide +kernel
theorem d_295_595 : decode (mth 295).2.1 595 = .ok (.iadd, 1) := by decide +kernel
theorem d_295_596 : decode (mth 295).2.1 596 = .ok (.iaload, 1) := by decide +kernel
theorem d_295_597 : decode (mth 295).2.1 597 = .ok (.i2l, 1) := by decide +kernel
theorem d_295_598 : decode (mth 295).2.1 598 = .ok (.ldc2_w 58, 3) := by decide +kernel
theorem d_295_601 : decode (mth 295).2.1 601 = .ok (.land, 1) := by decide +kernel
theorem d_295_602 : decode (mth 295).2.1 602 = .ok (.lor, 1) := by decide +kernel
theorem d_295_603 : decode (mth 295).2.1 603 = .ok (.aload_n 0, 1) := by decide +kernel
theorem d_295_604 : decode (mth 295).2.1 604 = .ok (.iload_n 3, 1) := by decide +kernel
theorem d_295_605 : decode (mth 295).2.1 605 = .ok (.iconst 3, 1) := by decide +kernel
theorem d_295_606 : decode (mth 295).2.1 606 = .ok (.iadd, 1) := by decide +kernel
theorem d_295_607 : decode (mth 295).2.1 607 = .ok (.iaload, 1) := by decide +kernel
theorem d_295_608 : decode (mth 295).2.1 608 = .ok (.invokevirtual 60, 3) := by decide +kernel
theorem d_295_611 : decode (mth 295).2.1 611 = .ok (.aload_n 2, 1) := by decide +kernel
theorem d_295_612 : decode (mth 295).2.1 612 = .ok (.aload_n 0, 1) := by decide +kernel
theorem d_295_613 : decode (mth 295).2.1 613 = .ok (.iload_n 3, 1) := by decide +kernel
theorem d_295_614 : decode (mth 295).2.1 614 = .ok (.iconst 1, 1) := by decide +kernel
theorem d_295_615 : decode (mth 295).2.1 615 = .ok (.iadd, 1) := by decide +kernel
theorem d_295_616 : decode (mth 295).2.1 616 = .ok (.iaload, 1) := by decide +kernel
theorem d_295_617 : decode (mth 295).2.1 617 = .ok (.i2l, 1) := by decide +kernel
theorem d_295_618 : decode (mth 295).2.1 618 = .ok (.bipush 32, 2) := by decide +kernel
theorem d_295_620 : decode (mth 295).2.1 620 = .ok (.lshl, 1) := by decide +kernel
theorem d_295_621 : decode (mth 295).2.1 621 = .ok (.aload_n 0, 1) := by decide +kernel
theorem d_295_622 : decode (mth 295).2.1 622 = .ok (.iload_n 3, 1) := by decide +kernel
theorem d_295_623 : decode (mth 295).2.1 623 = .ok (.iconst 2, 1) := by decide +kernel
theorem d_295_624 : decode (mth 295).2.1 624 = .ok (.iadd, 1) := by decide +kernel
theorem d_295_625 : decode (mth 295).2.1 625 = .ok (.iaload, 1) := by decide +kernel
theorem d_295_626 : decode (mth 295).2.1 626 = .ok (.i2l, 1) := by decide +kernel
theorem d_295_627 : decode (mth 295).2.1 627 = .ok (.ldc2_w 58, 3) := by decide +kernel
theorem d_295_630 : decode (mth 295).2.1 630 = .ok (.land, 1) := by decide +kernel
theorem d_295_631 : decode (mth 295).2.1 631 = .ok (.lor, 1) := by decide +kernel
theorem d_295_632 : decode (mth 295).2.1 632 = .ok (.aload_n 0, 1) := by decide +kernel
theorem d_295_633 : decode (mth 295).2.1 633 = .ok (.iload_n 3, 1) := by decide +kernel
theorem d_295_634 : decode (mth 295).2.1 634 = .ok (.iconst 3, 1) := by decide +kernel
theorem d_295_635 : decode (mth 295).2.1 635 = .ok (.iadd, 1) := by decide +kernel
theorem d_295_636 : decode (mth 295).2.1 636 = .ok (.iaload, 1) := by decide +kernel
theorem d_295_637 : decode (mth 295).2.1 637 = .ok (.invokevirtual 64, 3) := by decide +kernel
theorem d_295_640 : decode (mth 295).2.1 640 = .ok (.if_icmp .eq 1095, 3) := by decide +kernel
theorem d_295_643 : decode (mth 295).2.1 643 = .ok (.iconst 0, 1) := by decide +kernel
theorem d_295_644 : decode (mth 295).2.1 644 = .ok (.ireturn, 1) := by decide +kernel
theorem d_295_645 : decode (mth 295).2.1 645 = .ok (.aload_n 1, 1) := by decide +kernel
theorem d_295_646 : decode (mth 295).2.1 646 = .ok (.invokevirtual 65, 3) := by decide +kernel
theorem d_295_649 : decode (mth 295).2.1 649 = .ok (.aload_n 2, 1) := by decide +kernel
theorem d_295_650 : decode (mth 295).2.1 650 = .ok (.invokevirtual 68, 3) := by decide +kernel
theorem d_295_653 : decode (mth 295).2.1 653 = .ok (.if_icmp .eq 1082, 3) := by decide +kernel
theorem d_295_656 : decode (mth 295).2.1 656 = .ok (.iconst 0, 1) := by decide +kernel
theorem d_295_657 : decode (mth 295).2.1 657 = .ok (.ireturn, 1) := by decide +kernel
theorem d_295_658 : decode (mth 295).2.1 658 = .ok (.aload_n 1, 1) := by decide +kernel
theorem d_295_659 : decode (mth 295).2.1 659 = .ok (.invokevirtual 69, 3) := by decide +kernel
theorem d_295_662 : decode (mth 295).2.1 662 = .ok (.aload_n 2, 1) := by decide +kernel
theorem d_295_663 : decode (mth 295).2.1 663 = .ok (.invokevirtual 72, 3) := by decide +kernel
theorem d_295_666 : decode (mth 295).2.1 666 = .ok (.if_icmp .eq 1069, 3) := by decide +kernel
theorem d_295_669 : decode (mth 295).2.1 669 = .ok (.iconst 0, 1) := by decide +kernel
theorem d_295_670 : decode (mth 295).2.1 670 = .ok (.ireturn, 1) := by decide +kernel
theorem d_295_671 : decode (mth 295).2.1 671 = .ok (.aload_n 1, 1) := by decide +kernel
theorem d_295_672 : decode (mth 295).2.1 672 = .ok (.aload_n 0, 1) := by decide +kernel
theorem d_295_673 : decode (mth 295).2.1 673 = .ok (.iload_n 3, 1) := by decide +kernel
theorem d_295_674 : decode (mth 295).2.1 674 = .ok (.iconst 1, 1) := by decide +kernel
theorem d_295_675 : decode (mth 295).2.1 675 = .ok (.iadd, 1) := by decide +kernel
theorem d_295_676 : decode (mth 295).2.1 676 = .ok (.iaload, 1) := by decide +kernel
theorem d_295_677 : decode (mth 295).2.1 677 = .ok (.invokevirtual 73, 3) := by decide +kernel
theorem d_295_680 : decode (mth 295).2.1 680 = .ok (.aload_n 2, 1) := by decide +kernel
theorem d_295_681 : decode (mth 295).2.1 681 = .ok (.aload_n 0, 1) := by decide +kernel
theorem d_295_682 : decode (mth 295).2.1 682 = .ok (.iload_n 3, 1) := by decide +kernel
theorem d_295_683 : decode (mth 295).2.1 683 = .ok (.iconst 1, 1) := by decide +kernel
theorem d_295_684 : decode (mth 295).2.1 684 = .ok (.iadd, 1) := by decide +kernel
theorem d_295_685 : decode (mth 295).2.1 685 = .ok (.iaload, 1) := by decide +kernel
theorem d_295_686 : decode (mth 295).2.1 686 = .ok (.invokevirtual 76, 3) := by decide +kernel
theorem d_295_689 : decode (mth 295).2.1 689 = .ok (.if_icmp .eq 1046, 3) := by decide +kernel
theorem d_295_692 : decode (mth 295).2.1 692 = .ok (.iconst 0, 1) := by decide +kernel
theorem d_295_693 : decode (mth 295).2.1 693 = .ok (.ireturn, 1) := by decide +kernel
theorem d_295_694 : decode (mth 295).2.1 694 = .ok (.aload_n 1, 1) := by decide +kernel
theorem d_295_695 : decode (mth 295).2.1 695 = .ok (.aload_n 0, 1) := by decide +kernel
theorem d_295_696 : decode (mth 295).2.1 696 = .ok (.iload_n 3, 1) := by decide +kernel
theorem d_295_697 : decode (mth 295).2.1 697 = .ok (.iconst 1, 1) := by decide +kernel
theorem d_295_698 : decode (mth 295).2.1 698 = .ok (.iadd, 1) := by decide +kernel
theorem d_295_699 : decode (mth 295).2.1 699 = .ok (.iaload, 1) := by decide +kernel
theorem d_295_700 : decode (mth 295).2.1 700 = .ok (.invokevirtual 77, 3) := by decide +kernel
theorem d_295_703 : decode (mth 295).2.1 703 = .ok (.aload_n 2, 1) := by decide +kernel
theorem d_295_704 : decode (mth 295).2.1 704 = .ok (.aload_n 0, 1) := by decide +kernel
theorem d_295_705 : decode (mth 295).2.1 705 = .ok (.iload_n 3, 1) := by decide +kernel
theorem d_295_706 : decode (mth 295).2.1 706 = .ok (.iconst 1, 1) := by decide +kernel
theorem d_295_707 : decode (mth 295).2.1 707 = .ok (.iadd, 1) := by decide +kernel
theorem d_295_708 : decode (mth 295).2.1 708 = .ok (.iaload, 1) := by decide +kernel
theorem d_295_709 : decode (mth 295).2.1 709 = .ok (.invokevirtual 80, 3) := by decide +kernel
theorem d_295_712 : decode (mth 295).2.1 712 = .ok (.if_icmp .eq 1023, 3) := by decide +kernel
theorem d_295_715 : decode (mth 295).2.1 715 = .ok (.iconst 0, 1) := by decide +kernel
theorem d_295_716 : decode (mth 295).2.1 716 = .ok (.ireturn, 1) := by decide +kernel
theorem d_295_717 : decode (mth 295).2.1 717 = .ok (.aload_n 1, 1) := by decide +kernel
theorem d_295_718 : decode (mth 295).2.1 718 = .ok (.aload_n 0, 1) := by decide +kernel
theorem d_295_719 : decode (mth 295).2.1 719 = .ok (.iload_n 3, 1) := by decide +kernel
theorem d_295_720 : decode (mth 295).2.1 720 = .ok (.iconst 1, 1) := by decide +kernel
theorem d_295_721 : decode (mth 295).2.1 721 = .ok (.iadd, 1) := by decide +kernel
theorem d_295_722 : decode (mth 295).2.1 722 = .ok (.iaload, 1) := by decide +kernel
theorem d_295_723 : decode (mth 295).2.1 723 = .ok (.invokevirtual 81, 3) := by decide +kernel
theorem d_295_726 : decode (mth 295).2.1 726 = .ok (.aload_n 2, 1) := by decide +kernel
theorem d_295_727 : decode (mth 295).2.1 727 = .ok (.aload_n 0, 1) := by decide +kernel
theorem d_295_728 : decode (mth 295).2.1 728 = .ok (.iload_n 3, 1) := by decide +kernel
theorem d_295_729 : decode (mth 295).2.1 729 = .ok (.iconst 1, 1) := by decide +kernel
theorem d_295_730 : decode (mth 295).2.1 730 = .ok (.iadd, 1) := by decide +kernel
theorem d_295_731 : decode (mth 295).2.1 731 = .ok (.iaload, 1) := by decide +kernel
theorem d_295_732 : decode (mth 295).2.1 732 = .ok (.invokevirtual 84, 3) := by decide +kernel
theorem d_295_735 : decode (mth 295).2.1 735 = .ok (.if_icmp .eq 1000, 3) := by decide +kernel
theorem d_295_738 : decode (mth 295).2.1 738 = .ok (.iconst 0, 1) := by decide +kernel
theorem d_295_739 : decode (mth 295).2.1 739 = .ok (.ireturn, 1) := by decide +kernel
theorem d_295_740 : decode (mth 295).2.1 740 = .ok (.aload_n 1, 1) := by decide +kernel
theorem d_295_741 : decode (mth 295).2.1 741 = .ok (.aload_n 0, 1) := by decide +kernel
theorem d_295_742 : decode (mth 295).2.1 742 = .ok (.iload_n 3, 1) := by decide +kernel
theorem d_295_743 : decode (mth 295).2.1 743 = .ok (.iconst 1, 1) := by decide +kernel
theorem d_295_744 : decode (mth 295).2.1 744 = .ok (.iadd, 1) := by decide +kernel
theorem d_295_745 : decode (mth 295).2.1 745 = .ok (.iaload, 1) := by decide +kernel
theorem d_295_746 : decode (mth 295).2.1 746 = .ok (.invokevirtual 85, 3) := by decide +kernel
theorem d_295_749 : decode (mth 295).2.1 749 = .ok (.aload_n 2, 1) := by decide +kernel
theorem d_295_750 : decode (mth 295).2.1 750 = .ok (.aload_n 0, 1) := by decide +kernel
theorem d_295_751 : decode (mth 295).2.1 751 = .ok (.iload_n 3, 1) := by decide +kernel
theorem d_295_752 : decode (mth 295).2.1 752 = .ok (.iconst 1, 1) := by decide +kernel
theorem d_295_753 : decode (mth 295).2.1 753 = .ok (.iadd, 1) := by decide +kernel
theorem d_295_754 : decode (mth 295).2.1 754 = .ok (.iaload, 1) := by decide +kernel
theorem d_295_755 : decode (mth 295).2.1 755 = .ok (.invokevirtual 88, 3) := by decide +kernel
theorem d_295_758 : decode (mth 295).2.1 758 = .ok (.if_icmp .eq 977, 3) := by decide +kernel
theorem d_295_761 : decode (mth 295).2.1 761 = .ok (.iconst 0, 1) := by decide +kernel
theorem d_295_762 : decode (mth 295).2.1 762 = .ok (.ireturn, 1) := by decide +kernel
theorem d_295_763 : decode (mth 295).2.1 763 = .ok (.aload_n 1, 1) := by decide +kernel
theorem d_295_764 : decode (mth 295).2.1 764 = .ok (.aload_n 0, 1) := by decide +kernel
theorem d_295_765 : decode (mth 295).2.1 765 = .ok (.iload_n 3, 1) := by decide +kernel
theorem d_295_766 : decode (mth 295).2.1 766 = .ok (.iconst 1, 1) := by decide +kernel
theorem d_295_767 : decode (mth 295).2.1 767 = .ok (.iadd, 1) := by decide +kernel
theorem d_295_768 : decode (mth 295).2.1 768 = .ok (.iaload, 1) := by decide +kernel
theorem d_295_769 : decode (mth 295).2.1 769 = .ok (.invokevirtual 89, 3) := by decide +kernel
theorem d_295_772 : decode (mth 295).2.1 772 = .ok (.aload_n 2, 1) := by decide +kernel
theorem d_295_773 : decode (mth 295).2.1 773 = .ok (.aload_n 0, 1) := by decide +kernel
theorem d_295_774 : decode (mth 295).2.1 774 = .ok (.iload_n 3, 1) := by decide +kernel
theorem d_295_775 : decode (mth 295).2.1 775 = .ok (.iconst 1, 1) := by decide +kernel
theorem d_295_776 : decode (mth 295).2.1 776 = .ok (.iadd, 1) := by decide +kernel
theorem d_295_777 : decode (mth 295).2.1 777 = .ok (.iaload, 1) := by decide +kernel
theorem d_295_778 : decode (mth 295).2.1 778 = .ok (.invokevirtual 92, 3) := by decide +kernel
theorem d_295_781 : decode (mth 295).2.1 781 = .ok (.if_icmp .eq 954, 3) := by decide +kernel
theorem d_295_784 : decode (mth 295).2.1 784 = .ok (.iconst 0, 1) := by decide +kernel
theorem d_295_785 : decode (mth 295).2.1 785 = .ok (.ireturn, 1) := by decide +kernel
theorem d_295_786 : decode (mth 295).2.1 786 = .ok (.aload_n 1, 1) := by decide +kernel
theorem d_295_787 : decode (mth 295).2.1 787 = .ok (.aload_n 0, 1) := by decide +kernel
theorem d_295_788 : decode (mth 295).2.1 788 = .ok (.iload_n 3, 1) := by decide +kernel
theorem d_295_789 : decode (mth 295).2.1 789 = .ok (.iconst 1, 1) := by decide +kernel
theorem d_295_790 : decode (mth 295).2.1 790 = .ok (.iadd, 1) := by decide +kernel
theorem d_295_791 : decode (mth 295).2.1 791 = .ok (.iaload, 1) := by decide +kernel
theorem d_295_792 : decode (mth 295).2.1 792 = .ok (.invokevirtual 93, 3) := by decide +kernel
theorem d_295_795 : decode (mth 295).2.1 795 = .ok (.aload_n 2, 1) := by decide +kernel
theorem d_295_796 : decode (mth 295).2.1 796 = .ok (.aload_n 0, 1) := by decide +kernel
theorem d_295_797 : decode (mth 295).2.1 797 = .ok (.iload_n 3, 1) := by decide +kernel
theorem d_295_798 : decode (mth 295).2.1 798 = .ok (.iconst 1, 1) := by decide +kernel
theorem d_295_799 : decode (mth 295).2.1 799 = .ok (.iadd, 1) := by decide +kernel
theorem d_295_800 : decode (mth 295).2.1 800 = .ok (.iaload, 1) := by decide +kernel
theorem d_295_801 : decode (mth 295).2.1 801 = .ok (.invokevirtual 96, 3) := by decide +kernel
theorem d_295_804 : decode (mth 295).2.1 804 = .ok (.if_icmp .eq 931, 3) := by decide +kernel
theorem d_295_807 : decode (mth 295).2.1 807 = .ok (.iconst 0, 1) := by decide +kernel
theorem d_295_808 : decode (mth 295).2.1 808 = .ok (.ireturn, 1) := by decide +kernel
theorem d_295_809 : decode (mth 295).2.1 809 = .ok (.aload_n 1, 1) := by decide +kernel
theorem d_295_810 : decode (mth 295).2.1 810 = .ok (.aload_n 0, 1) := by decide +kernel
theorem d_295_811 : decode (mth 295).2.1 811 = .ok (.iload_n 3, 1) := by decide +kernel
theorem d_295_812 : decode (mth 295).2.1 812 = .ok (.iconst 1, 1) := by decide +kernel
theorem d_295_813 : decode (mth 295).2.1 813 = .ok (.iadd, 1) := by decide +kernel
theorem d_295_814 : decode (mth 295).2.1 814 = .ok (.iaload, 1) := by decide +kernel
theorem d_295_815 : decode (mth 295).2.1 815 = .ok (.invokevirtual 97, 3) := by decide +kernel
theorem d_295_818 : decode (mth 295).2.1 818 = .ok (.aload_n 2, 1) := by decide +kernel
theorem d_295_819 : decode (mth 295).2.1 819 = .ok (.aload_n 0, 1) := by decide +kernel
theorem d_295_820 : decode (mth 295).2.1 820 = .ok (.iload_n 3, 1) := by decide +kernel
theorem d_295_821 : decode (mth 295).2.1 821 = .ok (.iconst 1, 1) := by decide +kernel
theorem d_295_822 : decode (mth 295).2.1 822 = .ok (.iadd, 1) := by decide +kernel
theorem d_295_823 : decode (mth 295).2.1 823 = .ok (.iaload, 1) := by decide +kernel
theorem d_295_824 : decode (mth 295).2.1 824 = .ok (.invokevirtual 100, 3) := by decide +kernel
theorem d_295_827 : decode (mth 295).2.1 827 = .ok (.if_icmp .eq 908, 3) := by decide +kernel
theorem d_295_830 : decode (mth 295).2.1 830 = .ok (.iconst 0, 1) := by decide +kernel
theorem d_295_831 : decode (mth 295).2.1 831 = .ok (.ireturn, 1) := by decide +kernel
theorem d_295_832 : decode (mth 295).2.1 832 = .ok (.aload_n 1, 1) := by decide +kernel
theorem d_295_833 : decode (mth 295).2.1 833 = .ok (.aload_n 0, 1) := by decide +kernel
theorem d_295_834 : decode (mth 295).2.1 834 = .ok (.iload_n 3, 1) := by decide +kernel
theorem d_295_835 : decode (mth 295).2.1 835 = .ok (.iconst 1, 1) := by decide +kernel
theorem d_295_836 : decode (mth 295).2.1 836 = .ok (.iadd, 1) := by decide +kernel
theorem d_295_837 : decode (mth 295).2.1 837 = .ok (.iaload, 1) := by decide +kernel
theorem d_295_838 : decode (mth 295).2.1 838 = .ok (.invokevirtual 101, 3) := by decide +kernel
theorem d_295_841 : decode (mth 295).2.1 841 = .ok (.aload_n 2, 1) := by decide +kernel
theorem d_295_842 : decode (mth 295).2.1 842 = .ok (.aload_n 0, 1) := by decide +kernel
theorem d_295_843 : decode (mth 295).2.1 843 = .ok (.iload_n 3, 1) := by decide +kernel
theorem d_295_844 : decode (mth 295).2.1 844 = .ok (.iconst 1, 1) := by decide +kernel
theorem d_295_845 : decode (mth 295).2.1 845 = .ok (.iadd, 1) := by decide +kernel
theorem d_295_846 : decode (mth 295).2.1 846 = .ok (.iaload, 1) := by decide +kernel
theorem d_295_847 : decode (mth 295).2.1 847 = .ok (.invokevirtual 104, 3) := by decide +kernel
theorem d_295_850 : decode (mth 295).2.1 850 = .ok (.if_icmp .eq 885, 3) := by decide +kernel
theorem d_295_853 : decode (mth 295).2.1 853 = .ok (.iconst 0, 1) := by decide +kernel
theorem d_295_854 : decode (mth 295).2.1 854 = .ok (.ireturn, 1) := by decide +kernel
theorem d_295_855 : decode (mth 295).2.1 855 = .ok (.aload_n 1, 1) := by decide +kernel
theorem d_295_856 : decode (mth 295).2.1 856 = .ok (.aload_n 0, 1) := by decide +kernel
theorem d_295_857 : decode (mth 295).2.1 857 = .ok (.iload_n 3, 1) := by decide +kernel
theorem d_295_858 : decode (mth 295).2.1 858 = .ok (.iconst 1, 1) := by decide +kernel
theorem d_295_859 : decode (mth 295).2.1 859 = .ok (.iadd, 1) := by decide +kernel
theorem d_295_860 : decode (mth 295).2.1 860 = .ok (.iaload, 1) := by decide +kernel
theorem d_295_861 : decode (mth 295).2.1 861 = .ok (.invokevirtual 105, 3) := by decide +kernel
theorem d_295_864 : decode (mth 295).2.1 864 = .ok (.aload_n 2, 1) := by decide +kernel
theorem d_295_865 : decode (mth 295).2.1 865 = .ok (.aload_n 0, 1) := by decide +kernel
theorem d_295_866 : decode (mth 295).2.1 866 = .ok (.iload_n 3, 1) := by decide +kernel
theorem d_295_867 : decode (mth 295).2.1 867 = .ok (.iconst 1, 1) := by decide +kernel
theorem d_295_868 : decode (mth 295).2.1 868 = .ok (.iadd, 1) := by decide +kernel
theorem d_295_869 : decode (mth 295).2.1 869 = .ok (.iaload, 1) := by decide +kernel
theorem d_295_870 : decode (mth 295).2.1 870 = .ok (.invokevirtual 108, 3) := by decide +kernel
theorem d_295_873 : decode (mth 295).2.1 873 = .ok (.if_icmp .eq 862, 3) := by decide +kernel
theorem d_295_876 : decode (mth 295).2.1 876 = .ok (.iconst 0, 1) := by decide +kernel
theorem d_295_877 : decode (mth 295).2.1 877 = .ok (.ireturn, 1) := by decide +kernel
theorem d_295_878 : decode (mth 295).2.1 878 = .ok (.aload_n 1, 1) := by decide +kernel
theorem d_295_879 : decode (mth 295).2.1 879 = .ok (.aload_n 0, 1) := by decide +kernel
theorem d_295_880 : decode (mth 295).2.1 880 = .ok (.iload_n 3, 1) := by decide +kernel
theorem d_295_881 : decode (mth 295).2.1 881 = .ok (.iconst 1, 1) := by decide +kernel
theorem d_295_882 : decode (mth 295).2.1 882 = .ok (.iadd, 1) := by decide +kernel
theorem d_295_883 : decode (mth 295).2.1 883 = .ok (.iaload, 1) := by decide +kernel
theorem d_295_884 : decode (mth 295).2.1 884 = .ok (.aload_n 0, 1) := by decide +kernel
theorem d_295_885 : decode (mth 295).2.1 885 = .ok (.iload_n 3, 1) := by decide +kernel
theorem d_295_886 : decode (mth 295).2.1 886 = .ok (.iconst 2, 1) := by decide +kernel
theorem d_295_887 : decode (mth 295).2.1 887 = .ok (.iadd, 1) := by decide +kernel
theorem d_295_888 : decode (mth 295).2.1 888 = .ok (.iaload, 1) := by decide +kernel
theorem d_295_889 : decode (mth 295).2.1 889 = .ok (.invokevirtual 109, 3) := by decide +kernel
theorem d_295_892 : decode (mth 295).2.1 892 = .ok (.aload_n 2, 1) := by decide +kernel
theorem d_295_893 : decode (mth 295).2.1 893 = .ok (.aload_n 0, 1) := by decide +kernel
theorem d_295_894 : decode (mth 295).2.1 894 = .ok (.iload_n 3, 1) := by decide +kernel
theorem d_295_895 : decode (mth 295).2.1 895 = .ok (.iconst 1, 1) := by decide +kernel
theorem d_295_896 : decode (mth 295).2.1 896 = .ok (.iadd, 1) := by decide +kernel
theorem d_295_897 : decode (mth 295).2.1 897 = .ok (.iaload, 1) := by decide +kernel
theorem d_295_898 : decode (mth 295).2.1 898 = .ok (.aload_n 0, 1) := by decide +kernel
theorem d_295_899 : decode (mth 295).2.1 899 = .ok (.iload_n 3, 1) := by decide +kernel
theorem d_295_900 : decode (mth 295).2.1 900 = .ok (.iconst 2, 1) := by decide +kernel
theorem d_295_901 : decode (mth 295).2.1 901 = .ok (.iadd, 1) := by decide +kernel
theorem d_295_902 : decode (mth 295).2.1 902 = .ok (.iaload, 1) := by decide +kernel
theorem d_295_903 : decode (mth 295).2.1 903 = .ok (.invokevirtual 112, 3) := by decide +kernel
theorem d_295_906 : decode (mth 295).2.1 906 = .ok (.if_icmp .eq 829, 3) := by decide +kernel
theorem d_295_909 : decode (mth 295).2.1 909 = .ok (.iconst 0, 1) := by decide +kernel
theorem d_295_910 : decode (mth 295).2.1 910 = .ok (.ireturn, 1) := by decide +kernel
theorem d_295_911 : decode (mth 295).2.1 911 = .ok (.aload_n 1, 1) := by decide +kernel
theorem d_295_912 : decode (mth 295).2.1 912 = .ok (.aload_n 0, 1) := by decide +kernel
theorem d_295_913 : decode (mth 295).2.1 913 = .ok (.iload_n 3, 1) := by decide +kernel
theorem d_295_914 : decode (mth 295).2.1 914 = .ok (.iconst 1, 1) := by decide +kernel
theorem d_295_915 : decode (mth 295).2.1 915 = .ok (.iadd, 1) := by decide +kernel
theorem d_295_916 : decode (mth 295).2.1 916 = .ok (.iaload, 1) := by decide +kernel
theorem d_295_917 : decode (mth 295).2.1 917 = .ok (.invokevirtual 113, 3) := by decide +kernel
theorem d_295_920 : decode (mth 295).2.1 920 = .ok (.aload_n 2, 1) := by decide +kernel
theorem d_295_921 : decode (mth 295).2.1 921 = .ok (.aload_n 0, 1) := by decide +kernel
theorem d_295_922 : decode (mth 295).2.1 922 = .ok (.iload_n 3, 1) := by decide +kernel
theorem d_295_923 : decode (mth 295).2.1 923 = .ok (.iconst 1, 1) := by decide +kernel
theorem d_295_924 : decode (mth 295).2.1 924 = .ok (.iadd, 1) := by decide +kernel
theorem d_295_925 : decode (mth 295).2.1 925 = .ok (.iaload, 1) := by decide +kernel
theorem d_295_926 : decode (mth 295).2.1 926 = .ok (.invokevirtual 116, 3) := by decide +kernel
theorem d_295_929 : decode (mth 295).2.1 929 = .ok (.if_icmp .eq 806, 3) := by decide +kernel
theorem d_295_932 : decode (mth 295).2.1 932 = .ok (.iconst 0, 1) := by decide +kernel
theorem d_295_933 : decode (mth 295).2.1 933 = .ok (.ireturn, 1) := by decide +kernel
theorem d_295_934 : decode (mth 295).2.1 934 = .ok (.aload_n 1, 1) := by decide +kernel
theorem d_295_935 : decode (mth 295).2.1 935 = .ok (.aload_n 0, 1) := by decide +kernel
theorem d_295_936 : decode (mth 295).2.1 936 = .ok (.iload_n 3, 1) := by decide +kernel
theorem d_295_937 : decode (mth 295).2.1 937 = .ok (.iconst 1, 1) := by decide +kernel
theorem d_295_938 : decode (mth 295).2.1 938 = .ok (.iadd, 1) := by decide +kernel
theorem d_295_939 : decode (mth 295).2.1 939 = .ok (.iaload, 1) := by decide +kernel
theorem d_295_940 : decode (mth 295).2.1 940 = .ok (.aload_n 0, 1) := by decide +kernel
theorem d_295_941 : decode (mth 295).2.1 941 = .ok (.iload_n 3, 1) := by decide +kernel
theorem d_295_942 : decode (mth 295).2.1 942 = .ok (.iconst 2, 1) := by decide +kernel
theorem d_295_943 : decode (mth 295).2.1 943 = .ok (.iadd, 1) := by decide +kernel
theorem d_295_944 : decode (mth 295).2.1 944 = .ok (.iaload, 1) := by decide +kernel
theorem d_295_945 : decode (mth 295).2.1 945 = .ok (.invokevirtual 117, 3) := by decide +kernel
theorem d_295_948 : decode (mth 295).2.1 948 = .ok (.aload_n 2, 1) := by decide +kernel
theorem d_295_949 : decode (mth 295).2.1 949 = .ok (.aload_n 0, 1) := by decide +kernel
theorem d_295_950 : decode (mth 295).2.1 950 = .ok (.iload_n 3, 1) := by decide +kernel
theorem d_295_951 : decode (mth 295).2.1 951 = .ok (.iconst 1, 1) := by decide +kernel
theorem d_295_952 : decode (mth 295).2.1 952 = .ok (.iadd, 1) := by decide +kernel
theorem d_295_953 : decode (mth 295).2.1 953 = .ok (.iaload, 1) := by decide +kernel
theorem d_295_954 : decode (mth 295).2.1 954 = .ok (.aload_n 0, 1) := by decide +kernel
theorem d_295_955 : decode (mth 295).2.1 955 = .ok (.iload_n 3, 1) := by decide +kernel
theorem d_295_956 : decode (mth 295).2.1 956 = .ok (.iconst 2, 1) := by decide +kernel
theorem d_295_957 : decode (mth 295).2.1 957 = .ok (.iadd, 1) := by decide +kernel
theorem d_295_958 : decode (mth 295).2.1 958 = .ok (.iaload, 1) := by decide +kernel
theorem d_295_959 : decode (mth 295).2.1 959 = .ok (.invokevirtual 120, 3) := by decide +kernel
theorem d_295_962 : decode (mth 295).2.1 962 = .ok (.if_icmp .eq 773, 3) := by decide +kernel
theorem d_295_965 : decode (mth 295).2.1 965 = .ok (.iconst 0, 1) := by decide +kernel
theorem d_295_966 : decode (mth 295).2.1 966 = .ok (.ireturn, 1) := by decide +kernel
theorem d_295_967 : decode (mth 295).2.1 967 = .ok (.aload_n 1, 1) := by decide +kernel
theorem d_295_968 : decode (mth 295).2.1 968 = .ok (.aload_n 0, 1) := by decide +kernel
theorem d_295_969 : decode (mth 295).2.1 969 = .ok (.iload_n 3, 1) := by decide +kernel
theorem d_295_970 : decode (mth 295).2.1 970 = .ok (.iconst 1, 1) := by decide +kernel
theorem d_295_971 : decode (mth 295).2.1 971 = .ok (.iadd, 1) := by decide +kernel
theorem d_295_972 : decode (mth 295).2.1 972 = .ok (.iaload, 1) := by decide +kernel
theorem d_295_973 : decode (mth 295).2.1 973 = .ok (.aload_n 0, 1) := by decide +kernel
theorem d_295_974 : decode (mth 295).2.1 974 = .ok (.iload_n 3, 1) := by decide +kernel
theorem d_295_975 : decode (mth 295).2.1 975 = .ok (.iconst 2, 1) := by decide +kernel
theorem d_295_976 : decode (mth 295).2.1 976 = .ok (.iadd, 1) := by decide +kernel
theorem d_295_977 : decode (mth 295).2.1 977 = .ok (.iaload, 1) := by decide +kernel
theorem d_295_978 : decode (mth 295).2.1 978 = .ok (.invokevirtual 121, 3) := by decide +kernel
theorem d_295_981 : decode (mth 295).2.1 981 = .ok (.aload_n 2, 1) := by decide +kernel
theorem d_295_982 : decode (mth 295).2.1 982 = .ok (.aload_n 0, 1) := by decide +kernel
theorem d_295_983 : decode (mth 295).2.1 983 = .ok (.iload_n 3, 1) := by decide +kernel
theorem d_295_984 : decode (mth 295).2.1 984 = .ok (.iconst 1, 1) := by decide +kernel
theorem d_295_985 : decode (mth 295).2.1 985 = .ok (.iadd, 1) := by decide +kernel
theorem d_295_986 : decode (mth 295).2.1 986 = .ok (.iaload, 1) := by decide +kernel
theorem d_295_987 : decode (mth 295).2.1 987 = .ok (.aload_n 0, 1) := by decide +kernel
theorem d_295_988 : decode (mth 295).2.1 988 = .ok (.iload_n 3, 1) := by decide +kernel
theorem d_295_989 : decode (mth 295).2.1 989 = .ok (.iconst 2, 1) := by decide +kernel
theorem d_295_990 : decode (mth 295).2.1 990 = .ok (.iadd, 1) := by decide +kernel
theorem d_295_991 : decode (mth 295).2.1 991 = .ok (.iaload, 1) := by decide +kernel
theorem d_295_992 : decode (mth 295).2.1 992 = .ok (.invokevirtual 124, 3) := by decide +kernel
theorem d_295_995 : decode (mth 295).2.1 995 = .ok (.if_icmp .eq 740, 3) := by decide +kernel
theorem d_295_998 : decode (mth 295).2.1 998 = .ok (.iconst 0, 1) := by decide +kernel
theorem d_295_999 : decode (mth 295).2.1 999 = .ok (.ireturn, 1) := by decide +kernel
theorem d_295_1000 : decode (mth 295).2.1 1000 = .ok (.aload_n 1, 1) := by decide +kernel
theorem d_295_1001 : decode (mth 295).2.1 1001 = .ok (.aload_n 0, 1) := by decide +kernel
theorem d_295_1002 : decode (mth 295).2.1 1002 = .ok (.iload_n 3, 1) := by decide +kernel
theorem d_295_1003 : decode (mth 295).2.1 1003 = .ok (.iconst 1, 1) := by decide +kernel
theorem d_295_1004 : decode (mth 295).2.1 1004 = .ok (.iadd, 1) := by decide +kernel
theorem d_295_1005 : decode (mth 295).2.1 1005 = .ok (.iaload, 1) := by decide +kernel
theorem d_295_1006 : decode (mth 295).2.1 1006 = .ok (.invokevirtual 125, 3) := by decide +kernel
theorem d_295_1009 : decode (mth 295).2.1 1009 = .ok (.aload_n 2, 1) := by decide +kernel
theorem d_295_1010 : decode (mth 295).2.1 1010 = .ok (.aload_n 0, 1) := by decide +kernel
theorem d_295_1011 : decode (mth 295).2.1 1011 = .ok (.iload_n 3, 1) := by decide +kernel
theorem d_295_1012 : decode (mth 295).2.1 1012 = .ok (.iconst 1, 1) := by decide +kernel
theorem d_295_1013 : decode (mth 295).2.1 1013 = .ok (.iadd, 1) := by decide +kernel
theorem d_295_1014 : decode (mth 295).2.1 1014 = .ok (.iaload, 1) := by decide +kernel
theorem d_295_1015 : decode (mth 295).2.1 1015 = .ok (.invokevirtual 128, 3) := by decide +kernel
theorem d_295_1018 : decode (mth 295).2.1 1018 = .ok (.if_icmp .eq 717, 3) := by decide +kernel
theorem d_295_1021 : decode (mth 295).2.1 1021 = .ok (.iconst 0, 1) := by decide +kernel
theorem d_295_1022 : decode (mth 295).2.1 1022 = .ok (.ireturn, 1) := by decide +kernel
theorem d_295_1023 : decode (mth 295).2.1 1023 = .ok (.aload_n 1, 1) := by decide +kernel
theorem d_295_1024 : decode (mth 295).2.1 1024 = .ok (.aload_n 0, 1) := by decide +kernel
theorem d_295_1025 : decode (mth 295).2.1 1025 = .ok (.iload_n 3, 1) := by decide +kernel
theorem d_295_1026 : decode (mth 295).2.1 1026 = .ok (.iconst 1, 1) := by decide +kernel
theorem d_295_1027 : decode (mth 295).2.1 1027 = .ok (.iadd, 1) := by decide +kernel
theorem d_295_1028 : decode (mth 295).2.1 1028 = .ok (.iaload, 1) := by decide +kernel
theorem d_295_1029 : decode (mth 295).2.1 1029 = .ok (.invokevirtual 129, 3) := by decide +kernel
theorem d_295_1032 : decode (mth 295).2.1 1032 = .ok (.aload_n 2, 1) := by decide +kernel
theorem d_295_1033 : decode (mth 295).2.1 1033 = .ok (.aload_n 0, 1) := by decide +kernel
theorem d_295_1034 : decode (mth 295).2.1 1034 = .ok (.iload_n 3, 1) := by decide +kernel
theorem d_295_1035 : decode (mth 295).2.1 1035 = .ok (.iconst 1, 1) := by decide +kernel
theorem d_295_1036 : decode (mth 295).2.1 1036 = .ok (.iadd, 1) := by decide +kernel
theorem d_295_1037 : decode (mth 295).2.1 1037 = .ok (.iaload, 1) := by decide +kernel
theorem d_295_1038 : decode (mth 295).2.1 1038 = .ok (.invokevirtual 132, 3) := by decide +kernel
theorem d_295_1041 : decode (mth 295).2.1 1041 = .ok (.if_icmp .eq 694, 3) := by decide +kernel
theorem d_295_1044 : decode (mth 295).2.1 1044 = .ok (.iconst 0, 1) := by decide +kernel
theorem d_295_1045 : decode (mth 295).2.1 1045 = .ok (.ireturn, 1) := by decide +kernel
theorem d_295_1046 : decode (mth 295).2.1 1046 = .ok (.aload_n 1, 1) := by decide +kernel
theorem d_295_1047 : decode (mth 295).2.1 1047 = .ok (.aload_n 0, 1) := by decide +kernel
theorem d_295_1048 : decode (mth 295).2.1 1048 = .ok (.iload_n 3, 1) := by decide +kernel
theorem d_295_1049 : decode (mth 295).2.1 1049 = .ok (.iconst 1, 1) := by decide +kernel
theorem d_295_1050 : decode (mth 295).2.1 1050 = .ok (.iadd, 1) := by decide +kernel
theorem d_295_1051 : decode (mth 295).2.1 1051 = .ok (.iaload, 1) := by decide +kernel
theorem d_295_1052 : decode (mth 295).2.1 1052 = .ok (.aload_n 0, 1) := by decide +kernel
theorem d_295_1053 : decode (mth 295).2.1 1053 = .ok (.iload_n 3, 1) := by decide +kernel
theorem d_295_1054 : decode (mth 295).2.1 1054 = .ok (.iconst 2, 1) := by decide +kernel
theorem d_295_1055 : decode (mth 295).2.1 1055 = .ok (.iadd, 1) := by decide +kernel
theorem d_295_1056 : decode (mth 295).2.1 1056 = .ok (.iaload, 1) := by decide +kernel
theorem d_295_1057 : decode (mth 295).2.1 1057 = .ok (.aload_n 0, 1) := by decide +kernel
theorem d_295_1058 : decode (mth 295).2.1 1058 = .ok (.iload_n 3, 1) := by decide +kernel
theorem d_295_1059 : decode (mth 295).2.1 1059 = .ok (.iconst 3, 1) := by decide +kernel
theorem d_295_1060 : decode (mth 295).2.1 1060 = .ok (.iadd, 1) := by decide +kernel
theorem d_295_1061 : decode (mth 295).2.1 1061 = .ok (.iaload, 1) := by decide +kernel
theorem d_295_1062 : decode (mth 295).2.1 1062 = .ok (.aload_n 0, 1) := by decide +kernel
theorem d_295_1063 : decode (mth 295).2.1 1063 = .ok (.iload_n 3, 1) := by decide +kernel
theorem d_295_1064 : decode (mth 295).2.1 1064 = .ok (.iconst 4, 1) := by decide +kernel
theorem d_295_1065 : decode (mth 295).2.1 1065 = .ok (.iadd, 1) := by decide +kernel
theorem d_295_1066 : decode (mth 295).2.1 1066 = .ok (.iaload, 1) := by decide +kernel
theorem d_295_1067 : decode (mth 295).2.1 1067 = .ok (.invokevirtual 133, 3) := by decide +kernel
theorem d_295_1070 : decode (mth 295).2.1 1070 = .ok (.aload_n 2, 1) := by decide +kernel
theorem d_295_1071 : decode (mth 295).2.1 1071 = .ok (.aload_n 0, 1) := by decide +kernel
theorem d_295_1072 : decode (mth 295).2.1 1072 = .ok (.iload_n 3, 1) := by decide +kernel
theorem d_295_1073 : decode (mth 295).2.1 1073 = .ok (.iconst 1, 1) := by decide +kernel
theorem d_295_1074 : decode (mth 295).2.1 1074 = .ok (.iadd, 1) := by decide +kernel
theorem d_295_1075 : decode (mth 295).2.1 1075 = .ok (.iaload, 1) := by decide +kernel
theorem d_295_1076 : decode (mth 295).2.1 1076 = .ok (.aload_n 0, 1) := by decide +kernel
theorem d_295_1077 : decode (mth 295).2.1 1077 = .ok (.iload_n 3, 1) := by decide +kernel
theorem d_295_1078 : decode (mth 295).2.1 1078 = .ok (.iconst 2, 1) := by decide +kernel
theorem d_295_1079 : decode (mth 295).2.1 1079 = .ok (.iadd, 1) := by decide +kernel
theorem d_295_1080 : decode (mth 295).2.1 1080 = .ok (.iaload, 1) := by decide +kernel
theorem d_295_1081 : decode (mth 295).2.1 1081 = .ok (.aload_n 0, 1) := by decide +kernel
theorem d_295_1082 : decode (mth 295).2.1 1082 = .ok (.iload_n 3, 1) := by decide +kernel
theorem d_295_1083 : decode (mth 295).2.1 1083 = .ok (.iconst 3, 1) := by decide +kernel
theorem d_295_1084 : decode (mth 295).2.1 1084 = .ok (.iadd, 1) := by decide +kernel
theorem d_295_1085 : decode (mth 295).2.1 1085 = .ok (.iaload, 1) := by decide +kernel
theorem d_295_1086 : decode (mth 295).2.1 1086 = .ok (.aload_n 0, 1) := by decide +kernel
theorem d_295_1087 : decode (mth 295).2.1 1087 = .ok (.iload_n 3, 1) := by decide +kernel
theorem d_295_1088 : decode (mth 295).2.1 1088 = .ok (.iconst 4, 1) := by decide +kernel
theorem d_295_1089 : decode (mth 295).2.1 1089 = .ok (.iadd, 1) := by decide +kernel
theorem d_295_1090 : decode (mth 295).2.1 1090 = .ok (.iaload, 1) := by decide +kernel
theorem d_295_1091 : decode (mth 295).2.1 1091 = .ok (.invokevirtual 136, 3) := by decide +kernel
theorem d_295_1094 : decode (mth 295).2.1 1094 = .ok (.if_icmp .eq 641, 3) := by decide +kernel
theorem d_295_1097 : decode (mth 295).2.1 1097 = .ok (.iconst 0, 1) := by decide +kernel
theorem d_295_1098 : decode (mth 295).2.1 1098 = .ok (.ireturn, 1) := by decide +kernel
theorem d_295_1099 : decode (mth 295).2.1 1099 = .ok (.aload_n 1, 1) := by decide +kernel
theorem d_295_1100 : decode (mth 295).2.1 1100 = .ok (.invokevirtual 137, 3) := by decide +kernel
theorem d_295_1103 : decode (mth 295).2.1 1103 = .ok (.aload_n 2, 1) := by decide +kernel
theorem d_295_1104 : decode (mth 295).2.1 1104 = .ok (.invokevirtual 140, 3) := by decide +kernel
theorem d_295_1107 : decode (mth 295).2.1 1107 = .ok (.if_icmp .eq 628, 3) := by decide +kernel
theorem d_295_1110 : decode (mth 295).2.1 1110 = .ok (.iconst 0, 1) := by decide +kernel
theorem d_295_1111 : decode (mth 295).2.1 1111 = .ok (.ireturn, 1) := by decide +kernel
theorem d_295_1112 : decode (mth 295).2.1 1112 = .ok (.aload_n 1, 1) := by decide +kernel
theorem d_295_1113 : decode (mth 295).2.1 1113 = .ok (.aload_n 0, 1) := by decide +kernel
theorem d_295_1114 : decode (mth 295).2.1 1114 = .ok (.iload_n 3, 1) := by decide +kernel
theorem d_295_1115 : decode (mth 295).2.1 1115 = .ok (.iconst 1, 1) := by decide +kernel
theorem d_295_1116 : decode (mth 295).2.1 1116 = .ok (.iadd, 1) := by decide +kernel
theorem d_295_1117 : decode (mth 295).2.1 1117 = .ok (.iaload, 1) := by decide +kernel
theorem d_295_1118 : decode (mth 295).2.1 1118 = .ok (.invokevirtual 141, 3) := by decide +kernel
theorem d_295_1121 : decode (mth 295).2.1 1121 = .ok (.aload_n 2, 1) := by decide +kernel
theorem d_295_1122 : decode (mth 295).2.1 1122 = .ok (.aload_n 0, 1) := by decide +kernel
theorem d_295_1123 : decode (mth 295).2.1 1123 = .ok (.iload_n 3, 1) := by decide +kernel
theorem d_295_1124 : decode (mth 295).2.1 1124 = .ok (.iconst 1, 1) := by decide +kernel
theorem d_295_1125 : decode (mth 295).2.1 1125 = .ok (.iadd, 1) := by decide +kernel
theorem d_295_1126 : decode (mth 295).2.1 1126 = .ok (.iaload, 1) := by decide +kernel
theorem d_295_1127 : decode (mth 295).2.1 1127 = .ok (.invokevirtual 144, 3) := by decide +kernel
theorem d_295_1130 : decode (mth 295).2.1 1130 = .ok (.if_icmp .eq 605, 3) := by decide +kernel
theorem d_295_1133 : decode (mth 295).2.1 1133 = .ok (.iconst 0, 1) := by decide +kernel
theorem d_295_1134 : decode (mth 295).2.1 1134 = .ok (.ireturn, 1) := by decide +kernel
theorem d_295_1135 : decode (mth 295).2.1 1135 = .ok (.aload_n 1, 1) := by decide +kernel
theorem d_295_1136 : decode (mth 295).2.1 1136 = .ok (.invokevirtual 145, 3) := by decide +kernel
theorem d_295_1139 : decode (mth 295).2.1 1139 = .ok (.aload_n 2, 1) := by decide +kernel
theorem d_295_1140 : decode (mth 295).2.1 1140 = .ok (.invokevirtual 148, 3) := by decide +kernel
theorem d_295_1143 : decode (mth 295).2.1 1143 = .ok (.if_icmp .eq 592, 3) := by decide +kernel
theorem d_295_1146 : decode (mth 295).2.1 1146 = .ok (.iconst 0, 1) := by decide +kernel
theorem d_295_1147 : decode (mth 295).2.1 1147 = .ok (.ireturn, 1) := by decide +kernel
theorem d_295_1148 : decode (mth 295).2.1 1148 = .ok (.aload_n 1, 1) := by decide +kernel
theorem d_295_1149 : decode (mth 295).2.1 1149 = .ok (.aload_n 0, 1) := by decide +kernel
theorem d_295_1150 : decode (mth 295).2.1 1150 = .ok (.iload_n 3, 1) := by decide +kernel
theorem d_295_1151 : decode (mth 295).2.1 1151 = .ok (.iconst 1, 1) := by decide +kernel
theorem d_295_1152 : decode (mth 295).2.1 1152 = .ok (.iadd, 1) := by decide +kernel
theorem d_295_1153 : decode (mth 295).2.1 1153 = .ok (.iaload, 1) := by decide +kernel
theorem d_295_1154 : decode (mth 295).2.1 1154 = .ok (.invokevirtual 149, 3) := by decide +kernel
theorem d_295_1157 : decode (mth 295).2.1 1157 = .ok (.aload_n 2, 1) := by decide +kernel
theorem d_295_1158 : decode (mth 295).2.1 1158 = .ok (.aload_n 0, 1) := by decide +kernel
theorem d_295_1159 : decode (mth 295).2.1 1159 = .ok (.iload_n 3, 1) := by decide +kernel
theorem d_295_1160 : decode (mth 295).2.1 1160 = .ok (.iconst 1, 1) := by decide +kernel
theorem d_295_1161 : decode (mth 295).2.1 1161 = .ok (.iadd, 1) := by decide +kernel
theorem d_295_1162 : decode (mth 295).2.1 1162 = .ok (.iaload, 1) := by decide +kernel
theorem d_295_1163 : decode (mth 295).2.1 1163 = .ok (.invokevirtual 152, 3) := by decide +kernel
theorem d_295_1166 : decode (mth 295).2.1 1166 = .ok (.if_icmp .eq 569, 3) := by decide +kernel
theorem d_295_1169 : decode (mth 295).2.1 1169 = .ok (.iconst 0, 1) := by decide +kernel
theorem d_295_1170 : decode (mth 295).2.1 1170 = .ok (.ireturn, 1) := by decide +kernel
theorem d_295_1171 : decode (mth 295).2.1 1171 = .ok (.aload_n 1, 1) := by decide +kernel
theorem d_295_1172 : decode (mth 295).2.1 1172 = .ok (.invokevirtual 153, 3) := by decide +kernel
theorem d_295_1175 : decode (mth 295).2.1 1175 = .ok (.aload_n 2, 1) := by decide +kernel
theorem d_295_1176 : decode (mth 295).2.1 1176 = .ok (.invokevirtual 156, 3) := by decide +kernel
theorem d_295_1179 : decode (mth 295).2.1 1179 = .ok (.if_icmp .eq 556, 3) := by decide +kernel
theorem d_295_1182 : decode (mth 295).2.1 1182 = .ok (.iconst 0, 1) := by decide +kernel
theorem d_295_1183 : decode (mth 295).2.1 1183 = .ok (.ireturn, 1) := by decide +kernel
theorem d_295_1184 : decode (mth 295).2.1 1184 = .ok (.aload_n 1, 1) := by decide +kernel
theorem d_295_1185 : decode (mth 295).2.1 1185 = .ok (.aload_n 0, 1) := by decide +kernel
theorem d_295_1186 : decode (mth 295).2.1 1186 = .ok (.iload_n 3, 1) := by decide +kernel
theorem d_295_1187 : decode (mth 295).2.1 1187 = .ok (.iconst 1, 1) := by decide +kernel
theorem d_295_1188 : decode (mth 295).2.1 1188 = .ok (.iadd, 1) := by decide +kernel
theorem d_295_1189 : decode (mth 295).2.1 1189 = .ok (.iaload, 1) := by decide +kernel
theorem d_295_1190 : decode (mth 295).2.1 1190 = .ok (.aload_n 0, 1) := by decide +kernel
theorem d_295_1191 : decode (mth 295).2.1 1191 = .ok (.iload_n 3, 1) := by decide +kernel
theorem d_295_1192 : decode (mth 295).2.1 1192 = .ok (.iconst 2, 1) := by decide +kernel
theorem d_295_1193 : decode (mth 295).2.1 1193 = .ok (.iadd, 1) := by decide +kernel
theorem d_295_1194 : decode (mth 295).2.1 1194 = .ok (.iaload, 1) := by decide +kernel
theorem d_295_1195 : decode (mth 295).2.1 1195 = .ok (.invokevirtual 157, 3) := by decide +kernel
theorem d_295_1198 : decode (mth 295).2.1 1198 = .ok (.aload_n 2, 1) := by decide +kernel
theorem d_295_1199 : decode (mth 295).2.1 1199 = .ok (.aload_n 0, 1) := by decide +kernel
theorem d_295_1200 : decode (mth 295).2.1 1200 = .ok (.iload_n 3, 1) := by decide +kernel
theorem d_295_1201 : decode (mth 295).2.1 1201 = .ok (.iconst 1, 1) := by decide +kernel
theorem d_295_1202 : decode (mth 295).2.1 1202 = .ok (.iadd, 1) := by decide +kernel
theorem d_295_1203 : decode (mth 295).2.1 1203 = .ok (.iaload, 1) := by decide +kernel
theorem d_295_1204 : decode (mth 295).2.1 1204 = .ok (.aload_n 0, 1) := by decide +kernel
theorem d_295_1205 : decode (mth 295).2.1 1205 = .ok (.iload_n 3, 1) := by decide +kernel
theorem d_295_1206 : decode (mth 295).2.1 1206 = .ok (.iconst 2, 1) := by decide +kernel
theorem d_295_1207 : decode (mth 295).2.1 1207 = .ok (.iadd, 1) := by decide +kernel
theorem d_295_1208 : decode (mth 295).2.1 1208 = .ok (.iaload, 1) := by decide +kernel
theorem d_295_1209 : decode (mth 295).2.1 1209 = .ok (.invokevirtual 160, 3) := by decide +kernel
theorem d_295_1212 : decode (mth 295).2.1 1212 = .ok (.if_icmp .eq 523, 3) := by decide +kernel
theorem d_295_1215 : decode (mth 295).2.1 1215 = .ok (.iconst 0, 1) := by decide +kernel
theorem d_295_1216 : decode (mth 295).2.1 1216 = .ok (.ireturn, 1) := by decide +kernel
theorem d_295_1217 : decode (mth 295).2.1 1217 = .ok (.aload_n 1, 1) := by decide +kernel
theorem d_295_1218 : decode (mth 295).2.1 1218 = .ok (.aload_n 0, 1) := by decide +kernel
theorem d_295_1219 : decode (mth 295).2.1 1219 = .ok (.iload_n 3, 1) := by decide +kernel
theorem d_295_1220 : decode (mth 295).2.1 1220 = .ok (.iconst 1, 1) := by decide +kernel
theorem d_295_1221 : decode (mth 295).2.1 1221 = .ok (.iadd, 1) := by decide +kernel
theorem d_295_1222 : decode (mth 295).2.1 1222 = .ok (.iaload, 1) := by decide +kernel
theorem d_295_1223 : decode (mth 295).2.1 1223 = .ok (.invokevirtual 161, 3) := by decide +kernel
theorem d_295_1226 : decode (mth 295).2.1 1226 = .ok (.aload_n 2, 1) := by decide +kernel
theorem d_295_1227 : decode (mth 295).2.1 1227 = .ok (.aload_n 0, 1) := by decide +kernel
theorem d_295_1228 : decode (mth 295).2.1 1228 = .ok (.iload_n 3, 1) := by decide +kernel
theorem d_295_1229 : decode (mth 295).2.1 1229 = .ok (.iconst 1, 1) := by decide +kernel
theorem d_295_1230 : decode (mth 295).2.1 1230 = .ok (.iadd, 1) := by decide +kernel
theorem d_295_1231 : decode (mth 295).2.1 1231 = .ok (.iaload, 1) := by decide +kernel
theorem d_295_1232 : decode (mth 295).2.1 1232 = .ok (.invokevirtual 164, 3) := by decide +kernel
theorem d_295_1235 : decode (mth 295).2.1 1235 = .ok (.if_icmp .eq 500, 3) := by decide +kernel
theorem d_295_1238 : decode (mth 295).2.1 1238 = .ok (.iconst 0, 1) := by decide +kernel
theorem d_295_1239 : decode (mth 295).2.1 1239 = .ok (.ireturn, 1) := by decide +kernel
theorem d_295_1240 : decode (mth 295).2.1 1240 = .ok (.aload_n 1, 1) := by decide +kernel
theorem d_295_1241 : decode (mth 295).2.1 1241 = .ok (.aload_n 0, 1) := by decide +kernel
theorem d_295_1242 : decode (mth 295).2.1 1242 = .ok (.iload_n 3, 1) := by decide +kernel
theorem d_295_1243 : decode (mth 295).2.1 1243 = .ok (.iconst 1, 1) := by decide +kernel
theorem d_295_1244 : decode (mth 295).2.1 1244 = .ok (.iadd, 1) := by decide +kernel
theorem d_295_1245 : decode (mth 295).2.1 1245 = .ok (.iaload, 1) := by decide +kernel
theorem d_295_1246 : decode (mth 295).2.1 1246 = .ok (.aload_n 0, 1) := by decide +kernel
theorem d_295_1247 : decode (mth 295).2.1 1247 = .ok (.iload_n 3, 1) := by decide +kernel
theorem d_295_1248 : decode (mth 295).2.1 1248 = .ok (.iconst 2, 1) := by decide +kernel
theorem d_295_1249 : decode (mth 295).2.1 1249 = .ok (.iadd, 1) := by decide +kernel
theorem d_295_1250 : decode (mth 295).2.1 1250 = .ok (.iaload, 1) := by decide +kernel
theorem d_295_1251 : decode (mth 295).2.1 1251 = .ok (.invokevirtual 165, 3) := by decide +kernel
theorem d_295_1254 : decode (mth 295).2.1 1254 = .ok (.aload_n 2, 1) := by decide +kernel
theorem d_295_1255 : decode (mth 295).2.1 1255 = .ok (.aload_n 0, 1) := by decide +kernel
theorem d_295_1256 : decode (mth 295).2.1 1256 = .ok (.iload_n 3, 1) := by decide +kernel
theorem d_295_1257 : decode (mth 295).2.1 1257 = .ok (.iconst 1, 1) := by decide +kernel
theorem d_295_1258 : decode (mth 295).2.1 1258 = .ok (.iadd, 1) := by decide +kernel
theorem d_295_1259 : decode (mth 295).2.1 1259 = .ok (.iaload, 1) := by decide +kernel
theorem d_295_1260 : decode (mth 295).2.1 1260 = .ok (.aload_n 0, 1) := by decide +kernel
theorem d_295_1261 : decode (mth 295).2.1 1261 = .ok (.iload_n 3, 1) := by decide +kernel
theorem d_295_1262 : decode (mth 295).2.1 1262 = .ok (.iconst 2, 1) := by decide +kernel
theorem d_295_1263 : decode (mth 295).2.1 1263 = .ok (.iadd, 1) := by decide +kernel
theorem d_295_1264 : decode (mth 295).2.1 1264 = .ok (.iaload, 1) := by decide +kernel
theorem d_295_1265 : decode (mth 295).2.1 1265 = .ok (.invokevirtual 168, 3) := by decide +kernel
theorem d_295_1268 : decode (mth 295).2.1 1268 = .ok (.if_icmp .eq 467, 3) := by decide +kernel
theorem d_295_1271 : decode (mth 295).2.1 1271 = .ok (.iconst 0, 1) := by decide +kernel
theorem d_295_1272 : decode (mth 295).2.1 1272 = .ok (.ireturn, 1) := by decide +kernel
theorem d_295_1273 : decode (mth 295).2.1 1273 = .ok (.aload_n 1, 1) := by decide +kernel
theorem d_295_1274 : decode (mth 295).2.1 1274 = .ok (.aload_n 0, 1) := by decide +kernel
theorem d_295_1275 : decode (mth 295).2.1 1275 = .ok (.iload_n 3, 1) := by decide +kernel
theorem d_295_1276 : decode (mth 295).2.1 1276 = .ok (.iconst 1, 1) := by decide +kernel
theorem d_295_1277 : decode (mth 295).2.1 1277 = .ok (.iadd, 1) := by decide +kernel
theorem d_295_1278 : decode (mth 295).2.1 1278 = .ok (.iaload, 1) := by decide +kernel
theorem d_295_1279 : decode (mth 295).2.1 1279 = .ok (.aload_n 0, 1) := by decide +kernel
theorem d_295_1280 : decode (mth 295).2.1 1280 = .ok (.iload_n 3, 1) := by decide +kernel
theorem d_295_1281 : decode (mth 295).2.1 1281 = .ok (.iconst 2, 1) := by decide +kernel
theorem d_295_1282 : decode (mth 295).2.1 1282 = .ok (.iadd, 1) := by decide +kernel
theorem d_295_1283 : decode (mth 295).2.1 1283 = .ok (.iaload, 1) := by decide +kernel
theorem d_295_1284 : decode (mth 295).2.1 1284 = .ok (.aload_n 0, 1) := by decide +kernel
theorem d_295_1285 : decode (mth 295).2.1 1285 = .ok (.iload_n 3, 1) := by decide +kernel
theorem d_295_1286 : decode (mth 295).2.1 1286 = .ok (.iconst 3, 1) := by decide +kernel
theorem d_295_1287 : decode (mth 295).2.1 1287 = .ok (.iadd, 1) := by decide +kernel
theorem d_295_1288 : decode (mth 295).2.1 1288 = .ok (.iaload, 1) := by decide +kernel
theorem d_295_1289 : decode (mth 295).2.1 1289 = .ok (.invokevirtual 169, 3) := by decide +kernel
theorem d_295_1292 : decode (mth 295).2.1 1292 = .ok (.aload_n 2, 1) := by decide +kernel
theorem d_295_1293 : decode (mth 295).2.1 1293 = .ok (.aload_n 0, 1) := by decide +kernel
theorem d_295_1294 : decode (mth 295).2.1 1294 = .ok (.iload_n 3, 1) := by decide +kernel
theorem d_295_1295 : decode (mth 295).2.1 1295 = .ok (.iconst 1, 1) := by decide +kernel
theorem d_295_1296 : decode (mth 295).2.1 1296 = .ok (.iadd, 1) := by decide +kernel
theorem d_295_1297 : decode (mth 295).2.1 1297 = .ok (.iaload, 1) := by decide +kernel
theorem d_295_1298 : decode (mth 295).2.1 1298 = .ok (.aload_n 0, 1) := by decide +kernel
theorem d_295_1299 : decode (mth 295).2.1 1299 = .ok (.iload_n 3, 1) := by decide +kernel
theorem d_295_1300 : decode (mth 295).2.1 1300 = .ok (.iconst 2, 1) := by decide +kernel
theorem d_295_1301 : decode (mth 295).2.1 1301 = .ok (.iadd, 1) := by decide +kernel
theorem d_295_1302 : decode (mth 295).2.1 1302 = .ok (.iaload, 1) := by decide +kernel
theorem d_295_1303 : decode (mth 295).2.1 1303 = .ok (.aload_n 0, 1) := by decide +kernel
theorem d_295_1304 : decode (mth 295).2.1 1304 = .ok (.iload_n 3, 1) := by decide +kernel
theorem d_295_1305 : decode (mth 295).2.1 1305 = .ok (.iconst 3, 1) := by decide +kernel
theorem d_295_1306 : decode (mth 295).2.1 1306 = .ok (.iadd, 1) := by decide +kernel
theorem d_295_1307 : decode (mth 295).2.1 1307 = .ok (.iaload, 1) := by decide +kernel
theorem d_295_1308 : decode (mth 295).2.1 1308 = .ok (.invokevirtual 172, 3) := by decide +kernel
theorem d_295_1311 : decode (mth 295).2.1 1311 = .ok (.if_icmp .eq 424, 3) := by decide +kernel
theorem d_295_1314 : decode (mth 295).2.1 1314 = .ok (.iconst 0, 1) := by decide +kernel
theorem d_295_1315 : decode (mth 295).2.1 1315 = .ok (.ireturn, 1) := by decide +kernel
theorem d_295_1316 : decode (mth 295).2.1 1316 = .ok (.aload_n 1, 1) := by decide +kernel
theorem d_295_1317 : decode (mth 295).2.1 1317 = .ok (.invokevirtual 173, 3) := by decide +kernel
theorem d_295_1320 : decode (mth 295).2.1 1320 = .ok (.aload_n 2, 1) := by decide +kernel
theorem d_295_1321 : decode (mth 295).2.1 1321 = .ok (.invokevirtual 176, 3) := by decide +kernel
theorem d_295_1324 : decode (mth 295).2.1 1324 = .ok (.if_icmp .eq 411, 3) := by decide +kernel
theorem d_295_1327 : decode (mth 295).2.1 1327 = .ok (.iconst 0, 1) := by decide +kernel
theorem d_295_1328 : decode (mth 295).2.1 1328 = .ok (.ireturn, 1) := by decide +kernel
theorem d_295_1329 : decode (mth 295).2.1 1329 = .ok (.aload_n 1, 1) := by decide +kernel
theorem d_295_1330 : decode (mth 295).2.1 1330 = .ok (.aload_n 0, 1) := by decide +kernel
theorem d_295_1331 : decode (mth 295).2.1 1331 = .ok (.iload_n 3, 1) := by decide +kernel
theorem d_295_1332 : decode (mth 295).2.1 1332 = .ok (.iconst 1, 1) := by decide +kernel
theorem d_295_1333 : decode (mth 295).2.1 1333 = .ok (.iadd, 1) := by decide +kernel
theorem d_295_1334 : decode (mth 295).2.1 1334 = .ok (.iaload, 1) := by decide +kernel
theorem d_295_1335 : decode (mth 295).2.1 1335 = .ok (.aload_n 0, 1) := by decide +kernel
theorem d_295_1336 : decode (mth 295).2.1 1336 = .ok (.iload_n 3, 1) := by decide +kernel
theorem d_295_1337 : decode (mth 295).2.1 1337 = .ok (.iconst 2, 1) := by decide +kernel
theorem d_295_1338 : decode (mth 295).2.1 1338 = .ok (.iadd, 1) := by decide +kernel
theorem d_295_1339 : decode (mth 295).2.1 1339 = .ok (.iaload, 1) := by decide +kernel
theorem d_295_1340 : decode (mth 295).2.1 1340 = .ok (.aload_n 0, 1) := by decide +kernel
theorem d_295_1341 : decode (mth 295).2.1 1341 = .ok (.iload_n 3, 1) := by decide +kernel
theorem d_295_1342 : decode (mth 295).2.1 1342 = .ok (.iconst 3, 1) := by decide +kernel
theorem d_295_1343 : decode (mth 295).2.1 1343 = .ok (.iadd, 1) := by decide +kernel
theorem d_295_1344 : decode (mth 295).2.1 1344 = .ok (.iaload, 1) := by decide +kernel
theorem d_295_1345 : decode (mth 295).2.1 1345 = .ok (.invokevirtual 177, 3) := by decide +kernel
theorem d_295_1348 : decode (mth 295).2.1 1348 = .ok (.aload_n 2, 1) := by decide +kernel
theorem d_295_1349 : decode (mth 295).2.1 1349 = .ok (.aload_n 0, 1) := by decide +kernel
theorem d_295_1350 : decode (mth 295).2.1 1350 = .ok (.iload_n 3, 1) := by decide +kernel
theorem d_295_1351 : decode (mth 295).2.1 1351 = .ok (.iconst 1, 1) := by decide +kernel
theorem d_295_1352 : decode (mth 295).2.1 1352 = .ok (.iadd, 1) := by decide +kernel
theorem d_295_1353 : decode (mth 295).2.1 1353 = .ok (.iaload, 1) := by decide +kernel
theorem d_295_1354 : decode (mth 295).2.1 1354 = .ok (.aload_n 0, 1) := by decide +kernel
theorem d_295_1355 : decode (mth 295).2.1 1355 = .ok (.iload_n 3, 1) := by decide +kernel
theorem d_295_1356 : decode (mth 295).2.1 1356 = .ok (.iconst 2, 1) := by decide +kernel
theorem d_295_1357 : decode (mth 295).2.1 1357 = .ok (.iadd, 1) := by decide +kernel
theorem d_295_1358 : decode (mth 295).2.1 1358 = .ok (.iaload, 1) := by decide +kernel
theorem d_295_1359 : decode (mth 295).2.1 1359 = .ok (.aload_n 0, 1) := by decide +kernel
theorem d_295_1360 : decode (mth 295).2.1 1360 = .ok (.iload_n 3, 1) := by decide +kernel
theorem d_295_1361 : decode (mth 295).2.1 1361 = .ok (.iconst 3, 1) := by decide +kernel
theorem d_295_1362 : decode (mth 295).2.1 1362 = .ok (.iadd, 1) := by decide +kernel
theorem d_295_1363 : decode (mth 295).2.1 1363 = .ok (.iaload, 1) := by decide +kernel
theorem d_295_1364 : decode (mth 295).2.1 1364 = .ok (.invokevirtual 180, 3) := by decide +kernel
theorem d_295_1367 : decode (mth 295).2.1 1367 = .ok (.if_icmp .eq 368, 3) := by decide +kernel
theorem d_295_1370 : decode (mth 295).2.1 1370 = .ok (.iconst 0, 1) := by decide +kernel
theorem d_295_1371 : decode (mth 295).2.1 1371 = .ok (.ireturn, 1) := by decide +kernel
theorem d_295_1372 : decode (mth 295).2.1 1372 = .ok (.aload_n 1, 1) := by decide +kernel
theorem d_295_1373 : decode (mth 295).2.1 1373 = .ok (.aload_n 0, 1) := by decide +kernel
theorem d_295_1374 : decode (mth 295).2.1 1374 = .ok (.iload_n 3, 1) := by decide +kernel
theorem d_295_1375 : decode (mth 295).2.1 1375 = .ok (.iconst 1, 1) := by decide +kernel
theorem d_295_1376 : decode (mth 295).2.1 1376 = .ok (.iadd, 1) := by decide +kernel
theorem d_295_1377 : decode (mth 295).2.1 1377 = .ok (.iaload, 1) := by decide +kernel
theorem d_295_1378 : decode (mth 295).2.1 1378 = .ok (.aload_n 0, 1) := by decide +kernel
theorem d_295_1379 : decode (mth 295).2.1 1379 = .ok (.iload_n 3, 1) := by decide +kernel
theorem d_295_1380 : decode (mth 295).2.1 1380 = .ok (.iconst 2, 1) := by decide +kernel
theorem d_295_1381 : decode (mth 295).2.1 1381 = .ok (.iadd, 1) := by decide +kernel
theorem d_295_1382 : decode (mth 295).2.1 1382 = .ok (.iaload, 1) := by decide +kernel
theorem d_295_1383 : decode (mth 295).2.1 1383 = .ok (.aload_n 0, 1) := by decide +kernel
theorem d_295_1384 : decode (mth 295).2.1 1384 = .ok (.iload_n 3, 1) := by decide +kernel
theorem d_295_1385 : decode (mth 295).2.1 1385 = .ok (.iconst 3, 1) := by decide +kernel
theorem d_295_1386 : decode (mth 295).2.1 1386 = .ok (.iadd, 1) := by decide +kernel
theorem d_295_1387 : decode (mth 295).2.1 1387 = .ok (.iaload, 1) := by decide +kernel
theorem d_295_1388 : decode (mth 295).2.1 1388 = .ok (.invokevirtual 181, 3) := by decide +kernel
theorem d_295_1391 : decode (mth 295).2.1 1391 = .ok (.aload_n 2, 1) := by decide +kernel
theorem d_295_1392 : decode (mth 295).2.1 1392 = .ok (.aload_n 0, 1) := by decide +kernel
theorem d_295_1393 : decode (mth 295).2.1 1393 = .ok (.iload_n 3, 1) := by decide +kernel
theorem d_295_1394 : decode (mth 295).2.1 1394 = .ok (.iconst 1, 1) := by decide +kernel
theorem d_295_1395 : decode (mth 295).2.1 1395 = .ok (.iadd, 1) := by decide +kernel
theorem d_295_1396 : decode (mth 295).2.1 1396 = .ok (.iaload, 1) := by decide +kernel
theorem d_295_1397 : decode (mth 295).2.1 1397 = .ok (.aload_n 0, 1) := by decide +kernel
theorem d_295_1398 : decode (mth 295).2.1 1398 = .ok (.iload_n 3, 1) := by decide +kernel
theorem d_295_1399 : decode (mth 295).2.1 1399 = .ok (.iconst 2, 1) := by decide +kernel
theorem d_295_1400 : decode (mth 295).2.1 1400 = .ok (.iadd, 1) := by decide +kernel
theorem d_295_1401 : decode (mth 295).2.1 1401 = .ok (.iaload, 1) := by decide +kernel
theorem d_295_1402 : decode (mth 295).2.1 1402 = .ok (.aload_n 0, 1) := by decide +kernel
theorem d_295_1403 : decode (mth 295).2.1 1403 = .ok (.iload_n 3, 1) := by decide +kernel
theorem d_295_1404 : decode (mth 295).2.1 1404 = .ok (.iconst 3, 1) := by decide +kernel
theorem d_295_1405 : decode (mth 295).2.1 1405 = .ok (.iadd, 1) := by decide +kernel
theorem d_295_1406 : decode (mth 295).2.1 1406 = .ok (.iaload, 1) := by decide +kernel
theorem d_295_1407 : decode (mth 295).2.1 1407 = .ok (.invokevirtual 184, 3) := by decide +kernel
theorem d_295_1410 : decode (mth 295).2.1 1410 = .ok (.if_icmp .eq 325, 3) := by decide +kernel
theorem d_295_1413 : decode (mth 295).2.1 1413 = .ok (.iconst 0, 1) := by decide +kernel
theorem d_295_1414 : decode (mth 295).2.1 1414 = .ok (.ireturn, 1) := by decide +kernel
theorem d_295_1415 : decode (mth 295).2.1 1415 = .ok (.aload_n 1, 1) := by decide +kernel
theorem d_295_1416 : decode (mth 295).2.1 1416 = .ok (.aload_n 0, 1) := by decide +kernel
theorem d_295_1417 : decode (mth 295).2.1 1417 = .ok (.iload_n 3, 1) := by decide +kernel
theorem d_295_1418 : decode (mth 295).2.1 1418 = .ok (.iconst 1, 1) := by decide +kernel
theorem d_295_1419 : decode (mth 295).2.1 1419 = .ok (.iadd, 1) := by decide +kernel
theorem d_295_1420 : decode (mth 295).2.1 1420 = .ok (.iaload, 1) := by decide +kernel
theorem d_295_1421 : decode (mth 295).2.1 1421 = .ok (.aload_n 0, 1) := by decide +kernel
theorem d_295_1422 : decode (mth 295).2.1 1422 = .ok (.iload_n 3, 1) := by decide +kernel
theorem d_295_1423 : decode (mth 295).2.1 1423 = .ok (.iconst 2, 1) := by decide +kernel
theorem d_295_1424 : decode (mth 295).2.1 1424 = .ok (.iadd, 1) := by decide +kernel
theorem d_295_1425 : decode (mth 295).2.1 1425 = .ok (.iaload, 1) := by decide +kernel
theorem d_295_1426 : decode (mth 295).2.1 1426 = .ok (.aload_n 0, 1) := by decide +kernel
theorem d_295_1427 : decode (mth 295).2.1 1427 = .ok (.iload_n 3, 1) := by decide +kernel
theorem d_295_1428 : decode (mth 295).2.1 1428 = .ok (.iconst 3, 1) := by decide +kernel
theorem d_295_1429 : decode (mth 295).2.1 1429 = .ok (.iadd, 1) := by decide +kernel
theorem d_295_1430 : decode (mth 295).2.1 1430 = .ok (.iaload, 1) := by decide +kernel
theorem d_295_1431 : decode (mth 295).2.1 1431 = .ok (.invokevirtual 185, 3) := by decide +kernel
theorem d_295_1434 : decode (mth 295).2.1 1434 = .ok (.aload_n 2, 1) := by decide +kernel
theorem d_295_1435 : decode (mth 295).2.1 1435 = .ok (.aload_n 0, 1) := by decide +kernel
theorem d_295_1436 : decode (mth 295).2.1 1436 = .ok (.iload_n 3, 1) := by decide +kernel
theorem d_295_1437 : decode (mth 295).2.1 1437 = .ok (.iconst 1, 1) := by decide +kernel
theorem d_295_1438 : decode (mth 295).2.1 1438 = .ok (.iadd, 1) := by decide +kernel
theorem d_295_1439 : decode (mth 295).2.1 1439 = .ok (.iaload, 1) := by decide +kernel
theorem d_295_1440 : decode (mth 295).2.1 1440 = .ok (.aload_n 0, 1) := by decide +kernel
theorem d_295_1441 : decode (mth 295).2.1 1441 = .ok (.iload_n 3, 1) := by decide +kernel
theorem d_295_1442 : decode (mth 295).2.1 1442 = .ok (.iconst 2, 1) := by decide +kernel
theorem d_295_1443 : decode (mth 295).2.1 1443 = .ok (.iadd, 1) := by decide +kernel
theorem d_295_1444 : decode (mth 295).2.1 1444 = .ok (.iaload, 1) := by decide +kernel
theorem d_295_1445 : decode (mth 295).2.1 1445 = .ok (.aload_n 0, 1) := by decide +kernel
theorem d_295_1446 : decode (mth 295).2.1 1446 = .ok (.iload_n 3, 1) := by decide +kernel
theorem d_295_1447 : decode (mth 295).2.1 1447 = .ok (.iconst 3, 1) := by decide +kernel
theorem d_295_1448 : decode (mth 295).2.1 1448 = .ok (.iadd, 1) := by decide +kernel
theorem d_295_1449 : decode (mth 295).2.1 1449 = .ok (.iaload, 1) := by decide +kernel
theorem d_295_1450 : decode (mth 295).2.1 1450 = .ok (.invokevirtual 188, 3) := by decide +kernel
theorem d_295_1453 : decode (mth 295).2.1 1453 = .ok (.if_icmp .eq 282, 3) := by decide +kernel
theorem d_295_1456 : decode (mth 295).2.1 1456 = .ok (.iconst 0, 1) := by decide +kernel
theorem d_295_1457 : decode (mth 295).2.1 1457 = .ok (.ireturn, 1) := by decide +kernel
theorem d_295_1458 : decode (mth 295).2.1 1458 = .ok (.aload_n 1, 1) := by decide +kernel
theorem d_295_1459 : decode (mth 295).2.1 1459 = .ok (.aload_n 0, 1) := by decide +kernel
theorem d_295_1460 : decode (mth 295).2.1 1460 = .ok (.iload_n 3, 1) := by decide +kernel
theorem d_295_1461 : decode (mth 295).2.1 1461 = .ok (.iconst 1, 1) := by decide +kernel
theorem d_295_1462 : decode (mth 295).2.1 1462 = .ok (.iadd, 1) := by decide +kernel
theorem d_295_1463 : decode (mth 295).2.1 1463 = .ok (.iaload, 1) := by decide +kernel
theorem d_295_1464 : decode (mth 295).2.1 1464 = .ok (.aload_n 0, 1) := by decide +kernel
theorem d_295_1465 : decode (mth 295).2.1 1465 = .ok (.iload_n 3, 1) := by decide +kernel
theorem d_295_1466 : decode (mth 295).2.1 1466 = .ok (.iconst 2, 1) := by decide +kernel
theorem d_295_1467 : decode (mth 295).2.1 1467 = .ok (.iadd, 1) := by decide +kernel
theorem d_295_1468 : decode (mth 295).2.1 1468 = .ok (.iaload, 1) := by decide +kernel
theorem d_295_1469 : decode (mth 295).2.1 1469 = .ok (.aload_n 0, 1) := by decide +kernel
theorem d_295_1470 : decode (mth 295).2.1 1470 = .ok (.iload_n 3, 1) := by decide +kernel
theorem d_295_1471 : decode (mth 295).2.1 1471 = .ok (.iconst 3, 1) := by decide +kernel
theorem d_295_1472 : decode (mth 295).2.1 1472 = .ok (.iadd, 1) := by decide +kernel
theorem d_295_1473 : decode (mth 295).2.1 1473 = .ok (.iaload, 1) := by decide +kernel
theorem d_295_1474 : decode (mth 295).2.1 1474 = .ok (.invokevirtual 189, 3) := by decide +kernel
theorem d_295_1477 : decode (mth 295).2.1 1477 = .ok (.aload_n 2, 1) := by decide +kernel
theorem d_295_1478 : decode (mth 295).2.1 1478 = .ok (.aload_n 0, 1) := by decide +kernel
theorem d_295_1479 : decode (mth 295).2.1 1479 = .ok (.iload_n 3, 1) := by decide +kernel
theorem d_295_1480 : decode (mth 295).2.1 1480 = .ok (.iconst 1, 1) := by decide +kernel
theorem d_295_1481 : decode (mth 295).2.1 1481 = .ok (.iadd, 1) := by decide +kernel
theorem d_295_1482 : decode (mth 295).2.1 1482 = .ok (.iaload, 1) := by decide +kernel
theorem d_295_1483 : decode (mth 295).2.1 1483 = .ok (.aload_n 0, 1) := by decide +kernel
theorem d_295_1484 : decode (mth 295).2.1 1484 = .ok (.iload_n 3, 1) := by decide +kernel
theorem d_295_1485 : decode (mth 295).2.1 1485 = .ok (.iconst 2, 1) := by decide +kernel
theorem d_295_1486 : decode (mth 295).2.1 1486 = .ok (.iadd, 1) := by decide +kernel
theorem d_295_1487 : decode (mth 295).2.1 1487 = .ok (.iaload, 1) := by decide +kernel
theorem d_295_1488 : decode (mth 295).2.1 1488 = .ok (.aload_n 0, 1) := by decide +kernel
theorem d_295_1489 : decode (mth 295).2.1 1489 = .ok (.iload_n 3, 1) := by decide +kernel
theorem d_295_1490 : decode (mth 295).2.1 1490 = .ok (.iconst 3, 1) := by decide +kernel
theorem d_295_1491 : decode (mth 295).2.1 1491 = .ok (.iadd, 1) := by decide +kernel
theorem d_295_1492 : decode (mth 295).2.1 1492 = .ok (.iaload, 1) := by decide +kernel
theorem d_295_1493 : decode (mth 295).2.1 1493 = .ok (.invokevirtual 192, 3) := by decide +kernel
theorem d_295_1496 : decode (mth 295).2.1 1496 = .ok (.if_icmp .eq 239, 3) := by decide +kernel
theorem d_295_1499 : decode (mth 295).2.1 1499 = .ok (.iconst 0, 1) := by decide +kernel
theorem d_295_1500 : decode (mth 295).2.1 1500 = .ok (.ireturn, 1) := by decide +kernel
theorem d_295_1501 : decode (mth 295).2.1 1501 = .ok (.aload_n 1, 1) := by decide +kernel
theorem d_295_1502 : decode (mth 295).2.1 1502 = .ok (.aload_n 0, 1) := by decide +kernel
theorem d_295_1503 : decode (mth 295).2.1 1503 = .ok (.iload_n 3, 1) := by decide +kernel
theorem d_295_1504 : decode (mth 295).2.1 1504 = .ok (.iconst 1, 1) := by decide +kernel
theorem d_295_1505 : decode (mth 295).2.1 1505 = .ok (.iadd, 1) := by decide +kernel
theorem d_295_1506 : decode (mth 295).2.1 1506 = .ok (.iaload, 1) := by decide +kernel
theorem d_295_1507 : decode (mth 295).2.1 1507 = .ok (.aload_n 0, 1) := by decide +kernel
theorem d_295_1508 : decode (mth 295).2.1 1508 = .ok (.iload_n 3, 1) := by decide +kernel
theorem d_295_1509 : decode (mth 295).2.1 1509 = .ok (.iconst 2, 1) := by decide +kernel
theorem d_295_1510 : decode (mth 295).2.1 1510 = .ok (.iadd, 1) := by decide +kernel
theorem d_295_1511 : decode (mth 295).2.1 1511 = .ok (.iaload, 1) := by decide +kernel
theorem d_295_1512 : decode (mth 295).2.1 1512 = .ok (.aload_n 0, 1) := by decide +kernel
theorem d_295_1513 : decode (mth 295).2.1 1513 = .ok (.iload_n 3, 1) := by decide +kernel
theorem d_295_1514 : decode (mth 295).2.1 1514 = .ok (.iconst 3, 1) := by decide +kernel
theorem d_295_1515 : decode (mth 295).2.1 1515 = .ok (.iadd, 1) := by decide +kernel
theorem d_295_1516 : decode (mth 295).2.1 1516 = .ok (.iaload, 1) := by decide +kernel
theorem d_295_1517 : decode (mth 295).2.1 1517 = .ok (.invokevirtual 193, 3) := by decide +kernel
theorem d_295_1520 : decode (mth 295).2.1 1520 = .ok (.aload_n 2, 1) := by decide +kernel
theorem d_295_1521 : decode (mth 295).2.1 1521 = .ok (.aload_n 0, 1) := by decide +kernel
theorem d_295_1522 : decode (mth 295).2.1 1522 = .ok (.iload_n 3, 1) := by decide +kernel
theorem d_295_1523 : decode (mth 295).2.1 1523 = .ok (.iconst 1, 1) := by decide +kernel
theorem d_295_1524 : decode (mth 295).2.1 1524 = .ok (.iadd, 1) := by decide +kernel
theorem d_295_1525 : decode (mth 295).2.1 1525 = .ok (.iaload, 1) := by decide +kernel
theorem d_295_1526 : decode (mth 295).2.1 1526 = .ok (.aload_n 0, 1) := by decide +kernel
theorem d_295_1527 : decode (mth 295).2.1 1527 = .ok (.iload_n 3, 1) := by decide +kernel
theorem d_295_1528 : decode (mth 295).2.1 1528 = .ok (.iconst 2, 1) := by decide +kernel
theorem d_295_1529 : decode (mth 295).2.1 1529 = .ok (.iadd, 1) := by decide +kernel
theorem d_295_1530 : decode (mth 295).2.1 1530 = .ok (.iaload, 1) := by decide +kernel
theorem d_295_1531 : decode (mth 295).2.1 1531 = .ok (.aload_n 0, 1) := by decide +kernel
theorem d_295_1532 : decode (mth 295).2.1 1532 = .ok (.iload_n 3, 1) := by decide +kernel
theorem d_295_1533 : decode (mth 295).2.1 1533 = .ok (.iconst 3, 1) := by decide +kernel
theorem d_295_1534 : decode (mth 295).2.1 1534 = .ok (.iadd, 1) := by decide +kernel
theorem d_295_1535 : decode (mth 295).2.1 1535 = .ok (.iaload, 1) := by decide +kernel
theorem d_295_1536 : decode (mth 295).2.1 1536 = .ok (.invokevirtual 196, 3) := by decide +kernel
theorem d_295_1539 : decode (mth 295).2.1 1539 = .ok (.if_icmp .eq 196, 3) := by decide +kernel
theorem d_295_1542 : decode (mth 295).2.1 1542 = .ok (.iconst 0, 1) := by decide +kernel
theorem d_295_1543 : decode (mth 295).2.1 1543 = .ok (.ireturn, 1) := by decide +kernel
theorem d_295_1544 : decode (mth 295).2.1 1544 = .ok (.aload_n 1, 1) := by decide +kernel
theorem d_295_1545 : decode (mth 295).2.1 1545 = .ok (.aload_n 0, 1) := by decide +kernel
theorem d_295_1546 : decode (mth 295).2.1 1546 = .ok (.iload_n 3, 1) := by decide +kernel
theorem d_295_1547 : decode (mth 295).2.1 1547 = .ok (.iconst 1, 1) := by decide +kernel
theorem d_295_1548 : decode (mth 295).2.1 1548 = .ok (.iadd, 1) := by decide +kernel
theorem d_295_1549 : decode (mth 295).2.1 1549 = .ok (.iaload, 1) := by decide +kernel
theorem d_295_1550 : decode (mth 295).2.1 1550 = .ok (.aload_n 0, 1) := by decide +kernel
theorem d_295_1551 : decode (mth 295).2.1 1551 = .ok (.iload_n 3, 1) := by decide +kernel
theorem d_295_1552 : decode (mth 295).2.1 1552 = .ok (.iconst 2, 1) := by decide +kernel
theorem d_295_1553 : decode (mth 295).2.1 1553 = .ok (.iadd, 1) := by decide +kernel
theorem d_295_1554 : decode (mth 295).2.1 1554 = .ok (.iaload, 1) := by decide +kernel
theorem d_295_1555 : decode (mth 295).2.1 1555 = .ok (.aload_n 0, 1) := by decide +kernel
theorem d_295_1556 : decode (mth 295).2.1 1556 = .ok (.iload_n 3, 1) := by decide +kernel
theorem d_295_1557 : decode (mth 295).2.1 1557 = .ok (.iconst 3, 1) := by decide +kernel
theorem d_295_1558 : decode (mth 295).2.1 1558 = .ok (.iadd, 1) := by decide +kernel
theorem d_295_1559 : decode (mth 295).2.1 1559 = .ok (.iaload, 1) := by decide +kernel
theorem d_295_1560 : decode (mth 295).2.1 1560 = .ok (.invokevirtual 197, 3) := by decide +kernel
theorem d_295_1563 : decode (mth 295).2.1 1563 = .ok (.aload_n 2, 1) := by decide +kernel
theorem d_295_1564 : decode (mth 295).2.1 1564 = .ok (.aload_n 0, 1) := by decide +kernel
theorem d_295_1565 : decode (mth 295).2.1 1565 = .ok (.iload_n 3, 1) := by decide +kernel
theorem d_295_1566 : decode (mth 295).2.1 1566 = .ok (.iconst 1, 1) := by decide +kernel
theorem d_295_1567 : decode (mth 295).2.1 1567 = .ok (.iadd, 1) := by decide +kernel
theorem d_295_1568 : decode (mth 295).2.1 1568 = .ok (.iaload, 1) := by decide +kernel
theorem d_295_1569 : decode (mth 295).2.1 1569 = .ok (.aload_n 0, 1) := by decide +kernel
theorem d_295_1570 : decode (mth 295).2.1 1570 = .ok (.iload_n 3, 1) := by decide +kernel
theorem d_295_1571 : decode (mth 295).2.1 1571 = .ok (.iconst 2, 1) := by decide +kernel
theorem d_295_1572 : decode (mth 295).2.1 1572 = .ok (.iadd, 1) := by decide +kernel
theorem d_295_1573 : decode (mth 295).2.1 1573 = .ok (.iaload, 1) := by decide +kernel
theorem d_295_1574 : decode (mth 295).2.1 1574 = .ok (.aload_n 0, 1) := by decide +kernel
theorem d_295_1575 : decode (mth 295).2.1 1575 = .ok (.iload_n 3, 1) := by decide +kernel
theorem d_295_1576 : decode (mth 295).2.1 1576 = .ok (.iconst 3, 1) := by decide +kernel
theorem d_295_1577 : decode (mth 295).2.1 1577 = .ok (.iadd, 1) := by decide +kernel
theorem d_295_1578 : decode (mth 295).2.1 1578 = .ok (.iaload, 1) := by decide +kernel
theorem d_295_1579 : decode (mth 295).2.1 1579 = .ok (.invokevirtual 200, 3) := by decide +kernel
theorem d_295_1582 : decode (mth 295).2.1 1582 = .ok (.if_icmp .eq 153, 3) := by decide +kernel
theorem d_295_1585 : decode (mth 295).2.1 1585 = .ok (.iconst 0, 1) := by decide +kernel
theorem d_295_1586 : decode (mth 295).2.1 1586 = .ok (.ireturn, 1) := by decide +kernel
theorem d_295_1587 : decode (mth 295).2.1 1587 = .ok (.aload_n 1, 1) := by decide +kernel
theorem d_295_1588 : decode (mth 295).2.1 1588 = .ok (.aload_n 0, 1) := by decide +kernel
theorem d_295_1589 : decode (mth 295).2.1 1589 = .ok (.iload_n 3, 1) := by decide +kernel
theorem d_295_1590 : decode (mth 295).2.1 1590 = .ok (.iconst 1, 1) := by decide +kernel
theorem d_295_1591 : decode (mth 295).2.1 1591 = .ok (.iadd, 1) := by decide +kernel
theorem d_295_1592 : decode (mth 295).2.1 1592 = .ok (.iaload, 1) := by decide +kernel
theorem d_295_1593 : decode (mth 295).2.1 1593 = .ok (.aload_n 0, 1) := by decide +kernel
theorem d_295_1594 : decode (mth 295).2.1 1594 = .ok (.iload_n 3, 1) := by decide +kernel
theorem d_295_1595 : decode (mth 295).2.1 1595 = .ok (.iconst 2, 1) := by decide +kernel
theorem d_295_1596 : decode (mth 295).2.1 1596 = .ok (.iadd, 1) := by decide +kernel
theorem d_295_1597 : decode (mth 295).2.1 1597 = .ok (.iaload, 1) := by decide +kernel
theorem d_295_1598 : decode (mth 295).2.1 1598 = .ok (.invokevirtual 201, 3) := by decide +kernel
theorem d_295_1601 : decode (mth 295).2.1 1601 = .ok (.aload_n 2, 1) := by decide +kernel
theorem d_295_1602 : decode (mth 295).2.1 1602 = .ok (.aload_n 0, 1) := by decide +kernel
theorem d_295_1603 : decode (mth 295).2.1 1603 = .ok (.iload_n 3, 1) := by decide +kernel
theorem d_295_1604 : decode (mth 295).2.1 1604 = .ok (.iconst 1, 1) := by decide +kernel
theorem d_295_1605 : decode (mth 295).2.1 1605 = .ok (.iadd, 1) := by decide +kernel
theorem d_295_1606 : decode (mth 295).2.1 1606 = .ok (.iaload, 1) := by decide +kernel
theorem d_295_1607 : decode (mth 295).2.1 1607 = .ok (.aload_n 0, 1) := by decide +kernel
theorem d_295_1608 : decode (mth 295).2.1 1608 = .ok (.iload_n 3, 1) := by decide +kernel
theorem d_295_1609 : decode (mth 295).2.1 1609 = .ok (.iconst 2, 1) := by decide +kernel
theorem d_295_1610 : decode (mth 295).2.1 1610 = .ok (.iadd, 1) := by decide +kernel
theorem d_295_1611 : decode (mth 295).2.1 1611 = .ok (.iaload, 1) := by decide +kernel
theorem d_295_1612 : decode (mth 295).2.1 1612 = .ok (.invokevirtual 204, 3) := by decide +kernel
theorem d_295_1615 : decode (mth 295).2.1 1615 = .ok (.if_icmp .eq 120, 3) := by decide +kernel
theorem d_295_1618 : decode (mth 295).2.1 1618 = .ok (.iconst 0, 1) := by decide +kernel
theorem d_295_1619 : decode (mth 295).2.1 1619 = .ok (.ireturn, 1) := by decide +kernel
theorem d_295_1620 : decode (mth 295).2.1 1620 = .ok (.aload_n 1, 1) := by decide +kernel
theorem d_295_1621 : decode (mth 295).2.1 1621 = .ok (.aload_n 0, 1) := by decide +kernel
theorem d_295_1622 : decode (mth 295).2.1 1622 = .ok (.iload_n 3, 1) := by decide +kernel
theorem d_295_1623 : decode (mth 295).2.1 1623 = .ok (.iconst 1, 1) := by decide +kernel
theorem d_295_1624 : decode (mth 295).2.1 1624 = .ok (.iadd, 1) := by decide +kernel
theorem d_295_1625 : decode (mth 295).2.1 1625 = .ok (.iaload, 1) := by decide +kernel
theorem d_295_1626 : decode (mth 295).2.1 1626 = .ok (.aload_n 0, 1) := by decide +kernel
theorem d_295_1627 : decode (mth 295).2.1 1627 = .ok (.iload_n 3, 1) := by decide +kernel
theorem d_295_1628 : decode (mth 295).2.1 1628 = .ok (.iconst 2, 1) := by decide +kernel
theorem d_295_1629 : decode (mth 295).2.1 1629 = .ok (.iadd, 1) := by decide +kernel
theorem d_295_1630 : decode (mth 295).2.1 1630 = .ok (.iaload, 1) := by decide +kernel
theorem d_295_1631 : decode (mth 295).2.1 1631 = .ok (.aload_n 0, 1) := by decide +kernel
theorem d_295_1632 : decode (mth 295).2.1 1632 = .ok (.iload_n 3, 1) := by decide +kernel
theorem d_295_1633 : decode (mth 295).2.1 1633 = .ok (.iconst 3, 1) := by decide +kernel
theorem d_295_1634 : decode (mth 295).2.1 1634 = .ok (.iadd, 1) := by decide +kernel
theorem d_295_1635 : decode (mth 295).2.1 1635 = .ok (.iaload, 1) := by decide +kernel
theorem d_295_1636 : decode (mth 295).2.1 1636 = .ok (.invokevirtual 205, 3) := by decide +kernel
theorem d_295_1639 : decode (mth 295).2.1 1639 = .ok (.aload_n 2, 1) := by decide +kernel
theorem d_295_1640 : decode (mth 295).2.1 1640 = .ok (.aload_n 0, 1) := by decide +kernel
theorem d_295_1641 : decode (mth 295).2.1 1641 = .ok (.iload_n 3, 1) := by decide +kernel
theorem d_295_1642 : decode (mth 295).2.1 1642 = .ok (.iconst 1, 1) := by decide +kernel
theorem d_295_1643 : decode (mth 295).2.1 1643 = .ok (.iadd, 1) := by decide +kernel
theorem d_295_1644 : decode (mth 295).2.1 1644 = .ok (.iaload, 1) := by decide +kernel
theorem d_295_1645 : decode (mth 295).2.1 1645 = .ok (.aload_n 0, 1) := by decide +kernel
theorem d_295_1646 : decode (mth 295).2.1 1646 = .ok (.iload_n 3, 1) := by decide +kernel
theorem d_295_1647 : decode (mth 295).2.1 1647 = .ok (.iconst 2, 1) := by decide +kernel
theorem d_295_1648 : decode (mth 295).2.1 1648 = .ok (.iadd, 1) := by decide +kernel
theorem d_295_1649 : decode (mth 295).2.1 1649 = .ok (.iaload, 1) := by decide +kernel
theorem d_295_1650 : decode (mth 295).2.1 1650 = .ok (.aload_n 0, 1) := by decide +kernel
theorem d_295_1651 : decode (mth 295).2.1 1651 = .ok (.iload_n 3, 1) := by decide +kernel
theorem d_295_1652 : decode (mth 295).2.1 1652 = .ok (.iconst 3, 1) := by decide +kernel
theorem d_295_1653 : decode (mth 295).2.1 1653 = .ok (.iadd, 1) := by decide +kernel
theorem d_295_1654 : decode (mth 295).2.1 1654 = .ok (.iaload, 1) := by decide +kernel
theorem d_295_1655 : decode (mth 295).2.1 1655 = .ok (.invokevirtual 208, 3) := by decide +kernel
theorem d_295_1658 : decode (mth 295).2.1 1658 = .ok (.if_icmp .eq 77, 3) := by decide +kernel
theorem d_295_1661 : decode (mth 295).2.1 1661 = .ok (.iconst 0, 1) := by decide +kernel
theorem d_295_1662 : decode (mth 295).2.1 1662 = .ok (.ireturn, 1) := by decide +kernel
theorem d_295_1663 : decode (mth 295).2.1 1663 = .ok (.aload_n 1, 1) := by decide +kernel
theorem d_295_1664 : decode (mth 295).2.1 1664 = .ok (.aload_n 0, 1) := by decide +kernel
theorem d_295_1665 : decode (mth 295).2.1 1665 = .ok (.iload_n 3, 1) := by decide +kernel
theorem d_295_1666 : decode (mth 295).2.1 1666 = .ok (.iconst 1, 1) := by decide +kernel
theorem d_295_1667 : decode (mth 295).2.1 1667 = .ok (.iadd, 1) := by decide +kernel
theorem d_295_1668 : decode (mth 295).2.1 1668 = .ok (.iaload, 1) := by decide +kernel
theorem d_295_1669 : decode (mth 295).2.1 1669 = .ok (.invokevirtual 209, 3) := by decide +kernel
theorem d_295_1672 : decode (mth 295).2.1 1672 = .ok (.aload_n 2, 1) := by decide +kernel
theorem d_295_1673 : decode (mth 295).2.1 1673 = .ok (.aload_n 0, 1) := by decide +kernel
theorem d_295_1674 : decode (mth 295).2.1 1674 = .ok (.iload_n 3, 1) := by decide +kernel
theorem d_295_1675 : decode (mth 295).2.1 1675 = .ok (.iconst 1, 1) := by decide +kernel
theorem d_295_1676 : decode (mth 295).2.1 1676 = .ok (.iadd, 1) := by decide +kernel
theorem d_295_1677 : decode (mth 295).2.1 1677 = .ok (.iaload, 1) := by decide +kernel
theorem d_295_1678 : decode (mth 295).2.1 1678 = .ok (.invokevirtual 212, 3) := by decide +kernel
theorem d_295_1681 : decode (mth 295).2.1 1681 = .ok (.if_icmp .eq 54, 3) := by decide +kernel
theorem d_295_1684 : decode (mth 295).2.1 1684 = .ok (.iconst 0, 1) := by decide +kernel
theorem d_295_1685 : decode (mth 295).2.1 1685 = .ok (.ireturn, 1) := by decide +kernel
theorem d_295_1686 : decode (mth 295).2.1 1686 = .ok (.aload_n 1, 1) := by decide +kernel
theorem d_295_1687 : decode (mth 295).2.1 1687 = .ok (.aload_n 0, 1) := by decide +kernel
theorem d_295_1688 : decode (mth 295).2.1 1688 = .ok (.iload_n 3, 1) := by decide +kernel
theorem d_295_1689 : decode (mth 295).2.1 1689 = .ok (.iconst 1, 1) := by decide +kernel
theorem d_295_1690 : decode (mth 295).2.1 1690 = .ok (.iadd, 1) := by decide +kernel
theorem d_295_1691 : decode (mth 295).2.1 1691 = .ok (.iaload, 1) := by decide +kernel
theorem d_295_1692 : decode (mth 295).2.1 1692 = .ok (.invokevirtual 213, 3) := by decide +kernel
theorem d_295_1695 : decode (mth 295).2.1 1695 = .ok (.aload_n 2, 1) := by decide +kernel
theorem d_295_1696 : decode (mth 295).2.1 1696 = .ok (.aload_n 0, 1) := by decide +kernel
theorem d_295_1697 : decode (mth 295).2.1 1697 = .ok (.iload_n 3, 1) := by decide +kernel
theorem d_295_1698 : decode (mth 295).2.1 1698 = .ok (.iconst 1, 1) := by decide +kernel
theorem d_295_1699 : decode (mth 295).2.1 1699 = .ok (.iadd, 1) := by decide +kernel
theorem d_295_1700 : decode (mth 295).2.1 1700 = .ok (.iaload, 1) := by decide +kernel
theorem d_295_1701 : decode (mth 295).2.1 1701 = .ok (.invokevirtual 216, 3) := by decide +kernel
theorem d_295_1704 : decode (mth 295).2.1 1704 = .ok (.if_icmp .eq 31, 3) := by decide +kernel
theorem d_295_1707 : decode (mth 295).2.1 1707 = .ok (.iconst 0, 1) := by decide +kernel
theorem d_295_1708 : decode (mth 295).2.1 1708 = .ok (.ireturn, 1) := by decide +kernel
theorem d_295_1709 : decode (mth 295).2.1 1709 = .ok (.aload_n 1, 1) := by decide +kernel
theorem d_295_1710 : decode (mth 295).2.1 1710 = .ok (.invokevirtual 217, 3) := by decide +kernel
theorem d_295_1713 : decode (mth 295).2.1 1713 = .ok (.aload_n 2, 1) := by decide +kernel
theorem d_295_1714 : decode (mth 295).2.1 1714 = .ok (.invokevirtual 220, 3) := by decide +kernel
theorem d_295_1717 : decode (mth 295).2.1 1717 = .ok (.if_icmp .eq 18, 3) := by decide +kernel
theorem d_295_1720 : decode (mth 295).2.1 1720 = .ok (.iconst 0, 1) := by decide +kernel
theorem d_295_1721 : decode (mth 295).2.1 1721 = .ok (.ireturn, 1) := by decide +kernel
theorem d_295_1722 : decode (mth 295).2.1 1722 = .ok (.aload_n 1, 1) := by decide +kernel
theorem d_295_1723 : decode (mth 295).2.1 1723 = .ok (.invokevirtual 221, 3) := by decide +kernel
theorem d_295_1726 : decode (mth 295).2.1 1726 = .ok (.aload_n 2, 1) := by decide +kernel
theorem d_295_1727 : decode (mth 295).2.1 1727 = .ok (.invokevirtual 224, 3) := by decide +kernel
theorem d_295_1730 : decode (mth 295).2.1 1730 = .ok (.if_icmp .eq 5, 3) := by decide +kernel
theorem d_295_1733 : decode (mth 295).2.1 1733 = .ok (.iconst 0, 1) := by decide +kernel
theorem d_295_1734 : decode (mth 295).2.1 1734 = .ok (.ireturn, 1) := by decide +kernel
theorem d_295_1735 : decode (mth 295).2.1 1735 = .ok (.iinc 3 5, 3) := by decide +kernel
theorem d_295_1738 : decode (mth 295).2.1 1738 = .ok (.goto (-1720), 3) := by decide +kernel
theorem d_295_1741 : decode (mth 295).2.1 1741 = .ok (.iconst 1, 1) := by decide +kernel
theorem d_295_1742 : decode (mth 295).2.1 1742 = .ok (.ireturn, 1) := by decide +kernel

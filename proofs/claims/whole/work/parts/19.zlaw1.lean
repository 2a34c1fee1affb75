/-! the law: its instructions, calls that keep the count of what was made, the whole world -/
theorem dL_0 : decode code 0 = .ok (.new 7, 3) := by decide +kernel
theorem dL_3 : decode code 3 = .ok (.dup, 1) := by decide +kernel
theorem dL_4 : decode code 4 = .ok (.invokespecial 9, 3) := by decide +kernel
theorem dL_7 : decode code 7 = .ok (.astore_n 1, 1) := by decide +kernel
theorem dL_8 : decode code 8 = .ok (.new 10, 3) := by decide +kernel
theorem dL_11 : decode code 11 = .ok (.dup, 1) := by decide +kernel
theorem dL_12 : decode code 12 = .ok (.invokespecial 12, 3) := by decide +kernel
theorem dL_15 : decode code 15 = .ok (.astore_n 2, 1) := by decide +kernel
theorem dL_16 : decode code 16 = .ok (.iconst 0, 1) := by decide +kernel
theorem dL_17 : decode code 17 = .ok (.istore_n 3, 1) := by decide +kernel
theorem dL_18 : decode code 18 = .ok (.iload_n 3, 1) := by decide +kernel
theorem dL_19 : decode code 19 = .ok (.aload_n 0, 1) := by decide +kernel
theorem dL_20 : decode code 20 = .ok (.arraylength, 1) := by decide +kernel
theorem dL_21 : decode code 21 = .ok (.bipush 6, 2) := by decide +kernel
theorem dL_23 : decode code 23 = .ok (.isub, 1) := by decide +kernel
theorem dL_24 : decode code 24 = .ok (.if_icmp .gt 1833, 3) := by decide +kernel
theorem dL_27 : decode code 27 = .ok (.aload_n 0, 1) := by decide +kernel
theorem dL_28 : decode code 28 = .ok (.iload_n 3, 1) := by decide +kernel
theorem dL_29 : decode code 29 = .ok (.iaload, 1) := by decide +kernel
theorem dL_30 : decode code 30 = .ok (.bipush 63, 2) := by decide +kernel
theorem dL_32 : decode code 32 = .ok (.iand, 1) := by decide +kernel
theorem dL_33 : decode code 33 = .ok (.tableswitch 1818 0 51 #[223, 236, 250, 264, 307, 380, 414, 477, 540, 563, 586, 609, 632, 665, 698, 731, 764, 787, 820, 853, 902, 925, 948, 981, 1024, 1057, 1090, 1113, 1136, 1159, 1182, 1215, 1268, 1291, 1324, 1357, 1400, 1433, 1466, 1499, 1512, 1535, 1568, 1581, 1604, 1647, 1690, 1713, 1736, 1759, 1792, 1805], 223) := by decide +kernel
theorem dL_256 : decode code 256 = .ok (.aload_n 1, 1) := by decide +kernel
theorem dL_257 : decode code 257 = .ok (.invokevirtual 13, 3) := by decide +kernel
theorem dL_260 : decode code 260 = .ok (.aload_n 2, 1) := by decide +kernel
theorem dL_261 : decode code 261 = .ok (.invokevirtual 17, 3) := by decide +kernel
theorem dL_264 : decode code 264 = .ok (.if_icmp .eq 1587, 3) := by decide +kernel
theorem dL_267 : decode code 267 = .ok (.iconst 0, 1) := by decide +kernel
theorem dL_268 : decode code 268 = .ok (.ireturn, 1) := by decide +kernel
theorem dL_269 : decode code 269 = .ok (.aload_n 1, 1) := by decide +kernel
theorem dL_270 : decode code 270 = .ok (.invokevirtual 18, 3) := by decide +kernel
theorem dL_273 : decode code 273 = .ok (.aload_n 2, 1) := by decide +kernel
theorem dL_274 : decode code 274 = .ok (.invokevirtual 22, 3) := by decide +kernel
theorem dL_277 : decode code 277 = .ok (.lcmp, 1) := by decide +kernel
theorem dL_278 : decode code 278 = .ok (.ifCond .eq 1573, 3) := by decide +kernel
theorem dL_281 : decode code 281 = .ok (.iconst 0, 1) := by decide +kernel
theorem dL_282 : decode code 282 = .ok (.ireturn, 1) := by decide +kernel
theorem dL_283 : decode code 283 = .ok (.aload_n 1, 1) := by decide +kernel
theorem dL_284 : decode code 284 = .ok (.invokevirtual 23, 3) := by decide +kernel
theorem dL_287 : decode code 287 = .ok (.aload_n 2, 1) := by decide +kernel
theorem dL_288 : decode code 288 = .ok (.invokevirtual 26, 3) := by decide +kernel
theorem dL_291 : decode code 291 = .ok (.lcmp, 1) := by decide +kernel
theorem dL_292 : decode code 292 = .ok (.ifCond .eq 1559, 3) := by decide +kernel
theorem dL_295 : decode code 295 = .ok (.iconst 0, 1) := by decide +kernel
theorem dL_296 : decode code 296 = .ok (.ireturn, 1) := by decide +kernel
theorem dL_297 : decode code 297 = .ok (.aload_n 1, 1) := by decide +kernel
theorem dL_298 : decode code 298 = .ok (.aload_n 0, 1) := by decide +kernel
theorem dL_299 : decode code 299 = .ok (.iload_n 3, 1) := by decide +kernel
theorem dL_300 : decode code 300 = .ok (.iconst 1, 1) := by decide +kernel
theorem dL_301 : decode code 301 = .ok (.iadd, 1) := by decide +kernel
theorem dL_302 : decode code 302 = .ok (.iaload, 1) := by decide +kernel
theorem dL_303 : decode code 303 = .ok (.aload_n 0, 1) := by decide +kernel
theorem dL_304 : decode code 304 = .ok (.iload_n 3, 1) := by decide +kernel
theorem dL_305 : decode code 305 = .ok (.iconst 2, 1) := by decide +kernel
theorem dL_306 : decode code 306 = .ok (.iadd, 1) := by decide +kernel
theorem dL_307 : decode code 307 = .ok (.iaload, 1) := by decide +kernel
theorem dL_308 : decode code 308 = .ok (.aload_n 0, 1) := by decide +kernel
theorem dL_309 : decode code 309 = .ok (.iload_n 3, 1) := by decide +kernel
theorem dL_310 : decode code 310 = .ok (.iconst 3, 1) := by decide +kernel
theorem dL_311 : decode code 311 = .ok (.iadd, 1) := by decide +kernel
theorem dL_312 : decode code 312 = .ok (.iaload, 1) := by decide +kernel
theorem dL_313 : decode code 313 = .ok (.invokevirtual 27, 3) := by decide +kernel
theorem dL_316 : decode code 316 = .ok (.aload_n 2, 1) := by decide +kernel
theorem dL_317 : decode code 317 = .ok (.aload_n 0, 1) := by decide +kernel
theorem dL_318 : decode code 318 = .ok (.iload_n 3, 1) := by decide +kernel
theorem dL_319 : decode code 319 = .ok (.iconst 1, 1) := by decide +kernel
theorem dL_320 : decode code 320 = .ok (.iadd, 1) := by decide +kernel
theorem dL_321 : decode code 321 = .ok (.iaload, 1) := by decide +kernel
theorem dL_322 : decode code 322 = .ok (.aload_n 0, 1) := by decide +kernel
theorem dL_323 : decode code 323 = .ok (.iload_n 3, 1) := by decide +kernel
theorem dL_324 : decode code 324 = .ok (.iconst 2, 1) := by decide +kernel
theorem dL_325 : decode code 325 = .ok (.iadd, 1) := by decide +kernel
theorem dL_326 : decode code 326 = .ok (.iaload, 1) := by decide +kernel
theorem dL_327 : decode code 327 = .ok (.aload_n 0, 1) := by decide +kernel
theorem dL_328 : decode code 328 = .ok (.iload_n 3, 1) := by decide +kernel
theorem dL_329 : decode code 329 = .ok (.iconst 3, 1) := by decide +kernel
theorem dL_330 : decode code 330 = .ok (.iadd, 1) := by decide +kernel
theorem dL_331 : decode code 331 = .ok (.iaload, 1) := by decide +kernel
theorem dL_332 : decode code 332 = .ok (.invokevirtual 31, 3) := by decide +kernel
theorem dL_335 : decode code 335 = .ok (.if_icmp .eq 1516, 3) := by decide +kernel
theorem dL_338 : decode code 338 = .ok (.iconst 0, 1) := by decide +kernel
theorem dL_339 : decode code 339 = .ok (.ireturn, 1) := by decide +kernel
theorem dL_340 : decode code 340 = .ok (.aload_n 1, 1) := by decide +kernel
theorem dL_341 : decode code 341 = .ok (.aload_n 0, 1) := by decide +kernel
theorem dL_342 : decode code 342 = .ok (.iload_n 3, 1) := by decide +kernel
theorem dL_343 : decode code 343 = .ok (.iconst 1, 1) := by decide +kernel
theorem dL_344 : decode code 344 = .ok (.iadd, 1) := by decide +kernel
theorem dL_345 : decode code 345 = .ok (.iaload, 1) := by decide +kernel
theorem dL_346 : decode code 346 = .ok (.aload_n 0, 1) := by decide +kernel
theorem dL_347 : decode code 347 = .ok (.iload_n 3, 1) := by decide +kernel
theorem dL_348 : decode code 348 = .ok (.iconst 2, 1) := by decide +kernel
theorem dL_349 : decode code 349 = .ok (.iadd, 1) := by decide +kernel
theorem dL_350 : decode code 350 = .ok (.iaload, 1) := by decide +kernel
theorem dL_351 : decode code 351 = .ok (.aload_n 0, 1) := by decide +kernel
theorem dL_352 : decode code 352 = .ok (.iload_n 3, 1) := by decide +kernel
theorem dL_353 : decode code 353 = .ok (.iconst 3, 1) := by decide +kernel
theorem dL_354 : decode code 354 = .ok (.iadd, 1) := by decide +kernel
theorem dL_355 : decode code 355 = .ok (.iaload, 1) := by decide +kernel
theorem dL_356 : decode code 356 = .ok (.i2l, 1) := by decide +kernel
theorem dL_357 : decode code 357 = .ok (.bipush 32, 2) := by decide +kernel
theorem dL_359 : decode code 359 = .ok (.lshl, 1) := by decide +kernel
theorem dL_360 : decode code 360 = .ok (.aload_n 0, 1) := by decide +kernel
theorem dL_361 : decode code 361 = .ok (.iload_n 3, 1) := by decide +kernel
theorem dL_362 : decode code 362 = .ok (.iconst 4, 1) := by decide +kernel
theorem dL_363 : decode code 363 = .ok (.iadd, 1) := by decide +kernel
theorem dL_364 : decode code 364 = .ok (.iaload, 1) := by decide +kernel
theorem dL_365 : decode code 365 = .ok (.i2l, 1) := by decide +kernel
theorem dL_366 : decode code 366 = .ok (.ldc2_w 32, 3) := by decide +kernel
theorem dL_369 : decode code 369 = .ok (.land, 1) := by decide +kernel
theorem dL_370 : decode code 370 = .ok (.lor, 1) := by decide +kernel
theorem dL_371 : decode code 371 = .ok (.invokevirtual 34, 3) := by decide +kernel
theorem dL_374 : decode code 374 = .ok (.aload_n 2, 1) := by decide +kernel
theorem dL_375 : decode code 375 = .ok (.aload_n 0, 1) := by decide +kernel
theorem dL_376 : decode code 376 = .ok (.iload_n 3, 1) := by decide +kernel
theorem dL_377 : decode code 377 = .ok (.iconst 1, 1) := by decide +kernel
theorem dL_378 : decode code 378 = .ok (.iadd, 1) := by decide +kernel
theorem dL_379 : decode code 379 = .ok (.iaload, 1) := by decide +kernel
theorem dL_380 : decode code 380 = .ok (.aload_n 0, 1) := by decide +kernel
theorem dL_381 : decode code 381 = .ok (.iload_n 3, 1) := by decide +kernel
theorem dL_382 : decode code 382 = .ok (.iconst 2, 1) := by decide +kernel
theorem dL_383 : decode code 383 = .ok (.iadd, 1) := by decide +kernel
theorem dL_384 : decode code 384 = .ok (.iaload, 1) := by decide +kernel
theorem dL_385 : decode code 385 = .ok (.aload_n 0, 1) := by decide +kernel
theorem dL_386 : decode code 386 = .ok (.iload_n 3, 1) := by decide +kernel
theorem dL_387 : decode code 387 = .ok (.iconst 3, 1) := by decide +kernel
theorem dL_388 : decode code 388 = .ok (.iadd, 1) := by decide +kernel
theorem dL_389 : decode code 389 = .ok (.iaload, 1) := by decide +kernel
theorem dL_390 : decode code 390 = .ok (.i2l, 1) := by decide +kernel
theorem dL_391 : decode code 391 = .ok (.bipush 32, 2) := by decide +kernel
theorem dL_393 : decode code 393 = .ok (.lshl, 1) := by decide +kernel
theorem dL_394 : decode code 394 = .ok (.aload_n 0, 1) := by decide +kernel
theorem dL_395 : decode code 395 = .ok (.iload_n 3, 1) := by decide +kernel
theorem dL_396 : decode code 396 = .ok (.iconst 4, 1) := by decide +kernel
theorem dL_397 : decode code 397 = .ok (.iadd, 1) := by decide +kernel
theorem dL_398 : decode code 398 = .ok (.iaload, 1) := by decide +kernel
theorem dL_399 : decode code 399 = .ok (.i2l, 1) := by decide +kernel
theorem dL_400 : decode code 400 = .ok (.ldc2_w 32, 3) := by decide +kernel
theorem dL_403 : decode code 403 = .ok (.land, 1) := by decide +kernel
theorem dL_404 : decode code 404 = .ok (.lor, 1) := by decide +kernel
theorem dL_405 : decode code 405 = .ok (.invokevirtual 38, 3) := by decide +kernel
theorem dL_408 : decode code 408 = .ok (.if_icmp .eq 1443, 3) := by decide +kernel
theorem dL_411 : decode code 411 = .ok (.iconst 0, 1) := by decide +kernel
theorem dL_412 : decode code 412 = .ok (.ireturn, 1) := by decide +kernel
theorem dL_413 : decode code 413 = .ok (.aload_n 1, 1) := by decide +kernel
theorem dL_414 : decode code 414 = .ok (.aload_n 0, 1) := by decide +kernel
theorem dL_415 : decode code 415 = .ok (.iload_n 3, 1) := by decide +kernel
theorem dL_416 : decode code 416 = .ok (.iconst 1, 1) := by decide +kernel
theorem dL_417 : decode code 417 = .ok (.iadd, 1) := by decide +kernel
theorem dL_418 : decode code 418 = .ok (.iaload, 1) := by decide +kernel
theorem dL_419 : decode code 419 = .ok (.aload_n 0, 1) := by decide +kernel
theorem dL_420 : decode code 420 = .ok (.iload_n 3, 1) := by decide +kernel
theorem dL_421 : decode code 421 = .ok (.iconst 2, 1) := by decide +kernel
theorem dL_422 : decode code 422 = .ok (.iadd, 1) := by decide +kernel
theorem dL_423 : decode code 423 = .ok (.iaload, 1) := by decide +kernel
theorem dL_424 : decode code 424 = .ok (.invokevirtual 39, 3) := by decide +kernel
theorem dL_427 : decode code 427 = .ok (.aload_n 2, 1) := by decide +kernel
theorem dL_428 : decode code 428 = .ok (.aload_n 0, 1) := by decide +kernel
theorem dL_429 : decode code 429 = .ok (.iload_n 3, 1) := by decide +kernel
theorem dL_430 : decode code 430 = .ok (.iconst 1, 1) := by decide +kernel
theorem dL_431 : decode code 431 = .ok (.iadd, 1) := by decide +kernel
theorem dL_432 : decode code 432 = .ok (.iaload, 1) := by decide +kernel
theorem dL_433 : decode code 433 = .ok (.aload_n 0, 1) := by decide +kernel
theorem dL_434 : decode code 434 = .ok (.iload_n 3, 1) := by decide +kernel
theorem dL_435 : decode code 435 = .ok (.iconst 2, 1) := by decide +kernel
theorem dL_436 : decode code 436 = .ok (.iadd, 1) := by decide +kernel
theorem dL_437 : decode code 437 = .ok (.iaload, 1) := by decide +kernel
theorem dL_438 : decode code 438 = .ok (.invokevirtual 43, 3) := by decide +kernel
theorem dL_441 : decode code 441 = .ok (.lcmp, 1) := by decide +kernel
theorem dL_442 : decode code 442 = .ok (.ifCond .eq 1409, 3) := by decide +kernel
theorem dL_445 : decode code 445 = .ok (.iconst 0, 1) := by decide +kernel
theorem dL_446 : decode code 446 = .ok (.ireturn, 1) := by decide +kernel
theorem dL_447 : decode code 447 = .ok (.aload_n 1, 1) := by decide +kernel
theorem dL_448 : decode code 448 = .ok (.aload_n 0, 1) := by decide +kernel
theorem dL_449 : decode code 449 = .ok (.iload_n 3, 1) := by decide +kernel
theorem dL_450 : decode code 450 = .ok (.iconst 1, 1) := by decide +kernel
theorem dL_451 : decode code 451 = .ok (.iadd, 1) := by decide +kernel
theorem dL_452 : decode code 452 = .ok (.iaload, 1) := by decide +kernel
theorem dL_453 : decode code 453 = .ok (.aload_n 0, 1) := by decide +kernel
theorem dL_454 : decode code 454 = .ok (.iload_n 3, 1) := by decide +kernel
theorem dL_455 : decode code 455 = .ok (.iconst 2, 1) := by decide +kernel
theorem dL_456 : decode code 456 = .ok (.iadd, 1) := by decide +kernel
theorem dL_457 : decode code 457 = .ok (.iaload, 1) := by decide +kernel
theorem dL_458 : decode code 458 = .ok (.aload_n 0, 1) := by decide +kernel
theorem dL_459 : decode code 459 = .ok (.iload_n 3, 1) := by decide +kernel
theorem dL_460 : decode code 460 = .ok (.iconst 3, 1) := by decide +kernel
theorem dL_461 : decode code 461 = .ok (.iadd, 1) := by decide +kernel
theorem dL_462 : decode code 462 = .ok (.iaload, 1) := by decide +kernel
theorem dL_463 : decode code 463 = .ok (.aload_n 0, 1) := by decide +kernel
theorem dL_464 : decode code 464 = .ok (.iload_n 3, 1) := by decide +kernel
theorem dL_465 : decode code 465 = .ok (.iconst 4, 1) := by decide +kernel
theorem dL_466 : decode code 466 = .ok (.iadd, 1) := by decide +kernel
theorem dL_467 : decode code 467 = .ok (.iaload, 1) := by decide +kernel
theorem dL_468 : decode code 468 = .ok (.aload_n 0, 1) := by decide +kernel
theorem dL_469 : decode code 469 = .ok (.iload_n 3, 1) := by decide +kernel
theorem dL_470 : decode code 470 = .ok (.iconst 5, 1) := by decide +kernel
theorem dL_471 : decode code 471 = .ok (.iadd, 1) := by decide +kernel
theorem dL_472 : decode code 472 = .ok (.iaload, 1) := by decide +kernel
theorem dL_473 : decode code 473 = .ok (.invokevirtual 44, 3) := by decide +kernel
theorem dL_476 : decode code 476 = .ok (.aload_n 2, 1) := by decide +kernel
theorem dL_477 : decode code 477 = .ok (.aload_n 0, 1) := by decide +kernel
theorem dL_478 : decode code 478 = .ok (.iload_n 3, 1) := by decide +kernel
theorem dL_479 : decode code 479 = .ok (.iconst 1, 1) := by decide +kernel
theorem dL_480 : decode code 480 = .ok (.iadd, 1) := by decide +kernel
theorem dL_481 : decode code 481 = .ok (.iaload, 1) := by decide +kernel
theorem dL_482 : decode code 482 = .ok (.aload_n 0, 1) := by decide +kernel
theorem dL_483 : decode code 483 = .ok (.iload_n 3, 1) := by decide +kernel
theorem dL_484 : decode code 484 = .ok (.iconst 2, 1) := by decide +kernel
theorem dL_485 : decode code 485 = .ok (.iadd, 1) := by decide +kernel
theorem dL_486 : decode code 486 = .ok (.iaload, 1) := by decide +kernel
theorem dL_487 : decode code 487 = .ok (.aload_n 0, 1) := by decide +kernel
theorem dL_488 : decode code 488 = .ok (.iload_n 3, 1) := by decide +kernel
theorem dL_489 : decode code 489 = .ok (.iconst 3, 1) := by decide +kernel
theorem dL_490 : decode code 490 = .ok (.iadd, 1) := by decide +kernel
theorem dL_491 : decode code 491 = .ok (.iaload, 1) := by decide +kernel
theorem dL_492 : decode code 492 = .ok (.aload_n 0, 1) := by decide +kernel
theorem dL_493 : decode code 493 = .ok (.iload_n 3, 1) := by decide +kernel
theorem dL_494 : decode code 494 = .ok (.iconst 4, 1) := by decide +kernel
theorem dL_495 : decode code 495 = .ok (.iadd, 1) := by decide +kernel
theorem dL_496 : decode code 496 = .ok (.iaload, 1) := by decide +kernel
theorem dL_497 : decode code 497 = .ok (.aload_n 0, 1) := by decide +kernel
theorem dL_498 : decode code 498 = .ok (.iload_n 3, 1) := by decide +kernel
theorem dL_499 : decode code 499 = .ok (.iconst 5, 1) := by decide +kernel
theorem dL_500 : decode code 500 = .ok (.iadd, 1) := by decide +kernel
theorem dL_501 : decode code 501 = .ok (.iaload, 1) := by decide +kernel
theorem dL_502 : decode code 502 = .ok (.invokevirtual 48, 3) := by decide +kernel
theorem dL_505 : decode code 505 = .ok (.if_icmp .eq 1346, 3) := by decide +kernel
theorem dL_508 : decode code 508 = .ok (.iconst 0, 1) := by decide +kernel
theorem dL_509 : decode code 509 = .ok (.ireturn, 1) := by decide +kernel
theorem dL_510 : decode code 510 = .ok (.aload_n 1, 1) := by decide +kernel
theorem dL_511 : decode code 511 = .ok (.aload_n 0, 1) := by decide +kernel
theorem dL_512 : decode code 512 = .ok (.iload_n 3, 1) := by decide +kernel
theorem dL_513 : decode code 513 = .ok (.iconst 1, 1) := by decide +kernel
theorem dL_514 : decode code 514 = .ok (.iadd, 1) := by decide +kernel
theorem dL_515 : decode code 515 = .ok (.iaload, 1) := by decide +kernel
theorem dL_516 : decode code 516 = .ok (.aload_n 0, 1) := by decide +kernel
theorem dL_517 : decode code 517 = .ok (.iload_n 3, 1) := by decide +kernel
theorem dL_518 : decode code 518 = .ok (.iconst 2, 1) := by decide +kernel
theorem dL_519 : decode code 519 = .ok (.iadd, 1) := by decide +kernel
theorem dL_520 : decode code 520 = .ok (.iaload, 1) := by decide +kernel
theorem dL_521 : decode code 521 = .ok (.aload_n 0, 1) := by decide +kernel
theorem dL_522 : decode code 522 = .ok (.iload_n 3, 1) := by decide +kernel
theorem dL_523 : decode code 523 = .ok (.iconst 3, 1) := by decide +kernel
theorem dL_524 : decode code 524 = .ok (.iadd, 1) := by decide +kernel
theorem dL_525 : decode code 525 = .ok (.iaload, 1) := by decide +kernel
theorem dL_526 : decode code 526 = .ok (.aload_n 0, 1) := by decide +kernel
theorem dL_527 : decode code 527 = .ok (.iload_n 3, 1) := by decide +kernel
theorem dL_528 : decode code 528 = .ok (.iconst 4, 1) := by decide +kernel
theorem dL_529 : decode code 529 = .ok (.iadd, 1) := by decide +kernel
theorem dL_530 : decode code 530 = .ok (.iaload, 1) := by decide +kernel
theorem dL_531 : decode code 531 = .ok (.aload_n 0, 1) := by decide +kernel
theorem dL_532 : decode code 532 = .ok (.iload_n 3, 1) := by decide +kernel
theorem dL_533 : decode code 533 = .ok (.iconst 5, 1) := by decide +kernel
theorem dL_534 : decode code 534 = .ok (.iadd, 1) := by decide +kernel
theorem dL_535 : decode code 535 = .ok (.iaload, 1) := by decide +kernel
theorem dL_536 : decode code 536 = .ok (.invokevirtual 49, 3) := by decide +kernel
theorem dL_539 : decode code 539 = .ok (.aload_n 2, 1) := by decide +kernel
theorem dL_540 : decode code 540 = .ok (.aload_n 0, 1) := by decide +kernel
theorem dL_541 : decode code 541 = .ok (.iload_n 3, 1) := by decide +kernel
theorem dL_542 : decode code 542 = .ok (.iconst 1, 1) := by decide +kernel
theorem dL_543 : decode code 543 = .ok (.iadd, 1) := by decide +kernel
theorem dL_544 : decode code 544 = .ok (.iaload, 1) := by decide +kernel
theorem dL_545 : decode code 545 = .ok (.aload_n 0, 1) := by decide +kernel
theorem dL_546 : decode code 546 = .ok (.iload_n 3, 1) := by decide +kernel
theorem dL_547 : decode code 547 = .ok (.iconst 2, 1) := by decide +kernel
theorem dL_548 : decode code 548 = .ok (.iadd, 1) := by decide +kernel
theorem dL_549 : decode code 549 = .ok (.iaload, 1) := by decide +kernel
theorem dL_550 : decode code 550 = .ok (.aload_n 0, 1) := by decide +kernel
theorem dL_551 : decode code 551 = .ok (.iload_n 3, 1) := by decide +kernel
theorem dL_552 : decode code 552 = .ok (.iconst 3, 1) := by decide +kernel
theorem dL_553 : decode code 553 = .ok (.iadd, 1) := by decide +kernel
theorem dL_554 : decode code 554 = .ok (.iaload, 1) := by decide +kernel
theorem dL_555 : decode code 555 = .ok (.aload_n 0, 1) := by decide +kernel
theorem dL_556 : decode code 556 = .ok (.iload_n 3, 1) := by decide +kernel
theorem dL_557 : decode code 557 = .ok (.iconst 4, 1) := by decide +kernel
theorem dL_558 : decode code 558 = .ok (.iadd, 1) := by decide +kernel
theorem dL_559 : decode code 559 = .ok (.iaload, 1) := by decide +kernel
theorem dL_560 : decode code 560 = .ok (.aload_n 0, 1) := by decide +kernel
theorem dL_561 : decode code 561 = .ok (.iload_n 3, 1) := by decide +kernel
theorem dL_562 : decode code 562 = .ok (.iconst 5, 1) := by decide +kernel
theorem dL_563 : decode code 563 = .ok (.iadd, 1) := by decide +kernel
theorem dL_564 : decode code 564 = .ok (.iaload, 1) := by decide +kernel
theorem dL_565 : decode code 565 = .ok (.invokevirtual 53, 3) := by decide +kernel
theorem dL_568 : decode code 568 = .ok (.if_icmp .eq 1283, 3) := by decide +kernel
theorem dL_571 : decode code 571 = .ok (.iconst 0, 1) := by decide +kernel
theorem dL_572 : decode code 572 = .ok (.ireturn, 1) := by decide +kernel
theorem dL_573 : decode code 573 = .ok (.aload_n 1, 1) := by decide +kernel
theorem dL_574 : decode code 574 = .ok (.aload_n 0, 1) := by decide +kernel
theorem dL_575 : decode code 575 = .ok (.iload_n 3, 1) := by decide +kernel
theorem dL_576 : decode code 576 = .ok (.iconst 1, 1) := by decide +kernel
theorem dL_577 : decode code 577 = .ok (.iadd, 1) := by decide +kernel
theorem dL_578 : decode code 578 = .ok (.iaload, 1) := by decide +kernel
theorem dL_579 : decode code 579 = .ok (.invokevirtual 54, 3) := by decide +kernel
theorem dL_582 : decode code 582 = .ok (.aload_n 2, 1) := by decide +kernel
theorem dL_583 : decode code 583 = .ok (.aload_n 0, 1) := by decide +kernel
theorem dL_584 : decode code 584 = .ok (.iload_n 3, 1) := by decide +kernel
theorem dL_585 : decode code 585 = .ok (.iconst 1, 1) := by decide +kernel
theorem dL_586 : decode code 586 = .ok (.iadd, 1) := by decide +kernel
theorem dL_587 : decode code 587 = .ok (.iaload, 1) := by decide +kernel
theorem dL_588 : decode code 588 = .ok (.invokevirtual 58, 3) := by decide +kernel
theorem dL_591 : decode code 591 = .ok (.if_icmp .eq 1260, 3) := by decide +kernel
theorem dL_594 : decode code 594 = .ok (.iconst 0, 1) := by decide +kernel
theorem dL_595 : decode code 595 = .ok (.ireturn, 1) := by decide +kernel
theorem dL_596 : decode code 596 = .ok (.aload_n 1, 1) := by decide +kernel
theorem dL_597 : decode code 597 = .ok (.aload_n 0, 1) := by decide +kernel
theorem dL_598 : decode code 598 = .ok (.iload_n 3, 1) := by decide +kernel
theorem dL_599 : decode code 599 = .ok (.iconst 1, 1) := by decide +kernel
theorem dL_600 : decode code 600 = .ok (.iadd, 1) := by decide +kernel
theorem dL_601 : decode code 601 = .ok (.iaload, 1) := by decide +kernel
theorem dL_602 : decode code 602 = .ok (.invokevirtual 59, 3) := by decide +kernel
theorem dL_605 : decode code 605 = .ok (.aload_n 2, 1) := by decide +kernel
theorem dL_606 : decode code 606 = .ok (.aload_n 0, 1) := by decide +kernel
theorem dL_607 : decode code 607 = .ok (.iload_n 3, 1) := by decide +kernel
theorem dL_608 : decode code 608 = .ok (.iconst 1, 1) := by decide +kernel
theorem dL_609 : decode code 609 = .ok (.iadd, 1) := by decide +kernel
theorem dL_610 : decode code 610 = .ok (.iaload, 1) := by decide +kernel
theorem dL_611 : decode code 611 = .ok (.invokevirtual 62, 3) := by decide +kernel
theorem dL_614 : decode code 614 = .ok (.if_icmp .eq 1237, 3) := by decide +kernel
theorem dL_617 : decode code 617 = .ok (.iconst 0, 1) := by decide +kernel
theorem dL_618 : decode code 618 = .ok (.ireturn, 1) := by decide +kernel
theorem dL_619 : decode code 619 = .ok (.aload_n 1, 1) := by decide +kernel
theorem dL_620 : decode code 620 = .ok (.aload_n 0, 1) := by decide +kernel
theorem dL_621 : decode code 621 = .ok (.iload_n 3, 1) := by decide +kernel
theorem dL_622 : decode code 622 = .ok (.iconst 1, 1) := by decide +kernel
theorem dL_623 : decode code 623 = .ok (.iadd, 1) := by decide +kernel
theorem dL_624 : decode code 624 = .ok (.iaload, 1) := by decide +kernel
theorem dL_625 : decode code 625 = .ok (.invokevirtual 63, 3) := by decide +kernel
theorem dL_628 : decode code 628 = .ok (.aload_n 2, 1) := by decide +kernel
theorem dL_629 : decode code 629 = .ok (.aload_n 0, 1) := by decide +kernel
theorem dL_630 : decode code 630 = .ok (.iload_n 3, 1) := by decide +kernel
theorem dL_631 : decode code 631 = .ok (.iconst 1, 1) := by decide +kernel
theorem dL_632 : decode code 632 = .ok (.iadd, 1) := by decide +kernel
theorem dL_633 : decode code 633 = .ok (.iaload, 1) := by decide +kernel
theorem dL_634 : decode code 634 = .ok (.invokevirtual 66, 3) := by decide +kernel
theorem dL_637 : decode code 637 = .ok (.if_icmp .eq 1214, 3) := by decide +kernel
theorem dL_640 : decode code 640 = .ok (.iconst 0, 1) := by decide +kernel
theorem dL_641 : decode code 641 = .ok (.ireturn, 1) := by decide +kernel
theorem dL_642 : decode code 642 = .ok (.aload_n 1, 1) := by decide +kernel
theorem dL_643 : decode code 643 = .ok (.aload_n 0, 1) := by decide +kernel
theorem dL_644 : decode code 644 = .ok (.iload_n 3, 1) := by decide +kernel
theorem dL_645 : decode code 645 = .ok (.iconst 1, 1) := by decide +kernel
theorem dL_646 : decode code 646 = .ok (.iadd, 1) := by decide +kernel
theorem dL_647 : decode code 647 = .ok (.iaload, 1) := by decide +kernel
theorem dL_648 : decode code 648 = .ok (.invokevirtual 67, 3) := by decide +kernel
theorem dL_651 : decode code 651 = .ok (.aload_n 2, 1) := by decide +kernel
theorem dL_652 : decode code 652 = .ok (.aload_n 0, 1) := by decide +kernel
theorem dL_653 : decode code 653 = .ok (.iload_n 3, 1) := by decide +kernel
theorem dL_654 : decode code 654 = .ok (.iconst 1, 1) := by decide +kernel
theorem dL_655 : decode code 655 = .ok (.iadd, 1) := by decide +kernel
theorem dL_656 : decode code 656 = .ok (.iaload, 1) := by decide +kernel
theorem dL_657 : decode code 657 = .ok (.invokevirtual 70, 3) := by decide +kernel
theorem dL_660 : decode code 660 = .ok (.if_icmp .eq 1191, 3) := by decide +kernel
theorem dL_663 : decode code 663 = .ok (.iconst 0, 1) := by decide +kernel
theorem dL_664 : decode code 664 = .ok (.ireturn, 1) := by decide +kernel
theorem dL_665 : decode code 665 = .ok (.aload_n 1, 1) := by decide +kernel
theorem dL_666 : decode code 666 = .ok (.aload_n 0, 1) := by decide +kernel
theorem dL_667 : decode code 667 = .ok (.iload_n 3, 1) := by decide +kernel
theorem dL_668 : decode code 668 = .ok (.iconst 1, 1) := by decide +kernel
theorem dL_669 : decode code 669 = .ok (.iadd, 1) := by decide +kernel
theorem dL_670 : decode code 670 = .ok (.iaload, 1) := by decide +kernel
theorem dL_671 : decode code 671 = .ok (.aload_n 0, 1) := by decide +kernel
theorem dL_672 : decode code 672 = .ok (.iload_n 3, 1) := by decide +kernel
theorem dL_673 : decode code 673 = .ok (.iconst 2, 1) := by decide +kernel
theorem dL_674 : decode code 674 = .ok (.iadd, 1) := by decide +kernel
theorem dL_675 : decode code 675 = .ok (.iaload, 1) := by decide +kernel
theorem dL_676 : decode code 676 = .ok (.invokevirtual 71, 3) := by decide +kernel
theorem dL_679 : decode code 679 = .ok (.aload_n 2, 1) := by decide +kernel
theorem dL_680 : decode code 680 = .ok (.aload_n 0, 1) := by decide +kernel
theorem dL_681 : decode code 681 = .ok (.iload_n 3, 1) := by decide +kernel
theorem dL_682 : decode code 682 = .ok (.iconst 1, 1) := by decide +kernel
theorem dL_683 : decode code 683 = .ok (.iadd, 1) := by decide +kernel
theorem dL_684 : decode code 684 = .ok (.iaload, 1) := by decide +kernel
theorem dL_685 : decode code 685 = .ok (.aload_n 0, 1) := by decide +kernel
theorem dL_686 : decode code 686 = .ok (.iload_n 3, 1) := by decide +kernel
theorem dL_687 : decode code 687 = .ok (.iconst 2, 1) := by decide +kernel
theorem dL_688 : decode code 688 = .ok (.iadd, 1) := by decide +kernel
theorem dL_689 : decode code 689 = .ok (.iaload, 1) := by decide +kernel
theorem dL_690 : decode code 690 = .ok (.invokevirtual 75, 3) := by decide +kernel
theorem dL_693 : decode code 693 = .ok (.if_icmp .eq 1158, 3) := by decide +kernel
theorem dL_696 : decode code 696 = .ok (.iconst 0, 1) := by decide +kernel
theorem dL_697 : decode code 697 = .ok (.ireturn, 1) := by decide +kernel
theorem dL_698 : decode code 698 = .ok (.aload_n 1, 1) := by decide +kernel
theorem dL_699 : decode code 699 = .ok (.aload_n 0, 1) := by decide +kernel
theorem dL_700 : decode code 700 = .ok (.iload_n 3, 1) := by decide +kernel
theorem dL_701 : decode code 701 = .ok (.iconst 1, 1) := by decide +kernel
theorem dL_702 : decode code 702 = .ok (.iadd, 1) := by decide +kernel
theorem dL_703 : decode code 703 = .ok (.iaload, 1) := by decide +kernel
theorem dL_704 : decode code 704 = .ok (.aload_n 0, 1) := by decide +kernel
theorem dL_705 : decode code 705 = .ok (.iload_n 3, 1) := by decide +kernel
theorem dL_706 : decode code 706 = .ok (.iconst 2, 1) := by decide +kernel
theorem dL_707 : decode code 707 = .ok (.iadd, 1) := by decide +kernel
theorem dL_708 : decode code 708 = .ok (.iaload, 1) := by decide +kernel
theorem dL_709 : decode code 709 = .ok (.invokevirtual 76, 3) := by decide +kernel
theorem dL_712 : decode code 712 = .ok (.aload_n 2, 1) := by decide +kernel
theorem dL_713 : decode code 713 = .ok (.aload_n 0, 1) := by decide +kernel
theorem dL_714 : decode code 714 = .ok (.iload_n 3, 1) := by decide +kernel
theorem dL_715 : decode code 715 = .ok (.iconst 1, 1) := by decide +kernel
theorem dL_716 : decode code 716 = .ok (.iadd, 1) := by decide +kernel
theorem dL_717 : decode code 717 = .ok (.iaload, 1) := by decide +kernel
theorem dL_718 : decode code 718 = .ok (.aload_n 0, 1) := by decide +kernel
theorem dL_719 : decode code 719 = .ok (.iload_n 3, 1) := by decide +kernel
theorem dL_720 : decode code 720 = .ok (.iconst 2, 1) := by decide +kernel
theorem dL_721 : decode code 721 = .ok (.iadd, 1) := by decide +kernel
theorem dL_722 : decode code 722 = .ok (.iaload, 1) := by decide +kernel
theorem dL_723 : decode code 723 = .ok (.invokevirtual 79, 3) := by decide +kernel
theorem dL_726 : decode code 726 = .ok (.if_icmp .eq 1125, 3) := by decide +kernel
theorem dL_729 : decode code 729 = .ok (.iconst 0, 1) := by decide +kernel
theorem dL_730 : decode code 730 = .ok (.ireturn, 1) := by decide +kernel
theorem dL_731 : decode code 731 = .ok (.aload_n 1, 1) := by decide +kernel
theorem dL_732 : decode code 732 = .ok (.aload_n 0, 1) := by decide +kernel
theorem dL_733 : decode code 733 = .ok (.iload_n 3, 1) := by decide +kernel
theorem dL_734 : decode code 734 = .ok (.iconst 1, 1) := by decide +kernel
theorem dL_735 : decode code 735 = .ok (.iadd, 1) := by decide +kernel
theorem dL_736 : decode code 736 = .ok (.iaload, 1) := by decide +kernel
theorem dL_737 : decode code 737 = .ok (.aload_n 0, 1) := by decide +kernel
theorem dL_738 : decode code 738 = .ok (.iload_n 3, 1) := by decide +kernel
theorem dL_739 : decode code 739 = .ok (.iconst 2, 1) := by decide +kernel
theorem dL_740 : decode code 740 = .ok (.iadd, 1) := by decide +kernel
theorem dL_741 : decode code 741 = .ok (.iaload, 1) := by decide +kernel
theorem dL_742 : decode code 742 = .ok (.invokevirtual 80, 3) := by decide +kernel
theorem dL_745 : decode code 745 = .ok (.aload_n 2, 1) := by decide +kernel
theorem dL_746 : decode code 746 = .ok (.aload_n 0, 1) := by decide +kernel
theorem dL_747 : decode code 747 = .ok (.iload_n 3, 1) := by decide +kernel
theorem dL_748 : decode code 748 = .ok (.iconst 1, 1) := by decide +kernel
theorem dL_749 : decode code 749 = .ok (.iadd, 1) := by decide +kernel
theorem dL_750 : decode code 750 = .ok (.iaload, 1) := by decide +kernel
theorem dL_751 : decode code 751 = .ok (.aload_n 0, 1) := by decide +kernel
theorem dL_752 : decode code 752 = .ok (.iload_n 3, 1) := by decide +kernel
theorem dL_753 : decode code 753 = .ok (.iconst 2, 1) := by decide +kernel
theorem dL_754 : decode code 754 = .ok (.iadd, 1) := by decide +kernel
theorem dL_755 : decode code 755 = .ok (.iaload, 1) := by decide +kernel
theorem dL_756 : decode code 756 = .ok (.invokevirtual 83, 3) := by decide +kernel
theorem dL_759 : decode code 759 = .ok (.if_icmp .eq 1092, 3) := by decide +kernel
theorem dL_762 : decode code 762 = .ok (.iconst 0, 1) := by decide +kernel
theorem dL_763 : decode code 763 = .ok (.ireturn, 1) := by decide +kernel
theorem dL_764 : decode code 764 = .ok (.aload_n 1, 1) := by decide +kernel
theorem dL_765 : decode code 765 = .ok (.aload_n 0, 1) := by decide +kernel
theorem dL_766 : decode code 766 = .ok (.iload_n 3, 1) := by decide +kernel
theorem dL_767 : decode code 767 = .ok (.iconst 1, 1) := by decide +kernel
theorem dL_768 : decode code 768 = .ok (.iadd, 1) := by decide +kernel
theorem dL_769 : decode code 769 = .ok (.iaload, 1) := by decide +kernel
theorem dL_770 : decode code 770 = .ok (.aload_n 0, 1) := by decide +kernel
theorem dL_771 : decode code 771 = .ok (.iload_n 3, 1) := by decide +kernel
theorem dL_772 : decode code 772 = .ok (.iconst 2, 1) := by decide +kernel
theorem dL_773 : decode code 773 = .ok (.iadd, 1) := by decide +kernel
theorem dL_774 : decode code 774 = .ok (.iaload, 1) := by decide +kernel
theorem dL_775 : decode code 775 = .ok (.invokevirtual 84, 3) := by decide +kernel
theorem dL_778 : decode code 778 = .ok (.aload_n 2, 1) := by decide +kernel
theorem dL_779 : decode code 779 = .ok (.aload_n 0, 1) := by decide +kernel
theorem dL_780 : decode code 780 = .ok (.iload_n 3, 1) := by decide +kernel
theorem dL_781 : decode code 781 = .ok (.iconst 1, 1) := by decide +kernel
theorem dL_782 : decode code 782 = .ok (.iadd, 1) := by decide +kernel
theorem dL_783 : decode code 783 = .ok (.iaload, 1) := by decide +kernel
theorem dL_784 : decode code 784 = .ok (.aload_n 0, 1) := by decide +kernel
theorem dL_785 : decode code 785 = .ok (.iload_n 3, 1) := by decide +kernel
theorem dL_786 : decode code 786 = .ok (.iconst 2, 1) := by decide +kernel
theorem dL_787 : decode code 787 = .ok (.iadd, 1) := by decide +kernel
theorem dL_788 : decode code 788 = .ok (.iaload, 1) := by decide +kernel
theorem dL_789 : decode code 789 = .ok (.invokevirtual 87, 3) := by decide +kernel
theorem dL_792 : decode code 792 = .ok (.if_icmp .eq 1059, 3) := by decide +kernel
theorem dL_795 : decode code 795 = .ok (.iconst 0, 1) := by decide +kernel
theorem dL_796 : decode code 796 = .ok (.ireturn, 1) := by decide +kernel
theorem dL_797 : decode code 797 = .ok (.aload_n 1, 1) := by decide +kernel
theorem dL_798 : decode code 798 = .ok (.aload_n 0, 1) := by decide +kernel
theorem dL_799 : decode code 799 = .ok (.iload_n 3, 1) := by decide +kernel
theorem dL_800 : decode code 800 = .ok (.iconst 1, 1) := by decide +kernel
theorem dL_801 : decode code 801 = .ok (.iadd, 1) := by decide +kernel
theorem dL_802 : decode code 802 = .ok (.iaload, 1) := by decide +kernel
theorem dL_803 : decode code 803 = .ok (.invokevirtual 88, 3) := by decide +kernel
theorem dL_806 : decode code 806 = .ok (.aload_n 2, 1) := by decide +kernel
theorem dL_807 : decode code 807 = .ok (.aload_n 0, 1) := by decide +kernel
theorem dL_808 : decode code 808 = .ok (.iload_n 3, 1) := by decide +kernel
theorem dL_809 : decode code 809 = .ok (.iconst 1, 1) := by decide +kernel
theorem dL_810 : decode code 810 = .ok (.iadd, 1) := by decide +kernel
theorem dL_811 : decode code 811 = .ok (.iaload, 1) := by decide +kernel
theorem dL_812 : decode code 812 = .ok (.invokevirtual 91, 3) := by decide +kernel
theorem dL_815 : decode code 815 = .ok (.if_icmp .eq 1036, 3) := by decide +kernel
theorem dL_818 : decode code 818 = .ok (.iconst 0, 1) := by decide +kernel
theorem dL_819 : decode code 819 = .ok (.ireturn, 1) := by decide +kernel
theorem dL_820 : decode code 820 = .ok (.aload_n 1, 1) := by decide +kernel
theorem dL_821 : decode code 821 = .ok (.aload_n 0, 1) := by decide +kernel
theorem dL_822 : decode code 822 = .ok (.iload_n 3, 1) := by decide +kernel
theorem dL_823 : decode code 823 = .ok (.iconst 1, 1) := by decide +kernel
theorem dL_824 : decode code 824 = .ok (.iadd, 1) := by decide +kernel
theorem dL_825 : decode code 825 = .ok (.iaload, 1) := by decide +kernel
theorem dL_826 : decode code 826 = .ok (.aload_n 0, 1) := by decide +kernel
theorem dL_827 : decode code 827 = .ok (.iload_n 3, 1) := by decide +kernel
theorem dL_828 : decode code 828 = .ok (.iconst 2, 1) := by decide +kernel
theorem dL_829 : decode code 829 = .ok (.iadd, 1) := by decide +kernel
theorem dL_830 : decode code 830 = .ok (.iaload, 1) := by decide +kernel
theorem dL_831 : decode code 831 = .ok (.invokevirtual 92, 3) := by decide +kernel
theorem dL_834 : decode code 834 = .ok (.aload_n 2, 1) := by decide +kernel
theorem dL_835 : decode code 835 = .ok (.aload_n 0, 1) := by decide +kernel
theorem dL_836 : decode code 836 = .ok (.iload_n 3, 1) := by decide +kernel
theorem dL_837 : decode code 837 = .ok (.iconst 1, 1) := by decide +kernel
theorem dL_838 : decode code 838 = .ok (.iadd, 1) := by decide +kernel
theorem dL_839 : decode code 839 = .ok (.iaload, 1) := by decide +kernel
theorem dL_840 : decode code 840 = .ok (.aload_n 0, 1) := by decide +kernel
theorem dL_841 : decode code 841 = .ok (.iload_n 3, 1) := by decide +kernel
theorem dL_842 : decode code 842 = .ok (.iconst 2, 1) := by decide +kernel
theorem dL_843 : decode code 843 = .ok (.iadd, 1) := by decide +kernel
theorem dL_844 : decode code 844 = .ok (.iaload, 1) := by decide +kernel
theorem dL_845 : decode code 845 = .ok (.invokevirtual 95, 3) := by decide +kernel
theorem dL_848 : decode code 848 = .ok (.if_icmp .eq 1003, 3) := by decide +kernel
theorem dL_851 : decode code 851 = .ok (.iconst 0, 1) := by decide +kernel
theorem dL_852 : decode code 852 = .ok (.ireturn, 1) := by decide +kernel
theorem dL_853 : decode code 853 = .ok (.aload_n 1, 1) := by decide +kernel
theorem dL_854 : decode code 854 = .ok (.aload_n 0, 1) := by decide +kernel
theorem dL_855 : decode code 855 = .ok (.iload_n 3, 1) := by decide +kernel
theorem dL_856 : decode code 856 = .ok (.iconst 1, 1) := by decide +kernel
theorem dL_857 : decode code 857 = .ok (.iadd, 1) := by decide +kernel
theorem dL_858 : decode code 858 = .ok (.iaload, 1) := by decide +kernel
theorem dL_859 : decode code 859 = .ok (.aload_n 0, 1) := by decide +kernel
theorem dL_860 : decode code 860 = .ok (.iload_n 3, 1) := by decide +kernel
theorem dL_861 : decode code 861 = .ok (.iconst 2, 1) := by decide +kernel
theorem dL_862 : decode code 862 = .ok (.iadd, 1) := by decide +kernel
theorem dL_863 : decode code 863 = .ok (.iaload, 1) := by decide +kernel
theorem dL_864 : decode code 864 = .ok (.invokevirtual 96, 3) := by decide +kernel
theorem dL_867 : decode code 867 = .ok (.aload_n 2, 1) := by decide +kernel
theorem dL_868 : decode code 868 = .ok (.aload_n 0, 1) := by decide +kernel
theorem dL_869 : decode code 869 = .ok (.iload_n 3, 1) := by decide +kernel
theorem dL_870 : decode code 870 = .ok (.iconst 1, 1) := by decide +kernel
theorem dL_871 : decode code 871 = .ok (.iadd, 1) := by decide +kernel
theorem dL_872 : decode code 872 = .ok (.iaload, 1) := by decide +kernel
theorem dL_873 : decode code 873 = .ok (.aload_n 0, 1) := by decide +kernel
theorem dL_874 : decode code 874 = .ok (.iload_n 3, 1) := by decide +kernel
theorem dL_875 : decode code 875 = .ok (.iconst 2, 1) := by decide +kernel
theorem dL_876 : decode code 876 = .ok (.iadd, 1) := by decide +kernel
theorem dL_877 : decode code 877 = .ok (.iaload, 1) := by decide +kernel
theorem dL_878 : decode code 878 = .ok (.invokevirtual 99, 3) := by decide +kernel
theorem dL_881 : decode code 881 = .ok (.if_icmp .eq 970, 3) := by decide +kernel
theorem dL_884 : decode code 884 = .ok (.iconst 0, 1) := by decide +kernel
theorem dL_885 : decode code 885 = .ok (.ireturn, 1) := by decide +kernel
theorem dL_886 : decode code 886 = .ok (.aload_n 1, 1) := by decide +kernel
theorem dL_887 : decode code 887 = .ok (.aload_n 0, 1) := by decide +kernel
theorem dL_888 : decode code 888 = .ok (.iload_n 3, 1) := by decide +kernel
theorem dL_889 : decode code 889 = .ok (.iconst 1, 1) := by decide +kernel
theorem dL_890 : decode code 890 = .ok (.iadd, 1) := by decide +kernel
theorem dL_891 : decode code 891 = .ok (.iaload, 1) := by decide +kernel
theorem dL_892 : decode code 892 = .ok (.aload_n 0, 1) := by decide +kernel
theorem dL_893 : decode code 893 = .ok (.iload_n 3, 1) := by decide +kernel
theorem dL_894 : decode code 894 = .ok (.iconst 2, 1) := by decide +kernel
theorem dL_895 : decode code 895 = .ok (.iadd, 1) := by decide +kernel
theorem dL_896 : decode code 896 = .ok (.iaload, 1) := by decide +kernel
theorem dL_897 : decode code 897 = .ok (.ifCond .eq 7, 3) := by decide +kernel
theorem dL_900 : decode code 900 = .ok (.iconst 1, 1) := by decide +kernel
theorem dL_901 : decode code 901 = .ok (.goto 4, 3) := by decide +kernel
theorem dL_904 : decode code 904 = .ok (.iconst 0, 1) := by decide +kernel
theorem dL_905 : decode code 905 = .ok (.invokevirtual 100, 3) := by decide +kernel
theorem dL_908 : decode code 908 = .ok (.aload_n 2, 1) := by decide +kernel
theorem dL_909 : decode code 909 = .ok (.aload_n 0, 1) := by decide +kernel
theorem dL_910 : decode code 910 = .ok (.iload_n 3, 1) := by decide +kernel
theorem dL_911 : decode code 911 = .ok (.iconst 1, 1) := by decide +kernel
theorem dL_912 : decode code 912 = .ok (.iadd, 1) := by decide +kernel
theorem dL_913 : decode code 913 = .ok (.iaload, 1) := by decide +kernel
theorem dL_914 : decode code 914 = .ok (.aload_n 0, 1) := by decide +kernel
theorem dL_915 : decode code 915 = .ok (.iload_n 3, 1) := by decide +kernel
theorem dL_916 : decode code 916 = .ok (.iconst 2, 1) := by decide +kernel
theorem dL_917 : decode code 917 = .ok (.iadd, 1) := by decide +kernel
theorem dL_918 : decode code 918 = .ok (.iaload, 1) := by decide +kernel
theorem dL_919 : decode code 919 = .ok (.ifCond .eq 7, 3) := by decide +kernel
theorem dL_922 : decode code 922 = .ok (.iconst 1, 1) := by decide +kernel
theorem dL_923 : decode code 923 = .ok (.goto 4, 3) := by decide +kernel
theorem dL_926 : decode code 926 = .ok (.iconst 0, 1) := by decide +kernel
theorem dL_927 : decode code 927 = .ok (.invokevirtual 104, 3) := by decide +kernel
theorem dL_930 : decode code 930 = .ok (.if_icmp .eq 921, 3) := by decide +kernel
theorem dL_933 : decode code 933 = .ok (.iconst 0, 1) := by decide +kernel
theorem dL_934 : decode code 934 = .ok (.ireturn, 1) := by decide +kernel
theorem dL_935 : decode code 935 = .ok (.aload_n 1, 1) := by decide +kernel
theorem dL_936 : decode code 936 = .ok (.aload_n 0, 1) := by decide +kernel
theorem dL_937 : decode code 937 = .ok (.iload_n 3, 1) := by decide +kernel
theorem dL_938 : decode code 938 = .ok (.iconst 1, 1) := by decide +kernel
theorem dL_939 : decode code 939 = .ok (.iadd, 1) := by decide +kernel
theorem dL_940 : decode code 940 = .ok (.iaload, 1) := by decide +kernel
theorem dL_941 : decode code 941 = .ok (.invokevirtual 105, 3) := by decide +kernel
theorem dL_944 : decode code 944 = .ok (.aload_n 2, 1) := by decide +kernel
theorem dL_945 : decode code 945 = .ok (.aload_n 0, 1) := by decide +kernel
theorem dL_946 : decode code 946 = .ok (.iload_n 3, 1) := by decide +kernel
theorem dL_947 : decode code 947 = .ok (.iconst 1, 1) := by decide +kernel
theorem dL_948 : decode code 948 = .ok (.iadd, 1) := by decide +kernel
theorem dL_949 : decode code 949 = .ok (.iaload, 1) := by decide +kernel
theorem dL_950 : decode code 950 = .ok (.invokevirtual 108, 3) := by decide +kernel
theorem dL_953 : decode code 953 = .ok (.if_icmp .eq 898, 3) := by decide +kernel
theorem dL_956 : decode code 956 = .ok (.iconst 0, 1) := by decide +kernel
theorem dL_957 : decode code 957 = .ok (.ireturn, 1) := by decide +kernel
theorem dL_958 : decode code 958 = .ok (.aload_n 1, 1) := by decide +kernel
theorem dL_959 : decode code 959 = .ok (.aload_n 0, 1) := by decide +kernel
theorem dL_960 : decode code 960 = .ok (.iload_n 3, 1) := by decide +kernel
theorem dL_961 : decode code 961 = .ok (.iconst 1, 1) := by decide +kernel
theorem dL_962 : decode code 962 = .ok (.iadd, 1) := by decide +kernel
theorem dL_963 : decode code 963 = .ok (.iaload, 1) := by decide +kernel
theorem dL_964 : decode code 964 = .ok (.invokevirtual 109, 3) := by decide +kernel
theorem dL_967 : decode code 967 = .ok (.aload_n 2, 1) := by decide +kernel
theorem dL_968 : decode code 968 = .ok (.aload_n 0, 1) := by decide +kernel
theorem dL_969 : decode code 969 = .ok (.iload_n 3, 1) := by decide +kernel
theorem dL_970 : decode code 970 = .ok (.iconst 1, 1) := by decide +kernel
theorem dL_971 : decode code 971 = .ok (.iadd, 1) := by decide +kernel
theorem dL_972 : decode code 972 = .ok (.iaload, 1) := by decide +kernel
theorem dL_973 : decode code 973 = .ok (.invokevirtual 112, 3) := by decide +kernel
theorem dL_976 : decode code 976 = .ok (.if_icmp .eq 875, 3) := by decide +kernel
theorem dL_979 : decode code 979 = .ok (.iconst 0, 1) := by decide +kernel
theorem dL_980 : decode code 980 = .ok (.ireturn, 1) := by decide +kernel
theorem dL_981 : decode code 981 = .ok (.aload_n 1, 1) := by decide +kernel
theorem dL_982 : decode code 982 = .ok (.aload_n 0, 1) := by decide +kernel
theorem dL_983 : decode code 983 = .ok (.iload_n 3, 1) := by decide +kernel
theorem dL_984 : decode code 984 = .ok (.iconst 1, 1) := by decide +kernel
theorem dL_985 : decode code 985 = .ok (.iadd, 1) := by decide +kernel
theorem dL_986 : decode code 986 = .ok (.iaload, 1) := by decide +kernel
theorem dL_987 : decode code 987 = .ok (.aload_n 0, 1) := by decide +kernel
theorem dL_988 : decode code 988 = .ok (.iload_n 3, 1) := by decide +kernel
theorem dL_989 : decode code 989 = .ok (.iconst 2, 1) := by decide +kernel
theorem dL_990 : decode code 990 = .ok (.iadd, 1) := by decide +kernel
theorem dL_991 : decode code 991 = .ok (.iaload, 1) := by decide +kernel
theorem dL_992 : decode code 992 = .ok (.invokevirtual 113, 3) := by decide +kernel
theorem dL_995 : decode code 995 = .ok (.aload_n 2, 1) := by decide +kernel
theorem dL_996 : decode code 996 = .ok (.aload_n 0, 1) := by decide +kernel
theorem dL_997 : decode code 997 = .ok (.iload_n 3, 1) := by decide +kernel
theorem dL_998 : decode code 998 = .ok (.iconst 1, 1) := by decide +kernel
theorem dL_999 : decode code 999 = .ok (.iadd, 1) := by decide +kernel
theorem dL_1000 : decode code 1000 = .ok (.iaload, 1) := by decide +kernel
theorem dL_1001 : decode code 1001 = .ok (.aload_n 0, 1) := by decide +kernel
theorem dL_1002 : decode code 1002 = .ok (.iload_n 3, 1) := by decide +kernel
theorem dL_1003 : decode code 1003 = .ok (.iconst 2, 1) := by decide +kernel
theorem dL_1004 : decode code 1004 = .ok (.iadd, 1) := by decide +kernel
theorem dL_1005 : decode code 1005 = .ok (.iaload, 1) := by decide +kernel
theorem dL_1006 : decode code 1006 = .ok (.invokevirtual 116, 3) := by decide +kernel
theorem dL_1009 : decode code 1009 = .ok (.if_icmp .eq 842, 3) := by decide +kernel
theorem dL_1012 : decode code 1012 = .ok (.iconst 0, 1) := by decide +kernel
theorem dL_1013 : decode code 1013 = .ok (.ireturn, 1) := by decide +kernel
theorem dL_1014 : decode code 1014 = .ok (.aload_n 1, 1) := by decide +kernel
theorem dL_1015 : decode code 1015 = .ok (.aload_n 0, 1) := by decide +kernel
theorem dL_1016 : decode code 1016 = .ok (.iload_n 3, 1) := by decide +kernel
theorem dL_1017 : decode code 1017 = .ok (.iconst 1, 1) := by decide +kernel
theorem dL_1018 : decode code 1018 = .ok (.iadd, 1) := by decide +kernel
theorem dL_1019 : decode code 1019 = .ok (.iaload, 1) := by decide +kernel
theorem dL_1020 : decode code 1020 = .ok (.aload_n 0, 1) := by decide +kernel
theorem dL_1021 : decode code 1021 = .ok (.iload_n 3, 1) := by decide +kernel
theorem dL_1022 : decode code 1022 = .ok (.iconst 2, 1) := by decide +kernel
theorem dL_1023 : decode code 1023 = .ok (.iadd, 1) := by decide +kernel
theorem dL_1024 : decode code 1024 = .ok (.iaload, 1) := by decide +kernel
theorem dL_1025 : decode code 1025 = .ok (.aload_n 0, 1) := by decide +kernel
theorem dL_1026 : decode code 1026 = .ok (.iload_n 3, 1) := by decide +kernel
theorem dL_1027 : decode code 1027 = .ok (.iconst 3, 1) := by decide +kernel
theorem dL_1028 : decode code 1028 = .ok (.iadd, 1) := by decide +kernel
theorem dL_1029 : decode code 1029 = .ok (.iaload, 1) := by decide +kernel
theorem dL_1030 : decode code 1030 = .ok (.invokevirtual 117, 3) := by decide +kernel
theorem dL_1033 : decode code 1033 = .ok (.aload_n 2, 1) := by decide +kernel
theorem dL_1034 : decode code 1034 = .ok (.aload_n 0, 1) := by decide +kernel
theorem dL_1035 : decode code 1035 = .ok (.iload_n 3, 1) := by decide +kernel
theorem dL_1036 : decode code 1036 = .ok (.iconst 1, 1) := by decide +kernel
theorem dL_1037 : decode code 1037 = .ok (.iadd, 1) := by decide +kernel
theorem dL_1038 : decode code 1038 = .ok (.iaload, 1) := by decide +kernel
theorem dL_1039 : decode code 1039 = .ok (.aload_n 0, 1) := by decide +kernel
theorem dL_1040 : decode code 1040 = .ok (.iload_n 3, 1) := by decide +kernel
theorem dL_1041 : decode code 1041 = .ok (.iconst 2, 1) := by decide +kernel
theorem dL_1042 : decode code 1042 = .ok (.iadd, 1) := by decide +kernel
theorem dL_1043 : decode code 1043 = .ok (.iaload, 1) := by decide +kernel
theorem dL_1044 : decode code 1044 = .ok (.aload_n 0, 1) := by decide +kernel
theorem dL_1045 : decode code 1045 = .ok (.iload_n 3, 1) := by decide +kernel
theorem dL_1046 : decode code 1046 = .ok (.iconst 3, 1) := by decide +kernel
theorem dL_1047 : decode code 1047 = .ok (.iadd, 1) := by decide +kernel
theorem dL_1048 : decode code 1048 = .ok (.iaload, 1) := by decide +kernel
theorem dL_1049 : decode code 1049 = .ok (.invokevirtual 121, 3) := by decide +kernel
theorem dL_1052 : decode code 1052 = .ok (.if_icmp .eq 799, 3) := by decide +kernel
theorem dL_1055 : decode code 1055 = .ok (.iconst 0, 1) := by decide +kernel
theorem dL_1056 : decode code 1056 = .ok (.ireturn, 1) := by decide +kernel
theorem dL_1057 : decode code 1057 = .ok (.aload_n 1, 1) := by decide +kernel
theorem dL_1058 : decode code 1058 = .ok (.aload_n 0, 1) := by decide +kernel
theorem dL_1059 : decode code 1059 = .ok (.iload_n 3, 1) := by decide +kernel
theorem dL_1060 : decode code 1060 = .ok (.iconst 1, 1) := by decide +kernel
theorem dL_1061 : decode code 1061 = .ok (.iadd, 1) := by decide +kernel
theorem dL_1062 : decode code 1062 = .ok (.iaload, 1) := by decide +kernel
theorem dL_1063 : decode code 1063 = .ok (.aload_n 0, 1) := by decide +kernel
theorem dL_1064 : decode code 1064 = .ok (.iload_n 3, 1) := by decide +kernel
theorem dL_1065 : decode code 1065 = .ok (.iconst 2, 1) := by decide +kernel
theorem dL_1066 : decode code 1066 = .ok (.iadd, 1) := by decide +kernel
theorem dL_1067 : decode code 1067 = .ok (.iaload, 1) := by decide +kernel
theorem dL_1068 : decode code 1068 = .ok (.invokevirtual 122, 3) := by decide +kernel
theorem dL_1071 : decode code 1071 = .ok (.aload_n 2, 1) := by decide +kernel
theorem dL_1072 : decode code 1072 = .ok (.aload_n 0, 1) := by decide +kernel
theorem dL_1073 : decode code 1073 = .ok (.iload_n 3, 1) := by decide +kernel
theorem dL_1074 : decode code 1074 = .ok (.iconst 1, 1) := by decide +kernel
theorem dL_1075 : decode code 1075 = .ok (.iadd, 1) := by decide +kernel
theorem dL_1076 : decode code 1076 = .ok (.iaload, 1) := by decide +kernel
theorem dL_1077 : decode code 1077 = .ok (.aload_n 0, 1) := by decide +kernel
theorem dL_1078 : decode code 1078 = .ok (.iload_n 3, 1) := by decide +kernel
theorem dL_1079 : decode code 1079 = .ok (.iconst 2, 1) := by decide +kernel
theorem dL_1080 : decode code 1080 = .ok (.iadd, 1) := by decide +kernel
theorem dL_1081 : decode code 1081 = .ok (.iaload, 1) := by decide +kernel
theorem dL_1082 : decode code 1082 = .ok (.invokevirtual 125, 3) := by decide +kernel
theorem dL_1085 : decode code 1085 = .ok (.if_icmp .eq 766, 3) := by decide +kernel
theorem dL_1088 : decode code 1088 = .ok (.iconst 0, 1) := by decide +kernel
theorem dL_1089 : decode code 1089 = .ok (.ireturn, 1) := by decide +kernel
theorem dL_1090 : decode code 1090 = .ok (.aload_n 1, 1) := by decide +kernel
theorem dL_1091 : decode code 1091 = .ok (.aload_n 0, 1) := by decide +kernel
theorem dL_1092 : decode code 1092 = .ok (.iload_n 3, 1) := by decide +kernel
theorem dL_1093 : decode code 1093 = .ok (.iconst 1, 1) := by decide +kernel
theorem dL_1094 : decode code 1094 = .ok (.iadd, 1) := by decide +kernel
theorem dL_1095 : decode code 1095 = .ok (.iaload, 1) := by decide +kernel
theorem dL_1096 : decode code 1096 = .ok (.aload_n 0, 1) := by decide +kernel
theorem dL_1097 : decode code 1097 = .ok (.iload_n 3, 1) := by decide +kernel
theorem dL_1098 : decode code 1098 = .ok (.iconst 2, 1) := by decide +kernel
theorem dL_1099 : decode code 1099 = .ok (.iadd, 1) := by decide +kernel
theorem dL_1100 : decode code 1100 = .ok (.iaload, 1) := by decide +kernel
theorem dL_1101 : decode code 1101 = .ok (.invokevirtual 126, 3) := by decide +kernel
theorem dL_1104 : decode code 1104 = .ok (.aload_n 2, 1) := by decide +kernel
theorem dL_1105 : decode code 1105 = .ok (.aload_n 0, 1) := by decide +kernel
theorem dL_1106 : decode code 1106 = .ok (.iload_n 3, 1) := by decide +kernel
theorem dL_1107 : decode code 1107 = .ok (.iconst 1, 1) := by decide +kernel
theorem dL_1108 : decode code 1108 = .ok (.iadd, 1) := by decide +kernel
theorem dL_1109 : decode code 1109 = .ok (.iaload, 1) := by decide +kernel
theorem dL_1110 : decode code 1110 = .ok (.aload_n 0, 1) := by decide +kernel
theorem dL_1111 : decode code 1111 = .ok (.iload_n 3, 1) := by decide +kernel
theorem dL_1112 : decode code 1112 = .ok (.iconst 2, 1) := by decide +kernel
theorem dL_1113 : decode code 1113 = .ok (.iadd, 1) := by decide +kernel
theorem dL_1114 : decode code 1114 = .ok (.iaload, 1) := by decide +kernel
theorem dL_1115 : decode code 1115 = .ok (.invokevirtual 129, 3) := by decide +kernel
theorem dL_1118 : decode code 1118 = .ok (.if_icmp .eq 733, 3) := by decide +kernel
theorem dL_1121 : decode code 1121 = .ok (.iconst 0, 1) := by decide +kernel
theorem dL_1122 : decode code 1122 = .ok (.ireturn, 1) := by decide +kernel
theorem dL_1123 : decode code 1123 = .ok (.aload_n 1, 1) := by decide +kernel
theorem dL_1124 : decode code 1124 = .ok (.aload_n 0, 1) := by decide +kernel
theorem dL_1125 : decode code 1125 = .ok (.iload_n 3, 1) := by decide +kernel
theorem dL_1126 : decode code 1126 = .ok (.iconst 1, 1) := by decide +kernel
theorem dL_1127 : decode code 1127 = .ok (.iadd, 1) := by decide +kernel
theorem dL_1128 : decode code 1128 = .ok (.iaload, 1) := by decide +kernel
theorem dL_1129 : decode code 1129 = .ok (.invokevirtual 130, 3) := by decide +kernel
theorem dL_1132 : decode code 1132 = .ok (.aload_n 2, 1) := by decide +kernel
theorem dL_1133 : decode code 1133 = .ok (.aload_n 0, 1) := by decide +kernel
theorem dL_1134 : decode code 1134 = .ok (.iload_n 3, 1) := by decide +kernel
theorem dL_1135 : decode code 1135 = .ok (.iconst 1, 1) := by decide +kernel
theorem dL_1136 : decode code 1136 = .ok (.iadd, 1) := by decide +kernel
theorem dL_1137 : decode code 1137 = .ok (.iaload, 1) := by decide +kernel
theorem dL_1138 : decode code 1138 = .ok (.invokevirtual 134, 3) := by decide +kernel
theorem dL_1141 : decode code 1141 = .ok (.if_icmp .eq 710, 3) := by decide +kernel
theorem dL_1144 : decode code 1144 = .ok (.iconst 0, 1) := by decide +kernel
theorem dL_1145 : decode code 1145 = .ok (.ireturn, 1) := by decide +kernel
theorem dL_1146 : decode code 1146 = .ok (.aload_n 1, 1) := by decide +kernel
theorem dL_1147 : decode code 1147 = .ok (.aload_n 0, 1) := by decide +kernel
theorem dL_1148 : decode code 1148 = .ok (.iload_n 3, 1) := by decide +kernel
theorem dL_1149 : decode code 1149 = .ok (.iconst 1, 1) := by decide +kernel
theorem dL_1150 : decode code 1150 = .ok (.iadd, 1) := by decide +kernel
theorem dL_1151 : decode code 1151 = .ok (.iaload, 1) := by decide +kernel
theorem dL_1152 : decode code 1152 = .ok (.invokevirtual 135, 3) := by decide +kernel
theorem dL_1155 : decode code 1155 = .ok (.aload_n 2, 1) := by decide +kernel
theorem dL_1156 : decode code 1156 = .ok (.aload_n 0, 1) := by decide +kernel
theorem dL_1157 : decode code 1157 = .ok (.iload_n 3, 1) := by decide +kernel
theorem dL_1158 : decode code 1158 = .ok (.iconst 1, 1) := by decide +kernel
theorem dL_1159 : decode code 1159 = .ok (.iadd, 1) := by decide +kernel
theorem dL_1160 : decode code 1160 = .ok (.iaload, 1) := by decide +kernel
theorem dL_1161 : decode code 1161 = .ok (.invokevirtual 138, 3) := by decide +kernel
theorem dL_1164 : decode code 1164 = .ok (.if_icmp .eq 687, 3) := by decide +kernel
theorem dL_1167 : decode code 1167 = .ok (.iconst 0, 1) := by decide +kernel
theorem dL_1168 : decode code 1168 = .ok (.ireturn, 1) := by decide +kernel
theorem dL_1169 : decode code 1169 = .ok (.aload_n 1, 1) := by decide +kernel
theorem dL_1170 : decode code 1170 = .ok (.aload_n 0, 1) := by decide +kernel
theorem dL_1171 : decode code 1171 = .ok (.iload_n 3, 1) := by decide +kernel
theorem dL_1172 : decode code 1172 = .ok (.iconst 1, 1) := by decide +kernel
theorem dL_1173 : decode code 1173 = .ok (.iadd, 1) := by decide +kernel
theorem dL_1174 : decode code 1174 = .ok (.iaload, 1) := by decide +kernel
theorem dL_1175 : decode code 1175 = .ok (.invokevirtual 139, 3) := by decide +kernel
theorem dL_1178 : decode code 1178 = .ok (.aload_n 2, 1) := by decide +kernel
theorem dL_1179 : decode code 1179 = .ok (.aload_n 0, 1) := by decide +kernel
theorem dL_1180 : decode code 1180 = .ok (.iload_n 3, 1) := by decide +kernel
theorem dL_1181 : decode code 1181 = .ok (.iconst 1, 1) := by decide +kernel
theorem dL_1182 : decode code 1182 = .ok (.iadd, 1) := by decide +kernel
theorem dL_1183 : decode code 1183 = .ok (.iaload, 1) := by decide +kernel
theorem dL_1184 : decode code 1184 = .ok (.invokevirtual 142, 3) := by decide +kernel
theorem dL_1187 : decode code 1187 = .ok (.if_icmp .eq 664, 3) := by decide +kernel
theorem dL_1190 : decode code 1190 = .ok (.iconst 0, 1) := by decide +kernel
theorem dL_1191 : decode code 1191 = .ok (.ireturn, 1) := by decide +kernel
theorem dL_1192 : decode code 1192 = .ok (.aload_n 1, 1) := by decide +kernel
theorem dL_1193 : decode code 1193 = .ok (.aload_n 0, 1) := by decide +kernel
theorem dL_1194 : decode code 1194 = .ok (.iload_n 3, 1) := by decide +kernel
theorem dL_1195 : decode code 1195 = .ok (.iconst 1, 1) := by decide +kernel
theorem dL_1196 : decode code 1196 = .ok (.iadd, 1) := by decide +kernel
theorem dL_1197 : decode code 1197 = .ok (.iaload, 1) := by decide +kernel
theorem dL_1198 : decode code 1198 = .ok (.invokevirtual 143, 3) := by decide +kernel
theorem dL_1201 : decode code 1201 = .ok (.aload_n 2, 1) := by decide +kernel
theorem dL_1202 : decode code 1202 = .ok (.aload_n 0, 1) := by decide +kernel
theorem dL_1203 : decode code 1203 = .ok (.iload_n 3, 1) := by decide +kernel
theorem dL_1204 : decode code 1204 = .ok (.iconst 1, 1) := by decide +kernel
theorem dL_1205 : decode code 1205 = .ok (.iadd, 1) := by decide +kernel
theorem dL_1206 : decode code 1206 = .ok (.iaload, 1) := by decide +kernel
theorem dL_1207 : decode code 1207 = .ok (.invokevirtual 146, 3) := by decide +kernel
theorem dL_1210 : decode code 1210 = .ok (.if_icmp .eq 641, 3) := by decide +kernel
theorem dL_1213 : decode code 1213 = .ok (.iconst 0, 1) := by decide +kernel
theorem dL_1214 : decode code 1214 = .ok (.ireturn, 1) := by decide +kernel
theorem dL_1215 : decode code 1215 = .ok (.aload_n 1, 1) := by decide +kernel
theorem dL_1216 : decode code 1216 = .ok (.aload_n 0, 1) := by decide +kernel
theorem dL_1217 : decode code 1217 = .ok (.iload_n 3, 1) := by decide +kernel
theorem dL_1218 : decode code 1218 = .ok (.iconst 1, 1) := by decide +kernel
theorem dL_1219 : decode code 1219 = .ok (.iadd, 1) := by decide +kernel
theorem dL_1220 : decode code 1220 = .ok (.iaload, 1) := by decide +kernel
theorem dL_1221 : decode code 1221 = .ok (.aload_n 0, 1) := by decide +kernel
theorem dL_1222 : decode code 1222 = .ok (.iload_n 3, 1) := by decide +kernel
theorem dL_1223 : decode code 1223 = .ok (.iconst 2, 1) := by decide +kernel
theorem dL_1224 : decode code 1224 = .ok (.iadd, 1) := by decide +kernel
theorem dL_1225 : decode code 1225 = .ok (.iaload, 1) := by decide +kernel
theorem dL_1226 : decode code 1226 = .ok (.invokevirtual 147, 3) := by decide +kernel
theorem dL_1229 : decode code 1229 = .ok (.aload_n 2, 1) := by decide +kernel
theorem dL_1230 : decode code 1230 = .ok (.aload_n 0, 1) := by decide +kernel
theorem dL_1231 : decode code 1231 = .ok (.iload_n 3, 1) := by decide +kernel
theorem dL_1232 : decode code 1232 = .ok (.iconst 1, 1) := by decide +kernel
theorem dL_1233 : decode code 1233 = .ok (.iadd, 1) := by decide +kernel
theorem dL_1234 : decode code 1234 = .ok (.iaload, 1) := by decide +kernel
theorem dL_1235 : decode code 1235 = .ok (.aload_n 0, 1) := by decide +kernel
theorem dL_1236 : decode code 1236 = .ok (.iload_n 3, 1) := by decide +kernel
theorem dL_1237 : decode code 1237 = .ok (.iconst 2, 1) := by decide +kernel
theorem dL_1238 : decode code 1238 = .ok (.iadd, 1) := by decide +kernel
theorem dL_1239 : decode code 1239 = .ok (.iaload, 1) := by decide +kernel
theorem dL_1240 : decode code 1240 = .ok (.invokevirtual 150, 3) := by decide +kernel
theorem dL_1243 : decode code 1243 = .ok (.if_icmp .eq 608, 3) := by decide +kernel
theorem dL_1246 : decode code 1246 = .ok (.iconst 0, 1) := by decide +kernel
theorem dL_1247 : decode code 1247 = .ok (.ireturn, 1) := by decide +kernel
theorem dL_1248 : decode code 1248 = .ok (.aload_n 1, 1) := by decide +kernel
theorem dL_1249 : decode code 1249 = .ok (.aload_n 0, 1) := by decide +kernel
theorem dL_1250 : decode code 1250 = .ok (.iload_n 3, 1) := by decide +kernel
theorem dL_1251 : decode code 1251 = .ok (.iconst 1, 1) := by decide +kernel
theorem dL_1252 : decode code 1252 = .ok (.iadd, 1) := by decide +kernel
theorem dL_1253 : decode code 1253 = .ok (.iaload, 1) := by decide +kernel
theorem dL_1254 : decode code 1254 = .ok (.aload_n 0, 1) := by decide +kernel
theorem dL_1255 : decode code 1255 = .ok (.iload_n 3, 1) := by decide +kernel
theorem dL_1256 : decode code 1256 = .ok (.iconst 2, 1) := by decide +kernel
theorem dL_1257 : decode code 1257 = .ok (.iadd, 1) := by decide +kernel
theorem dL_1258 : decode code 1258 = .ok (.iaload, 1) := by decide +kernel
theorem dL_1259 : decode code 1259 = .ok (.aload_n 0, 1) := by decide +kernel
theorem dL_1260 : decode code 1260 = .ok (.iload_n 3, 1) := by decide +kernel
theorem dL_1261 : decode code 1261 = .ok (.iconst 3, 1) := by decide +kernel
theorem dL_1262 : decode code 1262 = .ok (.iadd, 1) := by decide +kernel
theorem dL_1263 : decode code 1263 = .ok (.iaload, 1) := by decide +kernel
theorem dL_1264 : decode code 1264 = .ok (.aload_n 0, 1) := by decide +kernel
theorem dL_1265 : decode code 1265 = .ok (.iload_n 3, 1) := by decide +kernel
theorem dL_1266 : decode code 1266 = .ok (.iconst 4, 1) := by decide +kernel
theorem dL_1267 : decode code 1267 = .ok (.iadd, 1) := by decide +kernel
theorem dL_1268 : decode code 1268 = .ok (.iaload, 1) := by decide +kernel
theorem dL_1269 : decode code 1269 = .ok (.invokevirtual 151, 3) := by decide +kernel
theorem dL_1272 : decode code 1272 = .ok (.aload_n 2, 1) := by decide +kernel
theorem dL_1273 : decode code 1273 = .ok (.aload_n 0, 1) := by decide +kernel
theorem dL_1274 : decode code 1274 = .ok (.iload_n 3, 1) := by decide +kernel
theorem dL_1275 : decode code 1275 = .ok (.iconst 1, 1) := by decide +kernel
theorem dL_1276 : decode code 1276 = .ok (.iadd, 1) := by decide +kernel
theorem dL_1277 : decode code 1277 = .ok (.iaload, 1) := by decide +kernel
theorem dL_1278 : decode code 1278 = .ok (.aload_n 0, 1) := by decide +kernel
theorem dL_1279 : decode code 1279 = .ok (.iload_n 3, 1) := by decide +kernel
theorem dL_1280 : decode code 1280 = .ok (.iconst 2, 1) := by decide +kernel
theorem dL_1281 : decode code 1281 = .ok (.iadd, 1) := by decide +kernel
theorem dL_1282 : decode code 1282 = .ok (.iaload, 1) := by decide +kernel
theorem dL_1283 : decode code 1283 = .ok (.aload_n 0, 1) := by decide +kernel
theorem dL_1284 : decode code 1284 = .ok (.iload_n 3, 1) := by decide +kernel
theorem dL_1285 : decode code 1285 = .ok (.iconst 3, 1) := by decide +kernel
theorem dL_1286 : decode code 1286 = .ok (.iadd, 1) := by decide +kernel
theorem dL_1287 : decode code 1287 = .ok (.iaload, 1) := by decide +kernel
theorem dL_1288 : decode code 1288 = .ok (.aload_n 0, 1) := by decide +kernel
theorem dL_1289 : decode code 1289 = .ok (.iload_n 3, 1) := by decide +kernel
theorem dL_1290 : decode code 1290 = .ok (.iconst 4, 1) := by decide +kernel
theorem dL_1291 : decode code 1291 = .ok (.iadd, 1) := by decide +kernel
theorem dL_1292 : decode code 1292 = .ok (.iaload, 1) := by decide +kernel
theorem dL_1293 : decode code 1293 = .ok (.invokevirtual 155, 3) := by decide +kernel
theorem dL_1296 : decode code 1296 = .ok (.if_icmp .eq 555, 3) := by decide +kernel
theorem dL_1299 : decode code 1299 = .ok (.iconst 0, 1) := by decide +kernel
theorem dL_1300 : decode code 1300 = .ok (.ireturn, 1) := by decide +kernel
theorem dL_1301 : decode code 1301 = .ok (.aload_n 1, 1) := by decide +kernel
theorem dL_1302 : decode code 1302 = .ok (.aload_n 0, 1) := by decide +kernel
theorem dL_1303 : decode code 1303 = .ok (.iload_n 3, 1) := by decide +kernel
theorem dL_1304 : decode code 1304 = .ok (.iconst 1, 1) := by decide +kernel
theorem dL_1305 : decode code 1305 = .ok (.iadd, 1) := by decide +kernel
theorem dL_1306 : decode code 1306 = .ok (.iaload, 1) := by decide +kernel
theorem dL_1307 : decode code 1307 = .ok (.invokevirtual 156, 3) := by decide +kernel
theorem dL_1310 : decode code 1310 = .ok (.aload_n 2, 1) := by decide +kernel
theorem dL_1311 : decode code 1311 = .ok (.aload_n 0, 1) := by decide +kernel
theorem dL_1312 : decode code 1312 = .ok (.iload_n 3, 1) := by decide +kernel
theorem dL_1313 : decode code 1313 = .ok (.iconst 1, 1) := by decide +kernel
theorem dL_1314 : decode code 1314 = .ok (.iadd, 1) := by decide +kernel
theorem dL_1315 : decode code 1315 = .ok (.iaload, 1) := by decide +kernel
theorem dL_1316 : decode code 1316 = .ok (.invokevirtual 159, 3) := by decide +kernel
theorem dL_1319 : decode code 1319 = .ok (.if_icmp .eq 532, 3) := by decide +kernel
theorem dL_1322 : decode code 1322 = .ok (.iconst 0, 1) := by decide +kernel
theorem dL_1323 : decode code 1323 = .ok (.ireturn, 1) := by decide +kernel
theorem dL_1324 : decode code 1324 = .ok (.aload_n 1, 1) := by decide +kernel
theorem dL_1325 : decode code 1325 = .ok (.aload_n 0, 1) := by decide +kernel
theorem dL_1326 : decode code 1326 = .ok (.iload_n 3, 1) := by decide +kernel
theorem dL_1327 : decode code 1327 = .ok (.iconst 1, 1) := by decide +kernel
theorem dL_1328 : decode code 1328 = .ok (.iadd, 1) := by decide +kernel
theorem dL_1329 : decode code 1329 = .ok (.iaload, 1) := by decide +kernel
theorem dL_1330 : decode code 1330 = .ok (.aload_n 0, 1) := by decide +kernel
theorem dL_1331 : decode code 1331 = .ok (.iload_n 3, 1) := by decide +kernel
theorem dL_1332 : decode code 1332 = .ok (.iconst 2, 1) := by decide +kernel
theorem dL_1333 : decode code 1333 = .ok (.iadd, 1) := by decide +kernel
theorem dL_1334 : decode code 1334 = .ok (.iaload, 1) := by decide +kernel
theorem dL_1335 : decode code 1335 = .ok (.invokevirtual 160, 3) := by decide +kernel
theorem dL_1338 : decode code 1338 = .ok (.aload_n 2, 1) := by decide +kernel
theorem dL_1339 : decode code 1339 = .ok (.aload_n 0, 1) := by decide +kernel
theorem dL_1340 : decode code 1340 = .ok (.iload_n 3, 1) := by decide +kernel
theorem dL_1341 : decode code 1341 = .ok (.iconst 1, 1) := by decide +kernel
theorem dL_1342 : decode code 1342 = .ok (.iadd, 1) := by decide +kernel
theorem dL_1343 : decode code 1343 = .ok (.iaload, 1) := by decide +kernel
theorem dL_1344 : decode code 1344 = .ok (.aload_n 0, 1) := by decide +kernel
theorem dL_1345 : decode code 1345 = .ok (.iload_n 3, 1) := by decide +kernel
theorem dL_1346 : decode code 1346 = .ok (.iconst 2, 1) := by decide +kernel
theorem dL_1347 : decode code 1347 = .ok (.iadd, 1) := by decide +kernel
theorem dL_1348 : decode code 1348 = .ok (.iaload, 1) := by decide +kernel
theorem dL_1349 : decode code 1349 = .ok (.invokevirtual 164, 3) := by decide +kernel
theorem dL_1352 : decode code 1352 = .ok (.if_icmp .eq 499, 3) := by decide +kernel
theorem dL_1355 : decode code 1355 = .ok (.iconst 0, 1) := by decide +kernel
theorem dL_1356 : decode code 1356 = .ok (.ireturn, 1) := by decide +kernel
theorem dL_1357 : decode code 1357 = .ok (.aload_n 1, 1) := by decide +kernel
theorem dL_1358 : decode code 1358 = .ok (.aload_n 0, 1) := by decide +kernel
theorem dL_1359 : decode code 1359 = .ok (.iload_n 3, 1) := by decide +kernel
theorem dL_1360 : decode code 1360 = .ok (.iconst 1, 1) := by decide +kernel
theorem dL_1361 : decode code 1361 = .ok (.iadd, 1) := by decide +kernel
theorem dL_1362 : decode code 1362 = .ok (.iaload, 1) := by decide +kernel
theorem dL_1363 : decode code 1363 = .ok (.aload_n 0, 1) := by decide +kernel
theorem dL_1364 : decode code 1364 = .ok (.iload_n 3, 1) := by decide +kernel
theorem dL_1365 : decode code 1365 = .ok (.iconst 2, 1) := by decide +kernel
theorem dL_1366 : decode code 1366 = .ok (.iadd, 1) := by decide +kernel
theorem dL_1367 : decode code 1367 = .ok (.iaload, 1) := by decide +kernel
theorem dL_1368 : decode code 1368 = .ok (.invokevirtual 165, 3) := by decide +kernel
theorem dL_1371 : decode code 1371 = .ok (.aload_n 2, 1) := by decide +kernel
theorem dL_1372 : decode code 1372 = .ok (.aload_n 0, 1) := by decide +kernel
theorem dL_1373 : decode code 1373 = .ok (.iload_n 3, 1) := by decide +kernel
theorem dL_1374 : decode code 1374 = .ok (.iconst 1, 1) := by decide +kernel
theorem dL_1375 : decode code 1375 = .ok (.iadd, 1) := by decide +kernel
theorem dL_1376 : decode code 1376 = .ok (.iaload, 1) := by decide +kernel
theorem dL_1377 : decode code 1377 = .ok (.aload_n 0, 1) := by decide +kernel
theorem dL_1378 : decode code 1378 = .ok (.iload_n 3, 1) := by decide +kernel
theorem dL_1379 : decode code 1379 = .ok (.iconst 2, 1) := by decide +kernel
theorem dL_1380 : decode code 1380 = .ok (.iadd, 1) := by decide +kernel
theorem dL_1381 : decode code 1381 = .ok (.iaload, 1) := by decide +kernel
theorem dL_1382 : decode code 1382 = .ok (.invokevirtual 168, 3) := by decide +kernel
theorem dL_1385 : decode code 1385 = .ok (.if_icmp .eq 466, 3) := by decide +kernel
theorem dL_1388 : decode code 1388 = .ok (.iconst 0, 1) := by decide +kernel
theorem dL_1389 : decode code 1389 = .ok (.ireturn, 1) := by decide +kernel
theorem dL_1390 : decode code 1390 = .ok (.aload_n 1, 1) := by decide +kernel
theorem dL_1391 : decode code 1391 = .ok (.aload_n 0, 1) := by decide +kernel
theorem dL_1392 : decode code 1392 = .ok (.iload_n 3, 1) := by decide +kernel
theorem dL_1393 : decode code 1393 = .ok (.iconst 1, 1) := by decide +kernel
theorem dL_1394 : decode code 1394 = .ok (.iadd, 1) := by decide +kernel
theorem dL_1395 : decode code 1395 = .ok (.iaload, 1) := by decide +kernel
theorem dL_1396 : decode code 1396 = .ok (.aload_n 0, 1) := by decide +kernel
theorem dL_1397 : decode code 1397 = .ok (.iload_n 3, 1) := by decide +kernel
theorem dL_1398 : decode code 1398 = .ok (.iconst 2, 1) := by decide +kernel
theorem dL_1399 : decode code 1399 = .ok (.iadd, 1) := by decide +kernel
theorem dL_1400 : decode code 1400 = .ok (.iaload, 1) := by decide +kernel
theorem dL_1401 : decode code 1401 = .ok (.aload_n 0, 1) := by decide +kernel
theorem dL_1402 : decode code 1402 = .ok (.iload_n 3, 1) := by decide +kernel
theorem dL_1403 : decode code 1403 = .ok (.iconst 3, 1) := by decide +kernel
theorem dL_1404 : decode code 1404 = .ok (.iadd, 1) := by decide +kernel
theorem dL_1405 : decode code 1405 = .ok (.iaload, 1) := by decide +kernel
theorem dL_1406 : decode code 1406 = .ok (.invokevirtual 169, 3) := by decide +kernel
theorem dL_1409 : decode code 1409 = .ok (.aload_n 2, 1) := by decide +kernel
theorem dL_1410 : decode code 1410 = .ok (.aload_n 0, 1) := by decide +kernel
theorem dL_1411 : decode code 1411 = .ok (.iload_n 3, 1) := by decide +kernel
theorem dL_1412 : decode code 1412 = .ok (.iconst 1, 1) := by decide +kernel
theorem dL_1413 : decode code 1413 = .ok (.iadd, 1) := by decide +kernel
theorem dL_1414 : decode code 1414 = .ok (.iaload, 1) := by decide +kernel
theorem dL_1415 : decode code 1415 = .ok (.aload_n 0, 1) := by decide +kernel
theorem dL_1416 : decode code 1416 = .ok (.iload_n 3, 1) := by decide +kernel
theorem dL_1417 : decode code 1417 = .ok (.iconst 2, 1) := by decide +kernel
theorem dL_1418 : decode code 1418 = .ok (.iadd, 1) := by decide +kernel
theorem dL_1419 : decode code 1419 = .ok (.iaload, 1) := by decide +kernel
theorem dL_1420 : decode code 1420 = .ok (.aload_n 0, 1) := by decide +kernel
theorem dL_1421 : decode code 1421 = .ok (.iload_n 3, 1) := by decide +kernel
theorem dL_1422 : decode code 1422 = .ok (.iconst 3, 1) := by decide +kernel
theorem dL_1423 : decode code 1423 = .ok (.iadd, 1) := by decide +kernel
theorem dL_1424 : decode code 1424 = .ok (.iaload, 1) := by decide +kernel
theorem dL_1425 : decode code 1425 = .ok (.invokevirtual 172, 3) := by decide +kernel
theorem dL_1428 : decode code 1428 = .ok (.if_icmp .eq 423, 3) := by decide +kernel
theorem dL_1431 : decode code 1431 = .ok (.iconst 0, 1) := by decide +kernel
theorem dL_1432 : decode code 1432 = .ok (.ireturn, 1) := by decide +kernel
theorem dL_1433 : decode code 1433 = .ok (.aload_n 1, 1) := by decide +kernel
theorem dL_1434 : decode code 1434 = .ok (.aload_n 0, 1) := by decide +kernel
theorem dL_1435 : decode code 1435 = .ok (.iload_n 3, 1) := by decide +kernel
theorem dL_1436 : decode code 1436 = .ok (.iconst 1, 1) := by decide +kernel
theorem dL_1437 : decode code 1437 = .ok (.iadd, 1) := by decide +kernel
theorem dL_1438 : decode code 1438 = .ok (.iaload, 1) := by decide +kernel
theorem dL_1439 : decode code 1439 = .ok (.aload_n 0, 1) := by decide +kernel
theorem dL_1440 : decode code 1440 = .ok (.iload_n 3, 1) := by decide +kernel
theorem dL_1441 : decode code 1441 = .ok (.iconst 2, 1) := by decide +kernel
theorem dL_1442 : decode code 1442 = .ok (.iadd, 1) := by decide +kernel
theorem dL_1443 : decode code 1443 = .ok (.iaload, 1) := by decide +kernel
theorem dL_1444 : decode code 1444 = .ok (.invokevirtual 173, 3) := by decide +kernel
theorem dL_1447 : decode code 1447 = .ok (.aload_n 2, 1) := by decide +kernel
theorem dL_1448 : decode code 1448 = .ok (.aload_n 0, 1) := by decide +kernel
theorem dL_1449 : decode code 1449 = .ok (.iload_n 3, 1) := by decide +kernel
theorem dL_1450 : decode code 1450 = .ok (.iconst 1, 1) := by decide +kernel
theorem dL_1451 : decode code 1451 = .ok (.iadd, 1) := by decide +kernel
theorem dL_1452 : decode code 1452 = .ok (.iaload, 1) := by decide +kernel
theorem dL_1453 : decode code 1453 = .ok (.aload_n 0, 1) := by decide +kernel
theorem dL_1454 : decode code 1454 = .ok (.iload_n 3, 1) := by decide +kernel
theorem dL_1455 : decode code 1455 = .ok (.iconst 2, 1) := by decide +kernel
theorem dL_1456 : decode code 1456 = .ok (.iadd, 1) := by decide +kernel
theorem dL_1457 : decode code 1457 = .ok (.iaload, 1) := by decide +kernel
theorem dL_1458 : decode code 1458 = .ok (.invokevirtual 176, 3) := by decide +kernel
theorem dL_1461 : decode code 1461 = .ok (.if_icmp .eq 390, 3) := by decide +kernel
theorem dL_1464 : decode code 1464 = .ok (.iconst 0, 1) := by decide +kernel
theorem dL_1465 : decode code 1465 = .ok (.ireturn, 1) := by decide +kernel
theorem dL_1466 : decode code 1466 = .ok (.aload_n 1, 1) := by decide +kernel
theorem dL_1467 : decode code 1467 = .ok (.aload_n 0, 1) := by decide +kernel
theorem dL_1468 : decode code 1468 = .ok (.iload_n 3, 1) := by decide +kernel
theorem dL_1469 : decode code 1469 = .ok (.iconst 1, 1) := by decide +kernel
theorem dL_1470 : decode code 1470 = .ok (.iadd, 1) := by decide +kernel
theorem dL_1471 : decode code 1471 = .ok (.iaload, 1) := by decide +kernel
theorem dL_1472 : decode code 1472 = .ok (.aload_n 0, 1) := by decide +kernel
theorem dL_1473 : decode code 1473 = .ok (.iload_n 3, 1) := by decide +kernel
theorem dL_1474 : decode code 1474 = .ok (.iconst 2, 1) := by decide +kernel
theorem dL_1475 : decode code 1475 = .ok (.iadd, 1) := by decide +kernel
theorem dL_1476 : decode code 1476 = .ok (.iaload, 1) := by decide +kernel
theorem dL_1477 : decode code 1477 = .ok (.invokevirtual 177, 3) := by decide +kernel
theorem dL_1480 : decode code 1480 = .ok (.aload_n 2, 1) := by decide +kernel
theorem dL_1481 : decode code 1481 = .ok (.aload_n 0, 1) := by decide +kernel
theorem dL_1482 : decode code 1482 = .ok (.iload_n 3, 1) := by decide +kernel
theorem dL_1483 : decode code 1483 = .ok (.iconst 1, 1) := by decide +kernel
theorem dL_1484 : decode code 1484 = .ok (.iadd, 1) := by decide +kernel
theorem dL_1485 : decode code 1485 = .ok (.iaload, 1) := by decide +kernel
theorem dL_1486 : decode code 1486 = .ok (.aload_n 0, 1) := by decide +kernel
theorem dL_1487 : decode code 1487 = .ok (.iload_n 3, 1) := by decide +kernel
theorem dL_1488 : decode code 1488 = .ok (.iconst 2, 1) := by decide +kernel
theorem dL_1489 : decode code 1489 = .ok (.iadd, 1) := by decide +kernel
theorem dL_1490 : decode code 1490 = .ok (.iaload, 1) := by decide +kernel
theorem dL_1491 : decode code 1491 = .ok (.invokevirtual 180, 3) := by decide +kernel
theorem dL_1494 : decode code 1494 = .ok (.if_icmp .eq 357, 3) := by decide +kernel
theorem dL_1497 : decode code 1497 = .ok (.iconst 0, 1) := by decide +kernel
theorem dL_1498 : decode code 1498 = .ok (.ireturn, 1) := by decide +kernel
theorem dL_1499 : decode code 1499 = .ok (.aload_n 1, 1) := by decide +kernel
theorem dL_1500 : decode code 1500 = .ok (.aload_n 0, 1) := by decide +kernel
theorem dL_1501 : decode code 1501 = .ok (.iload_n 3, 1) := by decide +kernel
theorem dL_1502 : decode code 1502 = .ok (.iconst 1, 1) := by decide +kernel
theorem dL_1503 : decode code 1503 = .ok (.iadd, 1) := by decide +kernel
theorem dL_1504 : decode code 1504 = .ok (.iaload, 1) := by decide +kernel
theorem dL_1505 : decode code 1505 = .ok (.aload_n 0, 1) := by decide +kernel
theorem dL_1506 : decode code 1506 = .ok (.iload_n 3, 1) := by decide +kernel
theorem dL_1507 : decode code 1507 = .ok (.iconst 2, 1) := by decide +kernel
theorem dL_1508 : decode code 1508 = .ok (.iadd, 1) := by decide +kernel
theorem dL_1509 : decode code 1509 = .ok (.iaload, 1) := by decide +kernel
theorem dL_1510 : decode code 1510 = .ok (.invokevirtual 181, 3) := by decide +kernel
theorem dL_1513 : decode code 1513 = .ok (.aload_n 2, 1) := by decide +kernel
theorem dL_1514 : decode code 1514 = .ok (.aload_n 0, 1) := by decide +kernel
theorem dL_1515 : decode code 1515 = .ok (.iload_n 3, 1) := by decide +kernel
theorem dL_1516 : decode code 1516 = .ok (.iconst 1, 1) := by decide +kernel
theorem dL_1517 : decode code 1517 = .ok (.iadd, 1) := by decide +kernel
theorem dL_1518 : decode code 1518 = .ok (.iaload, 1) := by decide +kernel
theorem dL_1519 : decode code 1519 = .ok (.aload_n 0, 1) := by decide +kernel
theorem dL_1520 : decode code 1520 = .ok (.iload_n 3, 1) := by decide +kernel
theorem dL_1521 : decode code 1521 = .ok (.iconst 2, 1) := by decide +kernel
theorem dL_1522 : decode code 1522 = .ok (.iadd, 1) := by decide +kernel
theorem dL_1523 : decode code 1523 = .ok (.iaload, 1) := by decide +kernel
theorem dL_1524 : decode code 1524 = .ok (.invokevirtual 184, 3) := by decide +kernel
theorem dL_1527 : decode code 1527 = .ok (.if_icmp .eq 324, 3) := by decide +kernel
theorem dL_1530 : decode code 1530 = .ok (.iconst 0, 1) := by decide +kernel
theorem dL_1531 : decode code 1531 = .ok (.ireturn, 1) := by decide +kernel
theorem dL_1532 : decode code 1532 = .ok (.aload_n 1, 1) := by decide +kernel
theorem dL_1533 : decode code 1533 = .ok (.invokevirtual 185, 3) := by decide +kernel
theorem dL_1536 : decode code 1536 = .ok (.aload_n 2, 1) := by decide +kernel
theorem dL_1537 : decode code 1537 = .ok (.invokevirtual 188, 3) := by decide +kernel
theorem dL_1540 : decode code 1540 = .ok (.if_icmp .eq 311, 3) := by decide +kernel
theorem dL_1543 : decode code 1543 = .ok (.iconst 0, 1) := by decide +kernel
theorem dL_1544 : decode code 1544 = .ok (.ireturn, 1) := by decide +kernel
theorem dL_1545 : decode code 1545 = .ok (.aload_n 1, 1) := by decide +kernel
theorem dL_1546 : decode code 1546 = .ok (.aload_n 0, 1) := by decide +kernel
theorem dL_1547 : decode code 1547 = .ok (.iload_n 3, 1) := by decide +kernel
theorem dL_1548 : decode code 1548 = .ok (.iconst 1, 1) := by decide +kernel
theorem dL_1549 : decode code 1549 = .ok (.iadd, 1) := by decide +kernel
theorem dL_1550 : decode code 1550 = .ok (.iaload, 1) := by decide +kernel
theorem dL_1551 : decode code 1551 = .ok (.invokevirtual 189, 3) := by decide +kernel
theorem dL_1554 : decode code 1554 = .ok (.aload_n 2, 1) := by decide +kernel
theorem dL_1555 : decode code 1555 = .ok (.aload_n 0, 1) := by decide +kernel
theorem dL_1556 : decode code 1556 = .ok (.iload_n 3, 1) := by decide +kernel
theorem dL_1557 : decode code 1557 = .ok (.iconst 1, 1) := by decide +kernel
theorem dL_1558 : decode code 1558 = .ok (.iadd, 1) := by decide +kernel
theorem dL_1559 : decode code 1559 = .ok (.iaload, 1) := by decide +kernel
theorem dL_1560 : decode code 1560 = .ok (.invokevirtual 192, 3) := by decide +kernel
theorem dL_1563 : decode code 1563 = .ok (.if_icmp .eq 288, 3) := by decide +kernel
theorem dL_1566 : decode code 1566 = .ok (.iconst 0, 1) := by decide +kernel
theorem dL_1567 : decode code 1567 = .ok (.ireturn, 1) := by decide +kernel
theorem dL_1568 : decode code 1568 = .ok (.aload_n 1, 1) := by decide +kernel
theorem dL_1569 : decode code 1569 = .ok (.aload_n 0, 1) := by decide +kernel
theorem dL_1570 : decode code 1570 = .ok (.iload_n 3, 1) := by decide +kernel
theorem dL_1571 : decode code 1571 = .ok (.iconst 1, 1) := by decide +kernel
theorem dL_1572 : decode code 1572 = .ok (.iadd, 1) := by decide +kernel
theorem dL_1573 : decode code 1573 = .ok (.iaload, 1) := by decide +kernel
theorem dL_1574 : decode code 1574 = .ok (.aload_n 0, 1) := by decide +kernel
theorem dL_1575 : decode code 1575 = .ok (.iload_n 3, 1) := by decide +kernel
theorem dL_1576 : decode code 1576 = .ok (.iconst 2, 1) := by decide +kernel
theorem dL_1577 : decode code 1577 = .ok (.iadd, 1) := by decide +kernel
theorem dL_1578 : decode code 1578 = .ok (.iaload, 1) := by decide +kernel
theorem dL_1579 : decode code 1579 = .ok (.invokevirtual 193, 3) := by decide +kernel
theorem dL_1582 : decode code 1582 = .ok (.aload_n 2, 1) := by decide +kernel
theorem dL_1583 : decode code 1583 = .ok (.aload_n 0, 1) := by decide +kernel
theorem dL_1584 : decode code 1584 = .ok (.iload_n 3, 1) := by decide +kernel
theorem dL_1585 : decode code 1585 = .ok (.iconst 1, 1) := by decide +kernel
theorem dL_1586 : decode code 1586 = .ok (.iadd, 1) := by decide +kernel
theorem dL_1587 : decode code 1587 = .ok (.iaload, 1) := by decide +kernel
theorem dL_1588 : decode code 1588 = .ok (.aload_n 0, 1) := by decide +kernel
theorem dL_1589 : decode code 1589 = .ok (.iload_n 3, 1) := by decide +kernel
theorem dL_1590 : decode code 1590 = .ok (.iconst 2, 1) := by decide +kernel
theorem dL_1591 : decode code 1591 = .ok (.iadd, 1) := by decide +kernel
theorem dL_1592 : decode code 1592 = .ok (.iaload, 1) := by decide +kernel
theorem dL_1593 : decode code 1593 = .ok (.invokevirtual 196, 3) := by decide +kernel
theorem dL_1596 : decode code 1596 = .ok (.if_icmp .eq 255, 3) := by decide +kernel
theorem dL_1599 : decode code 1599 = .ok (.iconst 0, 1) := by decide +kernel
theorem dL_1600 : decode code 1600 = .ok (.ireturn, 1) := by decide +kernel
theorem dL_1601 : decode code 1601 = .ok (.aload_n 1, 1) := by decide +kernel
theorem dL_1602 : decode code 1602 = .ok (.invokevirtual 197, 3) := by decide +kernel
theorem dL_1605 : decode code 1605 = .ok (.aload_n 2, 1) := by decide +kernel
theorem dL_1606 : decode code 1606 = .ok (.invokevirtual 200, 3) := by decide +kernel
theorem dL_1609 : decode code 1609 = .ok (.if_icmp .eq 242, 3) := by decide +kernel
theorem dL_1612 : decode code 1612 = .ok (.iconst 0, 1) := by decide +kernel
theorem dL_1613 : decode code 1613 = .ok (.ireturn, 1) := by decide +kernel
theorem dL_1614 : decode code 1614 = .ok (.aload_n 1, 1) := by decide +kernel
theorem dL_1615 : decode code 1615 = .ok (.aload_n 0, 1) := by decide +kernel
theorem dL_1616 : decode code 1616 = .ok (.iload_n 3, 1) := by decide +kernel
theorem dL_1617 : decode code 1617 = .ok (.iconst 1, 1) := by decide +kernel
theorem dL_1618 : decode code 1618 = .ok (.iadd, 1) := by decide +kernel
theorem dL_1619 : decode code 1619 = .ok (.iaload, 1) := by decide +kernel
theorem dL_1620 : decode code 1620 = .ok (.invokevirtual 201, 3) := by decide +kernel
theorem dL_1623 : decode code 1623 = .ok (.aload_n 2, 1) := by decide +kernel
theorem dL_1624 : decode code 1624 = .ok (.aload_n 0, 1) := by decide +kernel
theorem dL_1625 : decode code 1625 = .ok (.iload_n 3, 1) := by decide +kernel
theorem dL_1626 : decode code 1626 = .ok (.iconst 1, 1) := by decide +kernel
theorem dL_1627 : decode code 1627 = .ok (.iadd, 1) := by decide +kernel
theorem dL_1628 : decode code 1628 = .ok (.iaload, 1) := by decide +kernel
theorem dL_1629 : decode code 1629 = .ok (.invokevirtual 204, 3) := by decide +kernel
theorem dL_1632 : decode code 1632 = .ok (.if_icmp .eq 219, 3) := by decide +kernel
theorem dL_1635 : decode code 1635 = .ok (.iconst 0, 1) := by decide +kernel
theorem dL_1636 : decode code 1636 = .ok (.ireturn, 1) := by decide +kernel
theorem dL_1637 : decode code 1637 = .ok (.aload_n 1, 1) := by decide +kernel
theorem dL_1638 : decode code 1638 = .ok (.aload_n 0, 1) := by decide +kernel
theorem dL_1639 : decode code 1639 = .ok (.iload_n 3, 1) := by decide +kernel
theorem dL_1640 : decode code 1640 = .ok (.iconst 1, 1) := by decide +kernel
theorem dL_1641 : decode code 1641 = .ok (.iadd, 1) := by decide +kernel
theorem dL_1642 : decode code 1642 = .ok (.iaload, 1) := by decide +kernel
theorem dL_1643 : decode code 1643 = .ok (.aload_n 0, 1) := by decide +kernel
theorem dL_1644 : decode code 1644 = .ok (.iload_n 3, 1) := by decide +kernel
theorem dL_1645 : decode code 1645 = .ok (.iconst 2, 1) := by decide +kernel
theorem dL_1646 : decode code 1646 = .ok (.iadd, 1) := by decide +kernel
theorem dL_1647 : decode code 1647 = .ok (.iaload, 1) := by decide +kernel
theorem dL_1648 : decode code 1648 = .ok (.aload_n 0, 1) := by decide +kernel
theorem dL_1649 : decode code 1649 = .ok (.iload_n 3, 1) := by decide +kernel
theorem dL_1650 : decode code 1650 = .ok (.iconst 3, 1) := by decide +kernel
theorem dL_1651 : decode code 1651 = .ok (.iadd, 1) := by decide +kernel
theorem dL_1652 : decode code 1652 = .ok (.iaload, 1) := by decide +kernel
theorem dL_1653 : decode code 1653 = .ok (.invokevirtual 205, 3) := by decide +kernel
theorem dL_1656 : decode code 1656 = .ok (.aload_n 2, 1) := by decide +kernel
theorem dL_1657 : decode code 1657 = .ok (.aload_n 0, 1) := by decide +kernel
theorem dL_1658 : decode code 1658 = .ok (.iload_n 3, 1) := by decide +kernel
theorem dL_1659 : decode code 1659 = .ok (.iconst 1, 1) := by decide +kernel
theorem dL_1660 : decode code 1660 = .ok (.iadd, 1) := by decide +kernel
theorem dL_1661 : decode code 1661 = .ok (.iaload, 1) := by decide +kernel
theorem dL_1662 : decode code 1662 = .ok (.aload_n 0, 1) := by decide +kernel
theorem dL_1663 : decode code 1663 = .ok (.iload_n 3, 1) := by decide +kernel
theorem dL_1664 : decode code 1664 = .ok (.iconst 2, 1) := by decide +kernel
theorem dL_1665 : decode code 1665 = .ok (.iadd, 1) := by decide +kernel
theorem dL_1666 : decode code 1666 = .ok (.iaload, 1) := by decide +kernel
theorem dL_1667 : decode code 1667 = .ok (.aload_n 0, 1) := by decide +kernel
theorem dL_1668 : decode code 1668 = .ok (.iload_n 3, 1) := by decide +kernel
theorem dL_1669 : decode code 1669 = .ok (.iconst 3, 1) := by decide +kernel
theorem dL_1670 : decode code 1670 = .ok (.iadd, 1) := by decide +kernel
theorem dL_1671 : decode code 1671 = .ok (.iaload, 1) := by decide +kernel
theorem dL_1672 : decode code 1672 = .ok (.invokevirtual 208, 3) := by decide +kernel
theorem dL_1675 : decode code 1675 = .ok (.if_icmp .eq 176, 3) := by decide +kernel
theorem dL_1678 : decode code 1678 = .ok (.iconst 0, 1) := by decide +kernel
theorem dL_1679 : decode code 1679 = .ok (.ireturn, 1) := by decide +kernel
theorem dL_1680 : decode code 1680 = .ok (.aload_n 1, 1) := by decide +kernel
theorem dL_1681 : decode code 1681 = .ok (.aload_n 0, 1) := by decide +kernel
theorem dL_1682 : decode code 1682 = .ok (.iload_n 3, 1) := by decide +kernel
theorem dL_1683 : decode code 1683 = .ok (.iconst 1, 1) := by decide +kernel
theorem dL_1684 : decode code 1684 = .ok (.iadd, 1) := by decide +kernel
theorem dL_1685 : decode code 1685 = .ok (.iaload, 1) := by decide +kernel
theorem dL_1686 : decode code 1686 = .ok (.aload_n 0, 1) := by decide +kernel
theorem dL_1687 : decode code 1687 = .ok (.iload_n 3, 1) := by decide +kernel
theorem dL_1688 : decode code 1688 = .ok (.iconst 2, 1) := by decide +kernel
theorem dL_1689 : decode code 1689 = .ok (.iadd, 1) := by decide +kernel
theorem dL_1690 : decode code 1690 = .ok (.iaload, 1) := by decide +kernel
theorem dL_1691 : decode code 1691 = .ok (.aload_n 0, 1) := by decide +kernel
theorem dL_1692 : decode code 1692 = .ok (.iload_n 3, 1) := by decide +kernel
theorem dL_1693 : decode code 1693 = .ok (.iconst 3, 1) := by decide +kernel
theorem dL_1694 : decode code 1694 = .ok (.iadd, 1) := by decide +kernel
theorem dL_1695 : decode code 1695 = .ok (.iaload, 1) := by decide +kernel
theorem dL_1696 : decode code 1696 = .ok (.invokevirtual 209, 3) := by decide +kernel
theorem dL_1699 : decode code 1699 = .ok (.aload_n 2, 1) := by decide +kernel
theorem dL_1700 : decode code 1700 = .ok (.aload_n 0, 1) := by decide +kernel
theorem dL_1701 : decode code 1701 = .ok (.iload_n 3, 1) := by decide +kernel
theorem dL_1702 : decode code 1702 = .ok (.iconst 1, 1) := by decide +kernel
theorem dL_1703 : decode code 1703 = .ok (.iadd, 1) := by decide +kernel
theorem dL_1704 : decode code 1704 = .ok (.iaload, 1) := by decide +kernel
theorem dL_1705 : decode code 1705 = .ok (.aload_n 0, 1) := by decide +kernel
theorem dL_1706 : decode code 1706 = .ok (.iload_n 3, 1) := by decide +kernel
theorem dL_1707 : decode code 1707 = .ok (.iconst 2, 1) := by decide +kernel
theorem dL_1708 : decode code 1708 = .ok (.iadd, 1) := by decide +kernel
theorem dL_1709 : decode code 1709 = .ok (.iaload, 1) := by decide +kernel
theorem dL_1710 : decode code 1710 = .ok (.aload_n 0, 1) := by decide +kernel
theorem dL_1711 : decode code 1711 = .ok (.iload_n 3, 1) := by decide +kernel
theorem dL_1712 : decode code 1712 = .ok (.iconst 3, 1) := by decide +kernel
theorem dL_1713 : decode code 1713 = .ok (.iadd, 1) := by decide +kernel
theorem dL_1714 : decode code 1714 = .ok (.iaload, 1) := by decide +kernel
theorem dL_1715 : decode code 1715 = .ok (.invokevirtual 212, 3) := by decide +kernel
theorem dL_1718 : decode code 1718 = .ok (.if_icmp .eq 133, 3) := by decide +kernel
theorem dL_1721 : decode code 1721 = .ok (.iconst 0, 1) := by decide +kernel
theorem dL_1722 : decode code 1722 = .ok (.ireturn, 1) := by decide +kernel
theorem dL_1723 : decode code 1723 = .ok (.aload_n 1, 1) := by decide +kernel
theorem dL_1724 : decode code 1724 = .ok (.aload_n 0, 1) := by decide +kernel
theorem dL_1725 : decode code 1725 = .ok (.iload_n 3, 1) := by decide +kernel
theorem dL_1726 : decode code 1726 = .ok (.iconst 1, 1) := by decide +kernel
theorem dL_1727 : decode code 1727 = .ok (.iadd, 1) := by decide +kernel
theorem dL_1728 : decode code 1728 = .ok (.iaload, 1) := by decide +kernel
theorem dL_1729 : decode code 1729 = .ok (.invokevirtual 213, 3) := by decide +kernel
theorem dL_1732 : decode code 1732 = .ok (.aload_n 2, 1) := by decide +kernel
theorem dL_1733 : decode code 1733 = .ok (.aload_n 0, 1) := by decide +kernel
theorem dL_1734 : decode code 1734 = .ok (.iload_n 3, 1) := by decide +kernel
theorem dL_1735 : decode code 1735 = .ok (.iconst 1, 1) := by decide +kernel
theorem dL_1736 : decode code 1736 = .ok (.iadd, 1) := by decide +kernel
theorem dL_1737 : decode code 1737 = .ok (.iaload, 1) := by decide +kernel
theorem dL_1738 : decode code 1738 = .ok (.invokevirtual 216, 3) := by decide +kernel
theorem dL_1741 : decode code 1741 = .ok (.if_icmp .eq 110, 3) := by decide +kernel
theorem dL_1744 : decode code 1744 = .ok (.iconst 0, 1) := by decide +kernel
theorem dL_1745 : decode code 1745 = .ok (.ireturn, 1) := by decide +kernel
theorem dL_1746 : decode code 1746 = .ok (.aload_n 1, 1) := by decide +kernel
theorem dL_1747 : decode code 1747 = .ok (.aload_n 0, 1) := by decide +kernel
theorem dL_1748 : decode code 1748 = .ok (.iload_n 3, 1) := by decide +kernel
theorem dL_1749 : decode code 1749 = .ok (.iconst 1, 1) := by decide +kernel
theorem dL_1750 : decode code 1750 = .ok (.iadd, 1) := by decide +kernel
theorem dL_1751 : decode code 1751 = .ok (.iaload, 1) := by decide +kernel
theorem dL_1752 : decode code 1752 = .ok (.invokevirtual 217, 3) := by decide +kernel
theorem dL_1755 : decode code 1755 = .ok (.aload_n 2, 1) := by decide +kernel
theorem dL_1756 : decode code 1756 = .ok (.aload_n 0, 1) := by decide +kernel
theorem dL_1757 : decode code 1757 = .ok (.iload_n 3, 1) := by decide +kernel
theorem dL_1758 : decode code 1758 = .ok (.iconst 1, 1) := by decide +kernel
theorem dL_1759 : decode code 1759 = .ok (.iadd, 1) := by decide +kernel
theorem dL_1760 : decode code 1760 = .ok (.iaload, 1) := by decide +kernel
theorem dL_1761 : decode code 1761 = .ok (.invokevirtual 220, 3) := by decide +kernel
theorem dL_1764 : decode code 1764 = .ok (.if_icmp .eq 87, 3) := by decide +kernel
theorem dL_1767 : decode code 1767 = .ok (.iconst 0, 1) := by decide +kernel
theorem dL_1768 : decode code 1768 = .ok (.ireturn, 1) := by decide +kernel
theorem dL_1769 : decode code 1769 = .ok (.aload_n 1, 1) := by decide +kernel
theorem dL_1770 : decode code 1770 = .ok (.aload_n 0, 1) := by decide +kernel
theorem dL_1771 : decode code 1771 = .ok (.iload_n 3, 1) := by decide +kernel
theorem dL_1772 : decode code 1772 = .ok (.iconst 1, 1) := by decide +kernel
theorem dL_1773 : decode code 1773 = .ok (.iadd, 1) := by decide +kernel
theorem dL_1774 : decode code 1774 = .ok (.iaload, 1) := by decide +kernel
theorem dL_1775 : decode code 1775 = .ok (.invokevirtual 221, 3) := by decide +kernel
theorem dL_1778 : decode code 1778 = .ok (.aload_n 2, 1) := by decide +kernel
theorem dL_1779 : decode code 1779 = .ok (.aload_n 0, 1) := by decide +kernel
theorem dL_1780 : decode code 1780 = .ok (.iload_n 3, 1) := by decide +kernel
theorem dL_1781 : decode code 1781 = .ok (.iconst 1, 1) := by decide +kernel
theorem dL_1782 : decode code 1782 = .ok (.iadd, 1) := by decide +kernel
theorem dL_1783 : decode code 1783 = .ok (.iaload, 1) := by decide +kernel
theorem dL_1784 : decode code 1784 = .ok (.invokevirtual 224, 3) := by decide +kernel
theorem dL_1787 : decode code 1787 = .ok (.if_icmp .eq 64, 3) := by decide +kernel
theorem dL_1790 : decode code 1790 = .ok (.iconst 0, 1) := by decide +kernel
theorem dL_1791 : decode code 1791 = .ok (.ireturn, 1) := by decide +kernel
theorem dL_1792 : decode code 1792 = .ok (.aload_n 1, 1) := by decide +kernel
theorem dL_1793 : decode code 1793 = .ok (.aload_n 0, 1) := by decide +kernel
theorem dL_1794 : decode code 1794 = .ok (.iload_n 3, 1) := by decide +kernel
theorem dL_1795 : decode code 1795 = .ok (.iconst 1, 1) := by decide +kernel
theorem dL_1796 : decode code 1796 = .ok (.iadd, 1) := by decide +kernel
theorem dL_1797 : decode code 1797 = .ok (.iaload, 1) := by decide +kernel
theorem dL_1798 : decode code 1798 = .ok (.aload_n 0, 1) := by decide +kernel
theorem dL_1799 : decode code 1799 = .ok (.iload_n 3, 1) := by decide +kernel
theorem dL_1800 : decode code 1800 = .ok (.iconst 2, 1) := by decide +kernel
theorem dL_1801 : decode code 1801 = .ok (.iadd, 1) := by decide +kernel
theorem dL_1802 : decode code 1802 = .ok (.iaload, 1) := by decide +kernel
theorem dL_1803 : decode code 1803 = .ok (.invokevirtual 225, 3) := by decide +kernel
theorem dL_1806 : decode code 1806 = .ok (.aload_n 2, 1) := by decide +kernel
theorem dL_1807 : decode code 1807 = .ok (.aload_n 0, 1) := by decide +kernel
theorem dL_1808 : decode code 1808 = .ok (.iload_n 3, 1) := by decide +kernel
theorem dL_1809 : decode code 1809 = .ok (.iconst 1, 1) := by decide +kernel
theorem dL_1810 : decode code 1810 = .ok (.iadd, 1) := by decide +kernel
theorem dL_1811 : decode code 1811 = .ok (.iaload, 1) := by decide +kernel
theorem dL_1812 : decode code 1812 = .ok (.aload_n 0, 1) := by decide +kernel
theorem dL_1813 : decode code 1813 = .ok (.iload_n 3, 1) := by decide +kernel
theorem dL_1814 : decode code 1814 = .ok (.iconst 2, 1) := by decide +kernel
theorem dL_1815 : decode code 1815 = .ok (.iadd, 1) := by decide +kernel
theorem dL_1816 : decode code 1816 = .ok (.iaload, 1) := by decide +kernel
theorem dL_1817 : decode code 1817 = .ok (.invokevirtual 228, 3) := by decide +kernel
theorem dL_1820 : decode code 1820 = .ok (.if_icmp .eq 31, 3) := by decide +kernel
theorem dL_1823 : decode code 1823 = .ok (.iconst 0, 1) := by decide +kernel
theorem dL_1824 : decode code 1824 = .ok (.ireturn, 1) := by decide +kernel
theorem dL_1825 : decode code 1825 = .ok (.aload_n 1, 1) := by decide +kernel
theorem dL_1826 : decode code 1826 = .ok (.invokevirtual 229, 3) := by decide +kernel
theorem dL_1829 : decode code 1829 = .ok (.aload_n 2, 1) := by decide +kernel
theorem dL_1830 : decode code 1830 = .ok (.invokevirtual 232, 3) := by decide +kernel
theorem dL_1833 : decode code 1833 = .ok (.if_icmp .eq 18, 3) := by decide +kernel
theorem dL_1836 : decode code 1836 = .ok (.iconst 0, 1) := by decide +kernel
theorem dL_1837 : decode code 1837 = .ok (.ireturn, 1) := by decide +kernel
theorem dL_1838 : decode code 1838 = .ok (.aload_n 1, 1) := by decide +kernel
theorem dL_1839 : decode code 1839 = .ok (.invokevirtual 233, 3) := by decide +kernel
theorem dL_1842 : decode code 1842 = .ok (.aload_n 2, 1) := by decide +kernel
theorem dL_1843 : decode code 1843 = .ok (.invokevirtual 236, 3) := by decide +kernel
theorem dL_1846 : decode code 1846 = .ok (.if_icmp .eq 5, 3) := by decide +kernel
theorem dL_1849 : decode code 1849 = .ok (.iconst 0, 1) := by decide +kernel
theorem dL_1850 : decode code 1850 = .ok (.ireturn, 1) := by decide +kernel
theorem dL_1851 : decode code 1851 = .ok (.iinc 3 6, 3) := by decide +kernel
theorem dL_1854 : decode code 1854 = .ok (.goto (-1836), 3) := by decide +kernel
theorem dL_1857 : decode code 1857 = .ok (.iconst 1, 1) := by decide +kernel
theorem dL_1858 : decode code 1858 = .ok (.ireturn, 1) := by decide +kernel

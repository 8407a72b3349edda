theorem dL_law_251 : decode tp_bL_law 251 = .ok (.iconst 0, 1) := by decide +kernel
theorem dL_law_252 : decode tp_bL_law 252 = .ok (.ireturn, 1) := by decide +kernel
theorem dL_law_253 : decode tp_bL_law 253 = .ok (.goto 612, 3) := by decide +kernel
theorem dL_law_256 : decode tp_bL_law 256 = .ok (.aload_n 1, 1) := by decide +kernel
theorem dL_law_257 : decode tp_bL_law 257 = .ok (.aload_n 0, 1) := by decide +kernel
theorem dL_law_258 : decode tp_bL_law 258 = .ok (.iload 4, 2) := by decide +kernel
theorem dL_law_260 : decode tp_bL_law 260 = .ok (.iconst 1, 1) := by decide +kernel
theorem dL_law_261 : decode tp_bL_law 261 = .ok (.iadd, 1) := by decide +kernel
theorem dL_law_262 : decode tp_bL_law 262 = .ok (.iaload, 1) := by decide +kernel
theorem dL_law_263 : decode tp_bL_law 263 = .ok (.aload_n 3, 1) := by decide +kernel
theorem dL_law_264 : decode tp_bL_law 264 = .ok (.invokestatic 84, 3) := by decide +kernel
theorem dL_law_267 : decode tp_bL_law 267 = .ok (.istore 5, 2) := by decide +kernel
theorem dL_law_269 : decode tp_bL_law 269 = .ok (.aload_n 2, 1) := by decide +kernel
theorem dL_law_270 : decode tp_bL_law 270 = .ok (.aload_n 0, 1) := by decide +kernel
theorem dL_law_271 : decode tp_bL_law 271 = .ok (.iload 4, 2) := by decide +kernel
theorem dL_law_273 : decode tp_bL_law 273 = .ok (.iconst 1, 1) := by decide +kernel
theorem dL_law_274 : decode tp_bL_law 274 = .ok (.iadd, 1) := by decide +kernel
theorem dL_law_275 : decode tp_bL_law 275 = .ok (.iaload, 1) := by decide +kernel
theorem dL_law_276 : decode tp_bL_law 276 = .ok (.invokevirtual 86, 3) := by decide +kernel
theorem dL_law_279 : decode tp_bL_law 279 = .ok (.istore 6, 2) := by decide +kernel
theorem dL_law_281 : decode tp_bL_law 281 = .ok (.aload_n 2, 1) := by decide +kernel
theorem dL_law_282 : decode tp_bL_law 282 = .ok (.invokevirtual 73, 3) := by decide +kernel
theorem dL_law_285 : decode tp_bL_law 285 = .ok (.iload 5, 2) := by decide +kernel
theorem dL_law_287 : decode tp_bL_law 287 = .ok (.if_icmp .eq 5, 3) := by decide +kernel
theorem dL_law_290 : decode tp_bL_law 290 = .ok (.iconst 0, 1) := by decide +kernel
theorem dL_law_291 : decode tp_bL_law 291 = .ok (.ireturn, 1) := by decide +kernel
theorem dL_law_292 : decode tp_bL_law 292 = .ok (.iload 5, 2) := by decide +kernel
theorem dL_law_294 : decode tp_bL_law 294 = .ok (.ifCond .ne 15, 3) := by decide +kernel
theorem dL_law_297 : decode tp_bL_law 297 = .ok (.aload_n 3, 1) := by decide +kernel
theorem dL_law_298 : decode tp_bL_law 298 = .ok (.iconst 0, 1) := by decide +kernel
theorem dL_law_299 : decode tp_bL_law 299 = .ok (.laload, 1) := by decide +kernel
theorem dL_law_300 : decode tp_bL_law 300 = .ok (.iload 6, 2) := by decide +kernel
theorem dL_law_302 : decode tp_bL_law 302 = .ok (.i2l, 1) := by decide +kernel
theorem dL_law_303 : decode tp_bL_law 303 = .ok (.lcmp, 1) := by decide +kernel
theorem dL_law_304 : decode tp_bL_law 304 = .ok (.ifCond .eq 5, 3) := by decide +kernel
theorem dL_law_307 : decode tp_bL_law 307 = .ok (.iconst 0, 1) := by decide +kernel
theorem dL_law_308 : decode tp_bL_law 308 = .ok (.ireturn, 1) := by decide +kernel
theorem dL_law_309 : decode tp_bL_law 309 = .ok (.goto 556, 3) := by decide +kernel
theorem dL_law_312 : decode tp_bL_law 312 = .ok (.aload_n 1, 1) := by decide +kernel
theorem dL_law_313 : decode tp_bL_law 313 = .ok (.aload_n 0, 1) := by decide +kernel
theorem dL_law_314 : decode tp_bL_law 314 = .ok (.iload 4, 2) := by decide +kernel
theorem dL_law_316 : decode tp_bL_law 316 = .ok (.iconst 1, 1) := by decide +kernel
theorem dL_law_317 : decode tp_bL_law 317 = .ok (.iadd, 1) := by decide +kernel
theorem dL_law_318 : decode tp_bL_law 318 = .ok (.iaload, 1) := by decide +kernel
theorem dL_law_319 : decode tp_bL_law 319 = .ok (.aload_n 0, 1) := by decide +kernel
theorem dL_law_320 : decode tp_bL_law 320 = .ok (.iload 4, 2) := by decide +kernel
theorem dL_law_322 : decode tp_bL_law 322 = .ok (.iconst 2, 1) := by decide +kernel
theorem dL_law_323 : decode tp_bL_law 323 = .ok (.iadd, 1) := by decide +kernel
theorem dL_law_324 : decode tp_bL_law 324 = .ok (.iaload, 1) := by decide +kernel
theorem dL_law_325 : decode tp_bL_law 325 = .ok (.aload_n 0, 1) := by decide +kernel
theorem dL_law_326 : decode tp_bL_law 326 = .ok (.iload 4, 2) := by decide +kernel
theorem dL_law_328 : decode tp_bL_law 328 = .ok (.iconst 3, 1) := by decide +kernel
theorem dL_law_329 : decode tp_bL_law 329 = .ok (.iadd, 1) := by decide +kernel
theorem dL_law_330 : decode tp_bL_law 330 = .ok (.iaload, 1) := by decide +kernel
theorem dL_law_331 : decode tp_bL_law 331 = .ok (.invokestatic 87, 3) := by decide +kernel
theorem dL_law_334 : decode tp_bL_law 334 = .ok (.istore 5, 2) := by decide +kernel
theorem dL_law_336 : decode tp_bL_law 336 = .ok (.aload_n 2, 1) := by decide +kernel
theorem dL_law_337 : decode tp_bL_law 337 = .ok (.aload_n 0, 1) := by decide +kernel
theorem dL_law_338 : decode tp_bL_law 338 = .ok (.iload 4, 2) := by decide +kernel
theorem dL_law_340 : decode tp_bL_law 340 = .ok (.iconst 1, 1) := by decide +kernel
theorem dL_law_341 : decode tp_bL_law 341 = .ok (.iadd, 1) := by decide +kernel
theorem dL_law_342 : decode tp_bL_law 342 = .ok (.iaload, 1) := by decide +kernel
theorem dL_law_343 : decode tp_bL_law 343 = .ok (.aload_n 0, 1) := by decide +kernel
theorem dL_law_344 : decode tp_bL_law 344 = .ok (.iload 4, 2) := by decide +kernel
theorem dL_law_346 : decode tp_bL_law 346 = .ok (.iconst 2, 1) := by decide +kernel
theorem dL_law_347 : decode tp_bL_law 347 = .ok (.iadd, 1) := by decide +kernel
theorem dL_law_348 : decode tp_bL_law 348 = .ok (.iaload, 1) := by decide +kernel
theorem dL_law_349 : decode tp_bL_law 349 = .ok (.aload_n 0, 1) := by decide +kernel
theorem dL_law_350 : decode tp_bL_law 350 = .ok (.iload 4, 2) := by decide +kernel
theorem dL_law_352 : decode tp_bL_law 352 = .ok (.iconst 3, 1) := by decide +kernel
theorem dL_law_353 : decode tp_bL_law 353 = .ok (.iadd, 1) := by decide +kernel
theorem dL_law_354 : decode tp_bL_law 354 = .ok (.iaload, 1) := by decide +kernel
theorem dL_law_355 : decode tp_bL_law 355 = .ok (.invokevirtual 90, 3) := by decide +kernel
theorem dL_law_358 : decode tp_bL_law 358 = .ok (.aload_n 2, 1) := by decide +kernel
theorem dL_law_359 : decode tp_bL_law 359 = .ok (.invokevirtual 73, 3) := by decide +kernel
theorem dL_law_362 : decode tp_bL_law 362 = .ok (.iload 5, 2) := by decide +kernel
theorem dL_law_364 : decode tp_bL_law 364 = .ok (.if_icmp .eq 5, 3) := by decide +kernel
theorem dL_law_367 : decode tp_bL_law 367 = .ok (.iconst 0, 1) := by decide +kernel
theorem dL_law_368 : decode tp_bL_law 368 = .ok (.ireturn, 1) := by decide +kernel
theorem dL_law_369 : decode tp_bL_law 369 = .ok (.goto 496, 3) := by decide +kernel
theorem dL_law_372 : decode tp_bL_law 372 = .ok (.aload_n 1, 1) := by decide +kernel
theorem dL_law_373 : decode tp_bL_law 373 = .ok (.aload_n 0, 1) := by decide +kernel
theorem dL_law_374 : decode tp_bL_law 374 = .ok (.iload 4, 2) := by decide +kernel
theorem dL_law_376 : decode tp_bL_law 376 = .ok (.iconst 1, 1) := by decide +kernel
theorem dL_law_377 : decode tp_bL_law 377 = .ok (.iadd, 1) := by decide +kernel
theorem dL_law_378 : decode tp_bL_law 378 = .ok (.iaload, 1) := by decide +kernel
theorem dL_law_379 : decode tp_bL_law 379 = .ok (.aload_n 0, 1) := by decide +kernel
theorem dL_law_380 : decode tp_bL_law 380 = .ok (.iload 4, 2) := by decide +kernel
theorem dL_law_382 : decode tp_bL_law 382 = .ok (.iconst 2, 1) := by decide +kernel
theorem dL_law_383 : decode tp_bL_law 383 = .ok (.iadd, 1) := by decide +kernel
theorem dL_law_384 : decode tp_bL_law 384 = .ok (.iaload, 1) := by decide +kernel
theorem dL_law_385 : decode tp_bL_law 385 = .ok (.aload_n 3, 1) := by decide +kernel
theorem dL_law_386 : decode tp_bL_law 386 = .ok (.invokestatic 91, 3) := by decide +kernel
theorem dL_law_389 : decode tp_bL_law 389 = .ok (.istore 5, 2) := by decide +kernel
theorem dL_law_391 : decode tp_bL_law 391 = .ok (.aload_n 2, 1) := by decide +kernel
theorem dL_law_392 : decode tp_bL_law 392 = .ok (.aload_n 0, 1) := by decide +kernel
theorem dL_law_393 : decode tp_bL_law 393 = .ok (.iload 4, 2) := by decide +kernel
theorem dL_law_395 : decode tp_bL_law 395 = .ok (.iconst 1, 1) := by decide +kernel
theorem dL_law_396 : decode tp_bL_law 396 = .ok (.iadd, 1) := by decide +kernel
theorem dL_law_397 : decode tp_bL_law 397 = .ok (.iaload, 1) := by decide +kernel
theorem dL_law_398 : decode tp_bL_law 398 = .ok (.aload_n 0, 1) := by decide +kernel
theorem dL_law_399 : decode tp_bL_law 399 = .ok (.iload 4, 2) := by decide +kernel
theorem dL_law_401 : decode tp_bL_law 401 = .ok (.iconst 2, 1) := by decide +kernel
theorem dL_law_402 : decode tp_bL_law 402 = .ok (.iadd, 1) := by decide +kernel
theorem dL_law_403 : decode tp_bL_law 403 = .ok (.iaload, 1) := by decide +kernel
theorem dL_law_404 : decode tp_bL_law 404 = .ok (.invokevirtual 94, 3) := by decide +kernel
theorem dL_law_407 : decode tp_bL_law 407 = .ok (.istore 6, 2) := by decide +kernel
theorem dL_law_409 : decode tp_bL_law 409 = .ok (.aload_n 2, 1) := by decide +kernel
theorem dL_law_410 : decode tp_bL_law 410 = .ok (.invokevirtual 73, 3) := by decide +kernel
theorem dL_law_413 : decode tp_bL_law 413 = .ok (.iload 5, 2) := by decide +kernel
theorem dL_law_415 : decode tp_bL_law 415 = .ok (.if_icmp .eq 5, 3) := by decide +kernel
theorem dL_law_418 : decode tp_bL_law 418 = .ok (.iconst 0, 1) := by decide +kernel
theorem dL_law_419 : decode tp_bL_law 419 = .ok (.ireturn, 1) := by decide +kernel
theorem dL_law_420 : decode tp_bL_law 420 = .ok (.iload 5, 2) := by decide +kernel
theorem dL_law_422 : decode tp_bL_law 422 = .ok (.ifCond .ne 15, 3) := by decide +kernel
theorem dL_law_425 : decode tp_bL_law 425 = .ok (.aload_n 3, 1) := by decide +kernel
theorem dL_law_426 : decode tp_bL_law 426 = .ok (.iconst 0, 1) := by decide +kernel
theorem dL_law_427 : decode tp_bL_law 427 = .ok (.laload, 1) := by decide +kernel
theorem dL_law_428 : decode tp_bL_law 428 = .ok (.iload 6, 2) := by decide +kernel
theorem dL_law_430 : decode tp_bL_law 430 = .ok (.i2l, 1) := by decide +kernel
theorem dL_law_431 : decode tp_bL_law 431 = .ok (.lcmp, 1) := by decide +kernel
theorem dL_law_432 : decode tp_bL_law 432 = .ok (.ifCond .eq 5, 3) := by decide +kernel
theorem dL_law_435 : decode tp_bL_law 435 = .ok (.iconst 0, 1) := by decide +kernel
theorem dL_law_436 : decode tp_bL_law 436 = .ok (.ireturn, 1) := by decide +kernel
theorem dL_law_437 : decode tp_bL_law 437 = .ok (.goto 428, 3) := by decide +kernel
theorem dL_law_440 : decode tp_bL_law 440 = .ok (.aload_n 1, 1) := by decide +kernel
theorem dL_law_441 : decode tp_bL_law 441 = .ok (.aload_n 0, 1) := by decide +kernel
theorem dL_law_442 : decode tp_bL_law 442 = .ok (.iload 4, 2) := by decide +kernel
theorem dL_law_444 : decode tp_bL_law 444 = .ok (.iconst 1, 1) := by decide +kernel
theorem dL_law_445 : decode tp_bL_law 445 = .ok (.iadd, 1) := by decide +kernel
theorem dL_law_446 : decode tp_bL_law 446 = .ok (.iaload, 1) := by decide +kernel
theorem dL_law_447 : decode tp_bL_law 447 = .ok (.aload_n 3, 1) := by decide +kernel
theorem dL_law_448 : decode tp_bL_law 448 = .ok (.invokestatic 95, 3) := by decide +kernel
theorem dL_law_451 : decode tp_bL_law 451 = .ok (.istore 5, 2) := by decide +kernel
theorem dL_law_453 : decode tp_bL_law 453 = .ok (.aload_n 2, 1) := by decide +kernel
theorem dL_law_454 : decode tp_bL_law 454 = .ok (.aload_n 0, 1) := by decide +kernel
theorem dL_law_455 : decode tp_bL_law 455 = .ok (.iload 4, 2) := by decide +kernel
theorem dL_law_457 : decode tp_bL_law 457 = .ok (.iconst 1, 1) := by decide +kernel
theorem dL_law_458 : decode tp_bL_law 458 = .ok (.iadd, 1) := by decide +kernel
theorem dL_law_459 : decode tp_bL_law 459 = .ok (.iaload, 1) := by decide +kernel
theorem dL_law_460 : decode tp_bL_law 460 = .ok (.invokevirtual 97, 3) := by decide +kernel
theorem dL_law_463 : decode tp_bL_law 463 = .ok (.istore 6, 2) := by decide +kernel
theorem dL_law_465 : decode tp_bL_law 465 = .ok (.aload_n 2, 1) := by decide +kernel
theorem dL_law_466 : decode tp_bL_law 466 = .ok (.invokevirtual 73, 3) := by decide +kernel
theorem dL_law_469 : decode tp_bL_law 469 = .ok (.iload 5, 2) := by decide +kernel
theorem dL_law_471 : decode tp_bL_law 471 = .ok (.if_icmp .eq 5, 3) := by decide +kernel
theorem dL_law_474 : decode tp_bL_law 474 = .ok (.iconst 0, 1) := by decide +kernel
theorem dL_law_475 : decode tp_bL_law 475 = .ok (.ireturn, 1) := by decide +kernel
theorem dL_law_476 : decode tp_bL_law 476 = .ok (.iload 5, 2) := by decide +kernel
theorem dL_law_478 : decode tp_bL_law 478 = .ok (.ifCond .ne 15, 3) := by decide +kernel
theorem dL_law_481 : decode tp_bL_law 481 = .ok (.aload_n 3, 1) := by decide +kernel
theorem dL_law_482 : decode tp_bL_law 482 = .ok (.iconst 0, 1) := by decide +kernel
theorem dL_law_483 : decode tp_bL_law 483 = .ok (.laload, 1) := by decide +kernel
theorem dL_law_484 : decode tp_bL_law 484 = .ok (.iload 6, 2) := by decide +kernel
theorem dL_law_486 : decode tp_bL_law 486 = .ok (.i2l, 1) := by decide +kernel
theorem dL_law_487 : decode tp_bL_law 487 = .ok (.lcmp, 1) := by decide +kernel
theorem dL_law_488 : decode tp_bL_law 488 = .ok (.ifCond .eq 5, 3) := by decide +kernel
theorem dL_law_491 : decode tp_bL_law 491 = .ok (.iconst 0, 1) := by decide +kernel
theorem dL_law_492 : decode tp_bL_law 492 = .ok (.ireturn, 1) := by decide +kernel
theorem dL_law_493 : decode tp_bL_law 493 = .ok (.goto 372, 3) := by decide +kernel
theorem dL_law_496 : decode tp_bL_law 496 = .ok (.aload_n 1, 1) := by decide +kernel
theorem dL_law_497 : decode tp_bL_law 497 = .ok (.aload_n 0, 1) := by decide +kernel
theorem dL_law_498 : decode tp_bL_law 498 = .ok (.iload 4, 2) := by decide +kernel
theorem dL_law_500 : decode tp_bL_law 500 = .ok (.iconst 1, 1) := by decide +kernel
theorem dL_law_501 : decode tp_bL_law 501 = .ok (.iadd, 1) := by decide +kernel
theorem dL_law_502 : decode tp_bL_law 502 = .ok (.iaload, 1) := by decide +kernel
theorem dL_law_503 : decode tp_bL_law 503 = .ok (.aload_n 3, 1) := by decide +kernel
theorem dL_law_504 : decode tp_bL_law 504 = .ok (.invokestatic 98, 3) := by decide +kernel
theorem dL_law_507 : decode tp_bL_law 507 = .ok (.istore 5, 2) := by decide +kernel
theorem dL_law_509 : decode tp_bL_law 509 = .ok (.aload_n 2, 1) := by decide +kernel
theorem dL_law_510 : decode tp_bL_law 510 = .ok (.aload_n 0, 1) := by decide +kernel
theorem dL_law_511 : decode tp_bL_law 511 = .ok (.iload 4, 2) := by decide +kernel
theorem dL_law_513 : decode tp_bL_law 513 = .ok (.iconst 1, 1) := by decide +kernel
theorem dL_law_514 : decode tp_bL_law 514 = .ok (.iadd, 1) := by decide +kernel
theorem dL_law_515 : decode tp_bL_law 515 = .ok (.iaload, 1) := by decide +kernel
theorem dL_law_516 : decode tp_bL_law 516 = .ok (.invokevirtual 100, 3) := by decide +kernel
theorem dL_law_519 : decode tp_bL_law 519 = .ok (.istore 6, 2) := by decide +kernel
theorem dL_law_521 : decode tp_bL_law 521 = .ok (.aload_n 2, 1) := by decide +kernel
theorem dL_law_522 : decode tp_bL_law 522 = .ok (.invokevirtual 73, 3) := by decide +kernel
theorem dL_law_525 : decode tp_bL_law 525 = .ok (.iload 5, 2) := by decide +kernel
theorem dL_law_527 : decode tp_bL_law 527 = .ok (.if_icmp .eq 5, 3) := by decide +kernel
theorem dL_law_530 : decode tp_bL_law 530 = .ok (.iconst 0, 1) := by decide +kernel
theorem dL_law_531 : decode tp_bL_law 531 = .ok (.ireturn, 1) := by decide +kernel
theorem dL_law_532 : decode tp_bL_law 532 = .ok (.iload 5, 2) := by decide +kernel
theorem dL_law_534 : decode tp_bL_law 534 = .ok (.ifCond .ne 15, 3) := by decide +kernel
theorem dL_law_537 : decode tp_bL_law 537 = .ok (.aload_n 3, 1) := by decide +kernel
theorem dL_law_538 : decode tp_bL_law 538 = .ok (.iconst 0, 1) := by decide +kernel
theorem dL_law_539 : decode tp_bL_law 539 = .ok (.laload, 1) := by decide +kernel
theorem dL_law_540 : decode tp_bL_law 540 = .ok (.iload 6, 2) := by decide +kernel
theorem dL_law_542 : decode tp_bL_law 542 = .ok (.i2l, 1) := by decide +kernel
theorem dL_law_543 : decode tp_bL_law 543 = .ok (.lcmp, 1) := by decide +kernel
theorem dL_law_544 : decode tp_bL_law 544 = .ok (.ifCond .eq 5, 3) := by decide +kernel
theorem dL_law_547 : decode tp_bL_law 547 = .ok (.iconst 0, 1) := by decide +kernel
theorem dL_law_548 : decode tp_bL_law 548 = .ok (.ireturn, 1) := by decide +kernel
theorem dL_law_549 : decode tp_bL_law 549 = .ok (.goto 316, 3) := by decide +kernel
theorem dL_law_552 : decode tp_bL_law 552 = .ok (.aload_n 1, 1) := by decide +kernel
theorem dL_law_553 : decode tp_bL_law 553 = .ok (.aload_n 0, 1) := by decide +kernel
theorem dL_law_554 : decode tp_bL_law 554 = .ok (.iload 4, 2) := by decide +kernel
theorem dL_law_556 : decode tp_bL_law 556 = .ok (.iconst 1, 1) := by decide +kernel
theorem dL_law_557 : decode tp_bL_law 557 = .ok (.iadd, 1) := by decide +kernel
theorem dL_law_558 : decode tp_bL_law 558 = .ok (.iaload, 1) := by decide +kernel
theorem dL_law_559 : decode tp_bL_law 559 = .ok (.invokestatic 101, 3) := by decide +kernel
theorem dL_law_562 : decode tp_bL_law 562 = .ok (.istore 5, 2) := by decide +kernel
theorem dL_law_564 : decode tp_bL_law 564 = .ok (.aload_n 2, 1) := by decide +kernel
theorem dL_law_565 : decode tp_bL_law 565 = .ok (.aload_n 0, 1) := by decide +kernel
theorem dL_law_566 : decode tp_bL_law 566 = .ok (.iload 4, 2) := by decide +kernel
theorem dL_law_568 : decode tp_bL_law 568 = .ok (.iconst 1, 1) := by decide +kernel
theorem dL_law_569 : decode tp_bL_law 569 = .ok (.iadd, 1) := by decide +kernel
theorem dL_law_570 : decode tp_bL_law 570 = .ok (.iaload, 1) := by decide +kernel
theorem dL_law_571 : decode tp_bL_law 571 = .ok (.invokevirtual 104, 3) := by decide +kernel
theorem dL_law_574 : decode tp_bL_law 574 = .ok (.aload_n 2, 1) := by decide +kernel
theorem dL_law_575 : decode tp_bL_law 575 = .ok (.invokevirtual 73, 3) := by decide +kernel
theorem dL_law_578 : decode tp_bL_law 578 = .ok (.iload 5, 2) := by decide +kernel
theorem dL_law_580 : decode tp_bL_law 580 = .ok (.if_icmp .eq 5, 3) := by decide +kernel
theorem dL_law_583 : decode tp_bL_law 583 = .ok (.iconst 0, 1) := by decide +kernel
theorem dL_law_584 : decode tp_bL_law 584 = .ok (.ireturn, 1) := by decide +kernel
theorem dL_law_585 : decode tp_bL_law 585 = .ok (.goto 280, 3) := by decide +kernel
theorem dL_law_588 : decode tp_bL_law 588 = .ok (.aload_n 1, 1) := by decide +kernel
theorem dL_law_589 : decode tp_bL_law 589 = .ok (.invokevirtual 105, 3) := by decide +kernel
theorem dL_law_592 : decode tp_bL_law 592 = .ok (.aload_n 2, 1) := by decide +kernel
theorem dL_law_593 : decode tp_bL_law 593 = .ok (.invokevirtual 108, 3) := by decide +kernel
theorem dL_law_596 : decode tp_bL_law 596 = .ok (.if_icmp .eq 269, 3) := by decide +kernel
theorem dL_law_599 : decode tp_bL_law 599 = .ok (.iconst 0, 1) := by decide +kernel
theorem dL_law_600 : decode tp_bL_law 600 = .ok (.ireturn, 1) := by decide +kernel
theorem dL_law_601 : decode tp_bL_law 601 = .ok (.aload_n 1, 1) := by decide +kernel
theorem dL_law_602 : decode tp_bL_law 602 = .ok (.aload_n 0, 1) := by decide +kernel
theorem dL_law_603 : decode tp_bL_law 603 = .ok (.iload 4, 2) := by decide +kernel
theorem dL_law_605 : decode tp_bL_law 605 = .ok (.iconst 1, 1) := by decide +kernel
theorem dL_law_606 : decode tp_bL_law 606 = .ok (.iadd, 1) := by decide +kernel
theorem dL_law_607 : decode tp_bL_law 607 = .ok (.iaload, 1) := by decide +kernel
theorem dL_law_608 : decode tp_bL_law 608 = .ok (.aload_n 3, 1) := by decide +kernel
theorem dL_law_609 : decode tp_bL_law 609 = .ok (.invokestatic 109, 3) := by decide +kernel
theorem dL_law_612 : decode tp_bL_law 612 = .ok (.istore 5, 2) := by decide +kernel
theorem dL_law_614 : decode tp_bL_law 614 = .ok (.aload_n 2, 1) := by decide +kernel
theorem dL_law_615 : decode tp_bL_law 615 = .ok (.aload_n 0, 1) := by decide +kernel
theorem dL_law_616 : decode tp_bL_law 616 = .ok (.iload 4, 2) := by decide +kernel
theorem dL_law_618 : decode tp_bL_law 618 = .ok (.iconst 1, 1) := by decide +kernel
theorem dL_law_619 : decode tp_bL_law 619 = .ok (.iadd, 1) := by decide +kernel
theorem dL_law_620 : decode tp_bL_law 620 = .ok (.iaload, 1) := by decide +kernel
theorem dL_law_621 : decode tp_bL_law 621 = .ok (.invokevirtual 111, 3) := by decide +kernel
theorem dL_law_624 : decode tp_bL_law 624 = .ok (.istore 6, 2) := by decide +kernel
theorem dL_law_626 : decode tp_bL_law 626 = .ok (.aload_n 2, 1) := by decide +kernel
theorem dL_law_627 : decode tp_bL_law 627 = .ok (.invokevirtual 73, 3) := by decide +kernel
theorem dL_law_630 : decode tp_bL_law 630 = .ok (.iload 5, 2) := by decide +kernel
theorem dL_law_632 : decode tp_bL_law 632 = .ok (.if_icmp .eq 5, 3) := by decide +kernel
theorem dL_law_635 : decode tp_bL_law 635 = .ok (.iconst 0, 1) := by decide +kernel
theorem dL_law_636 : decode tp_bL_law 636 = .ok (.ireturn, 1) := by decide +kernel
theorem dL_law_637 : decode tp_bL_law 637 = .ok (.iload 5, 2) := by decide +kernel
theorem dL_law_639 : decode tp_bL_law 639 = .ok (.ifCond .ne 15, 3) := by decide +kernel
theorem dL_law_642 : decode tp_bL_law 642 = .ok (.aload_n 3, 1) := by decide +kernel
theorem dL_law_643 : decode tp_bL_law 643 = .ok (.iconst 0, 1) := by decide +kernel
theorem dL_law_644 : decode tp_bL_law 644 = .ok (.laload, 1) := by decide +kernel
theorem dL_law_645 : decode tp_bL_law 645 = .ok (.iload 6, 2) := by decide +kernel
theorem dL_law_647 : decode tp_bL_law 647 = .ok (.i2l, 1) := by decide +kernel
theorem dL_law_648 : decode tp_bL_law 648 = .ok (.lcmp, 1) := by decide +kernel
theorem dL_law_649 : decode tp_bL_law 649 = .ok (.ifCond .eq 5, 3) := by decide +kernel
theorem dL_law_652 : decode tp_bL_law 652 = .ok (.iconst 0, 1) := by decide +kernel
theorem dL_law_653 : decode tp_bL_law 653 = .ok (.ireturn, 1) := by decide +kernel
theorem dL_law_654 : decode tp_bL_law 654 = .ok (.goto 211, 3) := by decide +kernel
theorem dL_law_657 : decode tp_bL_law 657 = .ok (.aload_n 1, 1) := by decide +kernel
theorem dL_law_658 : decode tp_bL_law 658 = .ok (.aload_n 0, 1) := by decide +kernel
theorem dL_law_659 : decode tp_bL_law 659 = .ok (.iload 4, 2) := by decide +kernel
theorem dL_law_661 : decode tp_bL_law 661 = .ok (.iconst 1, 1) := by decide +kernel
theorem dL_law_662 : decode tp_bL_law 662 = .ok (.iadd, 1) := by decide +kernel
theorem dL_law_663 : decode tp_bL_law 663 = .ok (.iaload, 1) := by decide +kernel
theorem dL_law_664 : decode tp_bL_law 664 = .ok (.aload_n 0, 1) := by decide +kernel
theorem dL_law_665 : decode tp_bL_law 665 = .ok (.iload 4, 2) := by decide +kernel
theorem dL_law_667 : decode tp_bL_law 667 = .ok (.iconst 2, 1) := by decide +kernel
theorem dL_law_668 : decode tp_bL_law 668 = .ok (.iadd, 1) := by decide +kernel
theorem dL_law_669 : decode tp_bL_law 669 = .ok (.iaload, 1) := by decide +kernel
theorem dL_law_670 : decode tp_bL_law 670 = .ok (.ifCond .eq 7, 3) := by decide +kernel
theorem dL_law_673 : decode tp_bL_law 673 = .ok (.iconst 1, 1) := by decide +kernel
theorem dL_law_674 : decode tp_bL_law 674 = .ok (.goto 4, 3) := by decide +kernel
theorem dL_law_677 : decode tp_bL_law 677 = .ok (.iconst 0, 1) := by decide +kernel
theorem dL_law_678 : decode tp_bL_law 678 = .ok (.aload_n 3, 1) := by decide +kernel
theorem dL_law_679 : decode tp_bL_law 679 = .ok (.invokestatic 112, 3) := by decide +kernel
theorem dL_law_682 : decode tp_bL_law 682 = .ok (.istore 5, 2) := by decide +kernel
theorem dL_law_684 : decode tp_bL_law 684 = .ok (.aload_n 2, 1) := by decide +kernel
theorem dL_law_685 : decode tp_bL_law 685 = .ok (.aload_n 0, 1) := by decide +kernel
theorem dL_law_686 : decode tp_bL_law 686 = .ok (.iload 4, 2) := by decide +kernel
theorem dL_law_688 : decode tp_bL_law 688 = .ok (.iconst 1, 1) := by decide +kernel
theorem dL_law_689 : decode tp_bL_law 689 = .ok (.iadd, 1) := by decide +kernel
theorem dL_law_690 : decode tp_bL_law 690 = .ok (.iaload, 1) := by decide +kernel
theorem dL_law_691 : decode tp_bL_law 691 = .ok (.aload_n 0, 1) := by decide +kernel
theorem dL_law_692 : decode tp_bL_law 692 = .ok (.iload 4, 2) := by decide +kernel
theorem dL_law_694 : decode tp_bL_law 694 = .ok (.iconst 2, 1) := by decide +kernel
theorem dL_law_695 : decode tp_bL_law 695 = .ok (.iadd, 1) := by decide +kernel
theorem dL_law_696 : decode tp_bL_law 696 = .ok (.iaload, 1) := by decide +kernel
theorem dL_law_697 : decode tp_bL_law 697 = .ok (.ifCond .eq 7, 3) := by decide +kernel
theorem dL_law_700 : decode tp_bL_law 700 = .ok (.iconst 1, 1) := by decide +kernel
theorem dL_law_701 : decode tp_bL_law 701 = .ok (.goto 4, 3) := by decide +kernel
theorem dL_law_704 : decode tp_bL_law 704 = .ok (.iconst 0, 1) := by decide +kernel
theorem dL_law_705 : decode tp_bL_law 705 = .ok (.invokevirtual 115, 3) := by decide +kernel
theorem dL_law_708 : decode tp_bL_law 708 = .ok (.istore 6, 2) := by decide +kernel
theorem dL_law_710 : decode tp_bL_law 710 = .ok (.aload_n 2, 1) := by decide +kernel
theorem dL_law_711 : decode tp_bL_law 711 = .ok (.invokevirtual 73, 3) := by decide +kernel
theorem dL_law_714 : decode tp_bL_law 714 = .ok (.iload 5, 2) := by decide +kernel
theorem dL_law_716 : decode tp_bL_law 716 = .ok (.if_icmp .eq 5, 3) := by decide +kernel
theorem dL_law_719 : decode tp_bL_law 719 = .ok (.iconst 0, 1) := by decide +kernel
theorem dL_law_720 : decode tp_bL_law 720 = .ok (.ireturn, 1) := by decide +kernel

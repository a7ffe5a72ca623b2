theorem dL_act_280 : decode cL_act 280 = .ok (.iload 7, 2) := by decide +kernel
theorem dL_act_282 : decode cL_act 282 = .ok (.invokevirtual 56, 3) := by decide +kernel
theorem dL_act_285 : decode cL_act 285 = .ok (.istore 7, 2) := by decide +kernel
theorem dL_act_287 : decode cL_act 287 = .ok (.iinc 8 1, 3) := by decide +kernel
theorem dL_act_290 : decode cL_act 290 = .ok (.goto (-23), 3) := by decide +kernel
theorem dL_act_293 : decode cL_act 293 = .ok (.iload 7, 2) := by decide +kernel
theorem dL_act_295 : decode cL_act 295 = .ok (.ifCond .lt 7, 3) := by decide +kernel
theorem dL_act_298 : decode cL_act 298 = .ok (.iconst 1, 1) := by decide +kernel
theorem dL_act_299 : decode cL_act 299 = .ok (.goto 4, 3) := by decide +kernel
theorem dL_act_302 : decode cL_act 302 = .ok (.iconst 0, 1) := by decide +kernel
theorem dL_act_303 : decode cL_act 303 = .ok (.istore 5, 2) := by decide +kernel
theorem dL_act_305 : decode cL_act 305 = .ok (.iconst 0, 1) := by decide +kernel
theorem dL_act_306 : decode cL_act 306 = .ok (.istore 8, 2) := by decide +kernel
theorem dL_act_308 : decode cL_act 308 = .ok (.iload 8, 2) := by decide +kernel
theorem dL_act_310 : decode cL_act 310 = .ok (.iload 6, 2) := by decide +kernel
theorem dL_act_312 : decode cL_act 312 = .ok (.if_icmp .ge 26, 3) := by decide +kernel
theorem dL_act_315 : decode cL_act 315 = .ok (.iload 5, 2) := by decide +kernel
theorem dL_act_317 : decode cL_act 317 = .ok (.ifCond .eq 21, 3) := by decide +kernel
theorem dL_act_320 : decode cL_act 320 = .ok (.aload_n 1, 1) := by decide +kernel
theorem dL_act_321 : decode cL_act 321 = .ok (.aload_n 1, 1) := by decide +kernel
theorem dL_act_322 : decode cL_act 322 = .ok (.aload_n 1, 1) := by decide +kernel
theorem dL_act_323 : decode cL_act 323 = .ok (.getfield 41, 3) := by decide +kernel
theorem dL_act_326 : decode cL_act 326 = .ok (.invokevirtual 56, 3) := by decide +kernel
theorem dL_act_329 : decode cL_act 329 = .ok (.invokevirtual 49, 3) := by decide +kernel
theorem dL_act_332 : decode cL_act 332 = .ok (.iinc 8 1, 3) := by decide +kernel
theorem dL_act_335 : decode cL_act 335 = .ok (.goto (-27), 3) := by decide +kernel
theorem dL_act_338 : decode cL_act 338 = .ok (.aload_n 0, 1) := by decide +kernel
theorem dL_act_339 : decode cL_act 339 = .ok (.iload 6, 2) := by decide +kernel
theorem dL_act_341 : decode cL_act 341 = .ok (.invokevirtual 59, 3) := by decide +kernel
theorem dL_act_344 : decode cL_act 344 = .ok (.aload_n 1, 1) := by decide +kernel
theorem dL_act_345 : decode cL_act 345 = .ok (.getfield 41, 3) := by decide +kernel
theorem dL_act_348 : decode cL_act 348 = .ok (.if_icmp .ne 12, 3) := by decide +kernel
theorem dL_act_351 : decode cL_act 351 = .ok (.iload 5, 2) := by decide +kernel
theorem dL_act_353 : decode cL_act 353 = .ok (.ifCond .eq 7, 3) := by decide +kernel
theorem dL_act_356 : decode cL_act 356 = .ok (.iconst 1, 1) := by decide +kernel
theorem dL_act_357 : decode cL_act 357 = .ok (.goto 4, 3) := by decide +kernel
theorem dL_act_360 : decode cL_act 360 = .ok (.iconst 0, 1) := by decide +kernel
theorem dL_act_361 : decode cL_act 361 = .ok (.ireturn, 1) := by decide +kernel
theorem dL_act_362 : decode cL_act 362 = .ok (.iload_n 2, 1) := by decide +kernel
theorem dL_act_363 : decode cL_act 363 = .ok (.iconst 4, 1) := by decide +kernel
theorem dL_act_364 : decode cL_act 364 = .ok (.ishr, 1) := by decide +kernel
theorem dL_act_365 : decode cL_act 365 = .ok (.iload_n 3, 1) := by decide +kernel
theorem dL_act_366 : decode cL_act 366 = .ok (.invokestatic 18, 3) := by decide +kernel
theorem dL_act_369 : decode cL_act 369 = .ok (.istore 6, 2) := by decide +kernel
theorem dL_act_371 : decode cL_act 371 = .ok (.aload_n 1, 1) := by decide +kernel
theorem dL_act_372 : decode cL_act 372 = .ok (.aload_n 1, 1) := by decide +kernel
theorem dL_act_373 : decode cL_act 373 = .ok (.getfield 41, 3) := by decide +kernel
theorem dL_act_376 : decode cL_act 376 = .ok (.iload 6, 2) := by decide +kernel
theorem dL_act_378 : decode cL_act 378 = .ok (.invokevirtual 62, 3) := by decide +kernel
theorem dL_act_381 : decode cL_act 381 = .ok (.istore 7, 2) := by decide +kernel
theorem dL_act_383 : decode cL_act 383 = .ok (.aload_n 1, 1) := by decide +kernel
theorem dL_act_384 : decode cL_act 384 = .ok (.aload_n 1, 1) := by decide +kernel
theorem dL_act_385 : decode cL_act 385 = .ok (.getfield 41, 3) := by decide +kernel
theorem dL_act_388 : decode cL_act 388 = .ok (.iload 6, 2) := by decide +kernel
theorem dL_act_390 : decode cL_act 390 = .ok (.invokevirtual 65, 3) := by decide +kernel
theorem dL_act_393 : decode cL_act 393 = .ok (.istore 8, 2) := by decide +kernel
theorem dL_act_395 : decode cL_act 395 = .ok (.aload_n 1, 1) := by decide +kernel
theorem dL_act_396 : decode cL_act 396 = .ok (.getfield 41, 3) := by decide +kernel
theorem dL_act_399 : decode cL_act 399 = .ok (.iload 8, 2) := by decide +kernel
theorem dL_act_401 : decode cL_act 401 = .ok (.if_icmp .eq 21, 3) := by decide +kernel
theorem dL_act_404 : decode cL_act 404 = .ok (.aload_n 1, 1) := by decide +kernel
theorem dL_act_405 : decode cL_act 405 = .ok (.aload_n 1, 1) := by decide +kernel
theorem dL_act_406 : decode cL_act 406 = .ok (.getfield 9, 3) := by decide +kernel
theorem dL_act_409 : decode cL_act 409 = .ok (.aload_n 1, 1) := by decide +kernel
theorem dL_act_410 : decode cL_act 410 = .ok (.getfield 41, 3) := by decide +kernel
theorem dL_act_413 : decode cL_act 413 = .ok (.aaload, 1) := by decide +kernel
theorem dL_act_414 : decode cL_act 414 = .ok (.iconst 0, 1) := by decide +kernel
theorem dL_act_415 : decode cL_act 415 = .ok (.iaload, 1) := by decide +kernel
theorem dL_act_416 : decode cL_act 416 = .ok (.invokevirtual 49, 3) := by decide +kernel
theorem dL_act_419 : decode cL_act 419 = .ok (.goto (-24), 3) := by decide +kernel
theorem dL_act_422 : decode cL_act 422 = .ok (.aload_n 1, 1) := by decide +kernel
theorem dL_act_423 : decode cL_act 423 = .ok (.getfield 41, 3) := by decide +kernel
theorem dL_act_426 : decode cL_act 426 = .ok (.iload 6, 2) := by decide +kernel
theorem dL_act_428 : decode cL_act 428 = .ok (.if_icmp .eq 46, 3) := by decide +kernel
theorem dL_act_431 : decode cL_act 431 = .ok (.iload 6, 2) := by decide +kernel
theorem dL_act_433 : decode cL_act 433 = .ok (.istore 9, 2) := by decide +kernel
theorem dL_act_435 : decode cL_act 435 = .ok (.aload_n 1, 1) := by decide +kernel
theorem dL_act_436 : decode cL_act 436 = .ok (.getfield 9, 3) := by decide +kernel
theorem dL_act_439 : decode cL_act 439 = .ok (.iload 9, 2) := by decide +kernel
theorem dL_act_441 : decode cL_act 441 = .ok (.aaload, 1) := by decide +kernel
theorem dL_act_442 : decode cL_act 442 = .ok (.iconst 0, 1) := by decide +kernel
theorem dL_act_443 : decode cL_act 443 = .ok (.iaload, 1) := by decide +kernel
theorem dL_act_444 : decode cL_act 444 = .ok (.aload_n 1, 1) := by decide +kernel
theorem dL_act_445 : decode cL_act 445 = .ok (.getfield 41, 3) := by decide +kernel
theorem dL_act_448 : decode cL_act 448 = .ok (.if_icmp .eq 17, 3) := by decide +kernel
theorem dL_act_451 : decode cL_act 451 = .ok (.aload_n 1, 1) := by decide +kernel
theorem dL_act_452 : decode cL_act 452 = .ok (.getfield 9, 3) := by decide +kernel
theorem dL_act_455 : decode cL_act 455 = .ok (.iload 9, 2) := by decide +kernel
theorem dL_act_457 : decode cL_act 457 = .ok (.aaload, 1) := by decide +kernel
theorem dL_act_458 : decode cL_act 458 = .ok (.iconst 0, 1) := by decide +kernel
theorem dL_act_459 : decode cL_act 459 = .ok (.iaload, 1) := by decide +kernel
theorem dL_act_460 : decode cL_act 460 = .ok (.istore 9, 2) := by decide +kernel
theorem dL_act_462 : decode cL_act 462 = .ok (.goto (-27), 3) := by decide +kernel
theorem dL_act_465 : decode cL_act 465 = .ok (.aload_n 1, 1) := by decide +kernel
theorem dL_act_466 : decode cL_act 466 = .ok (.iload 9, 2) := by decide +kernel
theorem dL_act_468 : decode cL_act 468 = .ok (.invokevirtual 49, 3) := by decide +kernel
theorem dL_act_471 : decode cL_act 471 = .ok (.goto (-49), 3) := by decide +kernel
theorem dL_act_474 : decode cL_act 474 = .ok (.aload_n 0, 1) := by decide +kernel
theorem dL_act_475 : decode cL_act 475 = .ok (.iload 6, 2) := by decide +kernel
theorem dL_act_477 : decode cL_act 477 = .ok (.invokevirtual 68, 3) := by decide +kernel
theorem dL_act_480 : decode cL_act 480 = .ok (.iload 7, 2) := by decide +kernel
theorem dL_act_482 : decode cL_act 482 = .ok (.if_icmp .ne 7, 3) := by decide +kernel
theorem dL_act_485 : decode cL_act 485 = .ok (.iconst 1, 1) := by decide +kernel
theorem dL_act_486 : decode cL_act 486 = .ok (.goto 4, 3) := by decide +kernel
theorem dL_act_489 : decode cL_act 489 = .ok (.iconst 0, 1) := by decide +kernel
theorem dL_act_490 : decode cL_act 490 = .ok (.ireturn, 1) := by decide +kernel
theorem dL_act_491 : decode cL_act 491 = .ok (.iload_n 2, 1) := by decide +kernel
theorem dL_act_492 : decode cL_act 492 = .ok (.iconst 4, 1) := by decide +kernel
theorem dL_act_493 : decode cL_act 493 = .ok (.ishr, 1) := by decide +kernel
theorem dL_act_494 : decode cL_act 494 = .ok (.bipush 6, 2) := by decide +kernel
theorem dL_act_496 : decode cL_act 496 = .ok (.invokestatic 18, 3) := by decide +kernel
theorem dL_act_499 : decode cL_act 499 = .ok (.istore 6, 2) := by decide +kernel
theorem dL_act_501 : decode cL_act 501 = .ok (.iload 6, 2) := by decide +kernel
theorem dL_act_503 : decode cL_act 503 = .ok (.iconst 3, 1) := by decide +kernel
theorem dL_act_504 : decode cL_act 504 = .ok (.if_icmp .le 10, 3) := by decide +kernel
theorem dL_act_507 : decode cL_act 507 = .ok (.iload 6, 2) := by decide +kernel
theorem dL_act_509 : decode cL_act 509 = .ok (.iconst 4, 1) := by decide +kernel
theorem dL_act_510 : decode cL_act 510 = .ok (.isub, 1) := by decide +kernel
theorem dL_act_511 : decode cL_act 511 = .ok (.goto 5, 3) := by decide +kernel
theorem dL_act_514 : decode cL_act 514 = .ok (.iload 6, 2) := by decide +kernel
theorem dL_act_516 : decode cL_act 516 = .ok (.istore 6, 2) := by decide +kernel
theorem dL_act_518 : decode cL_act 518 = .ok (.iload 6, 2) := by decide +kernel
theorem dL_act_520 : decode cL_act 520 = .ok (.ifCond .eq 9, 3) := by decide +kernel
theorem dL_act_523 : decode cL_act 523 = .ok (.iload 6, 2) := by decide +kernel
theorem dL_act_525 : decode cL_act 525 = .ok (.iconst 3, 1) := by decide +kernel
theorem dL_act_526 : decode cL_act 526 = .ok (.if_icmp .ne 15, 3) := by decide +kernel
theorem dL_act_529 : decode cL_act 529 = .ok (.iload_n 2, 1) := by decide +kernel
theorem dL_act_530 : decode cL_act 530 = .ok (.bipush 6, 2) := by decide +kernel
theorem dL_act_532 : decode cL_act 532 = .ok (.ishr, 1) := by decide +kernel
theorem dL_act_533 : decode cL_act 533 = .ok (.bipush 8, 2) := by decide +kernel
theorem dL_act_535 : decode cL_act 535 = .ok (.invokestatic 18, 3) := by decide +kernel
theorem dL_act_538 : decode cL_act 538 = .ok (.goto 33, 3) := by decide +kernel
theorem dL_act_541 : decode cL_act 541 = .ok (.iload_n 2, 1) := by decide +kernel
theorem dL_act_542 : decode cL_act 542 = .ok (.bipush 6, 2) := by decide +kernel
theorem dL_act_544 : decode cL_act 544 = .ok (.ishr, 1) := by decide +kernel
theorem dL_act_545 : decode cL_act 545 = .ok (.iload_n 2, 1) := by decide +kernel
theorem dL_act_546 : decode cL_act 546 = .ok (.bipush 9, 2) := by decide +kernel
theorem dL_act_548 : decode cL_act 548 = .ok (.ishr, 1) := by decide +kernel
theorem dL_act_549 : decode cL_act 549 = .ok (.bipush 8, 2) := by decide +kernel
theorem dL_act_551 : decode cL_act 551 = .ok (.invokestatic 18, 3) := by decide +kernel
theorem dL_act_554 : decode cL_act 554 = .ok (.ifCond .ne 8, 3) := by decide +kernel
theorem dL_act_557 : decode cL_act 557 = .ok (.bipush 16, 2) := by decide +kernel
theorem dL_act_559 : decode cL_act 559 = .ok (.goto 9, 3) := by decide +kernel
theorem dL_act_562 : decode cL_act 562 = .ok (.iconst 1, 1) := by decide +kernel
theorem dL_act_563 : decode cL_act 563 = .ok (.iload 4, 2) := by decide +kernel
theorem dL_act_565 : decode cL_act 565 = .ok (.invokestatic 71, 3) := by decide +kernel
theorem dL_act_568 : decode cL_act 568 = .ok (.invokestatic 18, 3) := by decide +kernel
theorem dL_act_571 : decode cL_act 571 = .ok (.istore 7, 2) := by decide +kernel
theorem dL_act_573 : decode cL_act 573 = .ok (.aload_n 1, 1) := by decide +kernel
theorem dL_act_574 : decode cL_act 574 = .ok (.aload_n 1, 1) := by decide +kernel
theorem dL_act_575 : decode cL_act 575 = .ok (.getfield 41, 3) := by decide +kernel
theorem dL_act_578 : decode cL_act 578 = .ok (.invokevirtual 24, 3) := by decide +kernel
theorem dL_act_581 : decode cL_act 581 = .ok (.astore 8, 2) := by decide +kernel
theorem dL_act_583 : decode cL_act 583 = .ok (.aload 8, 2) := by decide +kernel
theorem dL_act_585 : decode cL_act 585 = .ok (.iload 6, 2) := by decide +kernel
theorem dL_act_587 : decode cL_act 587 = .ok (.iload 7, 2) := by decide +kernel
theorem dL_act_589 : decode cL_act 589 = .ok (.invokestatic 76, 3) := by decide +kernel
theorem dL_act_592 : decode cL_act 592 = .ok (.istore 9, 2) := by decide +kernel
theorem dL_act_594 : decode cL_act 594 = .ok (.aload_n 0, 1) := by decide +kernel
theorem dL_act_595 : decode cL_act 595 = .ok (.iload 6, 2) := by decide +kernel

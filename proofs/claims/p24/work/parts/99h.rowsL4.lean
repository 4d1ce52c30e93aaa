theorem dL_house_276 : decode cL_house 276 = .ok (.sipush 1000, 3) := by decide +kernel
theorem dL_house_279 : decode cL_house 279 = .ok (.if_icmp .ne 7, 3) := by decide +kernel
theorem dL_house_282 : decode cL_house 282 = .ok (.iconst 1, 1) := by decide +kernel
theorem dL_house_283 : decode cL_house 283 = .ok (.goto 4, 3) := by decide +kernel
theorem dL_house_286 : decode cL_house 286 = .ok (.iconst 0, 1) := by decide +kernel
theorem dL_house_287 : decode cL_house 287 = .ok (.istore 6, 2) := by decide +kernel
theorem dL_house_289 : decode cL_house 289 = .ok (.goto 274, 3) := by decide +kernel
theorem dL_house_292 : decode cL_house 292 = .ok (.iload 10, 2) := by decide +kernel
theorem dL_house_294 : decode cL_house 294 = .ok (.bipush 6, 2) := by decide +kernel
theorem dL_house_296 : decode cL_house 296 = .ok (.if_icmp .ge 43, 3) := by decide +kernel
theorem dL_house_299 : decode cL_house 299 = .ok (.aload_n 3, 1) := by decide +kernel
theorem dL_house_300 : decode cL_house 300 = .ok (.iconst 1, 1) := by decide +kernel
theorem dL_house_301 : decode cL_house 301 = .ok (.dup2, 1) := by decide +kernel
theorem dL_house_302 : decode cL_house 302 = .ok (.iaload, 1) := by decide +kernel
theorem dL_house_303 : decode cL_house 303 = .ok (.iconst 1, 1) := by decide +kernel
theorem dL_house_304 : decode cL_house 304 = .ok (.iload 9, 2) := by decide +kernel
theorem dL_house_306 : decode cL_house 306 = .ok (.bipush 9, 2) := by decide +kernel
theorem dL_house_308 : decode cL_house 308 = .ok (.irem, 1) := by decide +kernel
theorem dL_house_309 : decode cL_house 309 = .ok (.iadd, 1) := by decide +kernel
theorem dL_house_310 : decode cL_house 310 = .ok (.iadd, 1) := by decide +kernel
theorem dL_house_311 : decode cL_house 311 = .ok (.iastore, 1) := by decide +kernel
theorem dL_house_312 : decode cL_house 312 = .ok (.aload_n 2, 1) := by decide +kernel
theorem dL_house_313 : decode cL_house 313 = .ok (.iconst 1, 1) := by decide +kernel
theorem dL_house_314 : decode cL_house 314 = .ok (.iload 9, 2) := by decide +kernel
theorem dL_house_316 : decode cL_house 316 = .ok (.bipush 9, 2) := by decide +kernel
theorem dL_house_318 : decode cL_house 318 = .ok (.irem, 1) := by decide +kernel
theorem dL_house_319 : decode cL_house 319 = .ok (.iadd, 1) := by decide +kernel
theorem dL_house_320 : decode cL_house 320 = .ok (.invokevirtual 107, 3) := by decide +kernel
theorem dL_house_323 : decode cL_house 323 = .ok (.aload_n 3, 1) := by decide +kernel
theorem dL_house_324 : decode cL_house 324 = .ok (.iconst 1, 1) := by decide +kernel
theorem dL_house_325 : decode cL_house 325 = .ok (.iaload, 1) := by decide +kernel
theorem dL_house_326 : decode cL_house 326 = .ok (.if_icmp .ne 7, 3) := by decide +kernel
theorem dL_house_329 : decode cL_house 329 = .ok (.iconst 1, 1) := by decide +kernel
theorem dL_house_330 : decode cL_house 330 = .ok (.goto 4, 3) := by decide +kernel
theorem dL_house_333 : decode cL_house 333 = .ok (.iconst 0, 1) := by decide +kernel
theorem dL_house_334 : decode cL_house 334 = .ok (.istore 6, 2) := by decide +kernel
theorem dL_house_336 : decode cL_house 336 = .ok (.goto 227, 3) := by decide +kernel
theorem dL_house_339 : decode cL_house 339 = .ok (.iload 10, 2) := by decide +kernel
theorem dL_house_341 : decode cL_house 341 = .ok (.bipush 6, 2) := by decide +kernel
theorem dL_house_343 : decode cL_house 343 = .ok (.if_icmp .ne 83, 3) := by decide +kernel
theorem dL_house_346 : decode cL_house 346 = .ok (.aload_n 2, 1) := by decide +kernel
theorem dL_house_347 : decode cL_house 347 = .ok (.aload_n 3, 1) := by decide +kernel
theorem dL_house_348 : decode cL_house 348 = .ok (.iconst 1, 1) := by decide +kernel
theorem dL_house_349 : decode cL_house 349 = .ok (.iaload, 1) := by decide +kernel
theorem dL_house_350 : decode cL_house 350 = .ok (.aload_n 3, 1) := by decide +kernel
theorem dL_house_351 : decode cL_house 351 = .ok (.iconst 1, 1) := by decide +kernel
theorem dL_house_352 : decode cL_house 352 = .ok (.iaload, 1) := by decide +kernel
theorem dL_house_353 : decode cL_house 353 = .ok (.iload 9, 2) := by decide +kernel
theorem dL_house_355 : decode cL_house 355 = .ok (.bipush 40, 2) := by decide +kernel
theorem dL_house_357 : decode cL_house 357 = .ok (.irem, 1) := by decide +kernel
theorem dL_house_358 : decode cL_house 358 = .ok (.iadd, 1) := by decide +kernel
theorem dL_house_359 : decode cL_house 359 = .ok (.iload 9, 2) := by decide +kernel
theorem dL_house_361 : decode cL_house 361 = .ok (.bipush 40, 2) := by decide +kernel
theorem dL_house_363 : decode cL_house 363 = .ok (.idiv, 1) := by decide +kernel
theorem dL_house_364 : decode cL_house 364 = .ok (.bipush 31, 2) := by decide +kernel
theorem dL_house_366 : decode cL_house 366 = .ok (.irem, 1) := by decide +kernel
theorem dL_house_367 : decode cL_house 367 = .ok (.invokevirtual 110, 3) := by decide +kernel
theorem dL_house_370 : decode cL_house 370 = .ok (.istore 12, 2) := by decide +kernel
theorem dL_house_372 : decode cL_house 372 = .ok (.iload 12, 2) := by decide +kernel
theorem dL_house_374 : decode cL_house 374 = .ok (.ifCond .lt 46, 3) := by decide +kernel
theorem dL_house_377 : decode cL_house 377 = .ok (.iload 12, 2) := by decide +kernel
theorem dL_house_379 : decode cL_house 379 = .ok (.iconst 1, 1) := by decide +kernel
theorem dL_house_380 : decode cL_house 380 = .ok (.iload 9, 2) := by decide +kernel
theorem dL_house_382 : decode cL_house 382 = .ok (.bipush 40, 2) := by decide +kernel
theorem dL_house_384 : decode cL_house 384 = .ok (.irem, 1) := by decide +kernel
theorem dL_house_385 : decode cL_house 385 = .ok (.iadd, 1) := by decide +kernel
theorem dL_house_386 : decode cL_house 386 = .ok (.if_icmp .gt 34, 3) := by decide +kernel
theorem dL_house_389 : decode cL_house 389 = .ok (.aload_n 2, 1) := by decide +kernel
theorem dL_house_390 : decode cL_house 390 = .ok (.aload_n 3, 1) := by decide +kernel
theorem dL_house_391 : decode cL_house 391 = .ok (.iconst 1, 1) := by decide +kernel
theorem dL_house_392 : decode cL_house 392 = .ok (.iaload, 1) := by decide +kernel
theorem dL_house_393 : decode cL_house 393 = .ok (.aload_n 3, 1) := by decide +kernel
theorem dL_house_394 : decode cL_house 394 = .ok (.iconst 1, 1) := by decide +kernel
theorem dL_house_395 : decode cL_house 395 = .ok (.iaload, 1) := by decide +kernel
theorem dL_house_396 : decode cL_house 396 = .ok (.iload 9, 2) := by decide +kernel
theorem dL_house_398 : decode cL_house 398 = .ok (.bipush 40, 2) := by decide +kernel
theorem dL_house_400 : decode cL_house 400 = .ok (.irem, 1) := by decide +kernel
theorem dL_house_401 : decode cL_house 401 = .ok (.iadd, 1) := by decide +kernel
theorem dL_house_402 : decode cL_house 402 = .ok (.iload 9, 2) := by decide +kernel
theorem dL_house_404 : decode cL_house 404 = .ok (.bipush 40, 2) := by decide +kernel
theorem dL_house_406 : decode cL_house 406 = .ok (.idiv, 1) := by decide +kernel
theorem dL_house_407 : decode cL_house 407 = .ok (.bipush 31, 2) := by decide +kernel
theorem dL_house_409 : decode cL_house 409 = .ok (.irem, 1) := by decide +kernel
theorem dL_house_410 : decode cL_house 410 = .ok (.invokevirtual 110, 3) := by decide +kernel
theorem dL_house_413 : decode cL_house 413 = .ok (.ifCond .ne 7, 3) := by decide +kernel
theorem dL_house_416 : decode cL_house 416 = .ok (.iconst 1, 1) := by decide +kernel
theorem dL_house_417 : decode cL_house 417 = .ok (.goto 4, 3) := by decide +kernel
theorem dL_house_420 : decode cL_house 420 = .ok (.iconst 0, 1) := by decide +kernel
theorem dL_house_421 : decode cL_house 421 = .ok (.istore 6, 2) := by decide +kernel
theorem dL_house_423 : decode cL_house 423 = .ok (.goto 140, 3) := by decide +kernel
theorem dL_house_426 : decode cL_house 426 = .ok (.iload 10, 2) := by decide +kernel
theorem dL_house_428 : decode cL_house 428 = .ok (.bipush 7, 2) := by decide +kernel
theorem dL_house_430 : decode cL_house 430 = .ok (.if_icmp .ne 36, 3) := by decide +kernel
theorem dL_house_433 : decode cL_house 433 = .ok (.aload_n 2, 1) := by decide +kernel
theorem dL_house_434 : decode cL_house 434 = .ok (.iload 11, 2) := by decide +kernel
theorem dL_house_436 : decode cL_house 436 = .ok (.iconst 4, 1) := by decide +kernel
theorem dL_house_437 : decode cL_house 437 = .ok (.irem, 1) := by decide +kernel
theorem dL_house_438 : decode cL_house 438 = .ok (.iload 9, 2) := by decide +kernel
theorem dL_house_440 : decode cL_house 440 = .ok (.bipush 101, 2) := by decide +kernel
theorem dL_house_442 : decode cL_house 442 = .ok (.irem, 1) := by decide +kernel
theorem dL_house_443 : decode cL_house 443 = .ok (.iload 9, 2) := by decide +kernel
theorem dL_house_445 : decode cL_house 445 = .ok (.bipush 101, 2) := by decide +kernel
theorem dL_house_447 : decode cL_house 447 = .ok (.idiv, 1) := by decide +kernel
theorem dL_house_448 : decode cL_house 448 = .ok (.bipush 60, 2) := by decide +kernel
theorem dL_house_450 : decode cL_house 450 = .ok (.irem, 1) := by decide +kernel
theorem dL_house_451 : decode cL_house 451 = .ok (.iload 9, 2) := by decide +kernel
theorem dL_house_453 : decode cL_house 453 = .ok (.sipush 6060, 3) := by decide +kernel
theorem dL_house_456 : decode cL_house 456 = .ok (.idiv, 1) := by decide +kernel
theorem dL_house_457 : decode cL_house 457 = .ok (.bipush 101, 2) := by decide +kernel
theorem dL_house_459 : decode cL_house 459 = .ok (.irem, 1) := by decide +kernel
theorem dL_house_460 : decode cL_house 460 = .ok (.invokevirtual 113, 3) := by decide +kernel
theorem dL_house_463 : decode cL_house 463 = .ok (.goto 100, 3) := by decide +kernel
theorem dL_house_466 : decode cL_house 466 = .ok (.iload 10, 2) := by decide +kernel
theorem dL_house_468 : decode cL_house 468 = .ok (.bipush 12, 2) := by decide +kernel
theorem dL_house_470 : decode cL_house 470 = .ok (.if_icmp .ge 19, 3) := by decide +kernel
theorem dL_house_473 : decode cL_house 473 = .ok (.aload_n 2, 1) := by decide +kernel
theorem dL_house_474 : decode cL_house 474 = .ok (.iload 11, 2) := by decide +kernel
theorem dL_house_476 : decode cL_house 476 = .ok (.iload 9, 2) := by decide +kernel
theorem dL_house_478 : decode cL_house 478 = .ok (.aload_n 3, 1) := by decide +kernel
theorem dL_house_479 : decode cL_house 479 = .ok (.aload 5, 2) := by decide +kernel
theorem dL_house_481 : decode cL_house 481 = .ok (.invokestatic 117, 3) := by decide +kernel
theorem dL_house_484 : decode cL_house 484 = .ok (.istore 6, 2) := by decide +kernel
theorem dL_house_486 : decode cL_house 486 = .ok (.goto 77, 3) := by decide +kernel
theorem dL_house_489 : decode cL_house 489 = .ok (.iload 10, 2) := by decide +kernel
theorem dL_house_491 : decode cL_house 491 = .ok (.bipush 12, 2) := by decide +kernel
theorem dL_house_493 : decode cL_house 493 = .ok (.if_icmp .ne 17, 3) := by decide +kernel
theorem dL_house_496 : decode cL_house 496 = .ok (.aload_n 2, 1) := by decide +kernel
theorem dL_house_497 : decode cL_house 497 = .ok (.iload 11, 2) := by decide +kernel
theorem dL_house_499 : decode cL_house 499 = .ok (.aload_n 3, 1) := by decide +kernel
theorem dL_house_500 : decode cL_house 500 = .ok (.aload 5, 2) := by decide +kernel
theorem dL_house_502 : decode cL_house 502 = .ok (.invokestatic 121, 3) := by decide +kernel
theorem dL_house_505 : decode cL_house 505 = .ok (.istore 6, 2) := by decide +kernel
theorem dL_house_507 : decode cL_house 507 = .ok (.goto 56, 3) := by decide +kernel
theorem dL_house_510 : decode cL_house 510 = .ok (.iload 10, 2) := by decide +kernel
theorem dL_house_512 : decode cL_house 512 = .ok (.bipush 15, 2) := by decide +kernel
theorem dL_house_514 : decode cL_house 514 = .ok (.if_icmp .ge 17, 3) := by decide +kernel
theorem dL_house_517 : decode cL_house 517 = .ok (.aload_n 2, 1) := by decide +kernel
theorem dL_house_518 : decode cL_house 518 = .ok (.iload 11, 2) := by decide +kernel
theorem dL_house_520 : decode cL_house 520 = .ok (.iload 9, 2) := by decide +kernel
theorem dL_house_522 : decode cL_house 522 = .ok (.aload_n 3, 1) := by decide +kernel
theorem dL_house_523 : decode cL_house 523 = .ok (.invokestatic 125, 3) := by decide +kernel
theorem dL_house_526 : decode cL_house 526 = .ok (.istore 6, 2) := by decide +kernel
theorem dL_house_528 : decode cL_house 528 = .ok (.goto 35, 3) := by decide +kernel
theorem dL_house_531 : decode cL_house 531 = .ok (.iload 10, 2) := by decide +kernel
theorem dL_house_533 : decode cL_house 533 = .ok (.bipush 18, 2) := by decide +kernel
theorem dL_house_535 : decode cL_house 535 = .ok (.if_icmp .ge 15, 3) := by decide +kernel
theorem dL_house_538 : decode cL_house 538 = .ok (.aload_n 2, 1) := by decide +kernel
theorem dL_house_539 : decode cL_house 539 = .ok (.iload 11, 2) := by decide +kernel
theorem dL_house_541 : decode cL_house 541 = .ok (.iload 9, 2) := by decide +kernel
theorem dL_house_543 : decode cL_house 543 = .ok (.aload_n 3, 1) := by decide +kernel
theorem dL_house_544 : decode cL_house 544 = .ok (.invokestatic 129, 3) := by decide +kernel
theorem dL_house_547 : decode cL_house 547 = .ok (.goto 14, 3) := by decide +kernel
theorem dL_house_550 : decode cL_house 550 = .ok (.aload_n 2, 1) := by decide +kernel
theorem dL_house_551 : decode cL_house 551 = .ok (.iload 11, 2) := by decide +kernel
theorem dL_house_553 : decode cL_house 553 = .ok (.iload 9, 2) := by decide +kernel
theorem dL_house_555 : decode cL_house 555 = .ok (.aload_n 3, 1) := by decide +kernel
theorem dL_house_556 : decode cL_house 556 = .ok (.aload 4, 2) := by decide +kernel
theorem dL_house_558 : decode cL_house 558 = .ok (.invokestatic 132, 3) := by decide +kernel
theorem dL_house_561 : decode cL_house 561 = .ok (.istore 6, 2) := by decide +kernel
theorem dL_house_563 : decode cL_house 563 = .ok (.iload 6, 2) := by decide +kernel
theorem dL_house_565 : decode cL_house 565 = .ok (.ifCond .eq 31, 3) := by decide +kernel
theorem dL_house_568 : decode cL_house 568 = .ok (.iload 7, 2) := by decide +kernel
theorem dL_house_570 : decode cL_house 570 = .ok (.bipush 10, 2) := by decide +kernel
theorem dL_house_572 : decode cL_house 572 = .ok (.irem, 1) := by decide +kernel
theorem dL_house_573 : decode cL_house 573 = .ok (.bipush 9, 2) := by decide +kernel
theorem dL_house_575 : decode cL_house 575 = .ok (.if_icmp .lt 17, 3) := by decide +kernel
theorem dL_house_578 : decode cL_house 578 = .ok (.aload_n 2, 1) := by decide +kernel
theorem dL_house_579 : decode cL_house 579 = .ok (.iload 9, 2) := by decide +kernel
theorem dL_house_581 : decode cL_house 581 = .ok (.aload_n 3, 1) := by decide +kernel
theorem dL_house_582 : decode cL_house 582 = .ok (.aload 4, 2) := by decide +kernel
theorem dL_house_584 : decode cL_house 584 = .ok (.aload 5, 2) := by decide +kernel
theorem dL_house_586 : decode cL_house 586 = .ok (.invokestatic 135, 3) := by decide +kernel
theorem dL_house_589 : decode cL_house 589 = .ok (.ifCond .eq 7, 3) := by decide +kernel
theorem dL_house_592 : decode cL_house 592 = .ok (.iconst 1, 1) := by decide +kernel
theorem dL_house_593 : decode cL_house 593 = .ok (.goto 4, 3) := by decide +kernel
theorem dL_house_596 : decode cL_house 596 = .ok (.iconst 0, 1) := by decide +kernel
theorem dL_house_597 : decode cL_house 597 = .ok (.istore 6, 2) := by decide +kernel
theorem dL_house_599 : decode cL_house 599 = .ok (.iinc 7 1, 3) := by decide +kernel
theorem dL_house_602 : decode cL_house 602 = .ok (.goto (-572), 3) := by decide +kernel
theorem dL_house_605 : decode cL_house 605 = .ok (.iload 6, 2) := by decide +kernel
theorem dL_house_607 : decode cL_house 607 = .ok (.ifCond .eq 21, 3) := by decide +kernel
theorem dL_house_610 : decode cL_house 610 = .ok (.aload_n 2, 1) := by decide +kernel
theorem dL_house_611 : decode cL_house 611 = .ok (.bipush 97, 2) := by decide +kernel
theorem dL_house_613 : decode cL_house 613 = .ok (.aload_n 3, 1) := by decide +kernel
theorem dL_house_614 : decode cL_house 614 = .ok (.aload 4, 2) := by decide +kernel
theorem dL_house_616 : decode cL_house 616 = .ok (.aload 5, 2) := by decide +kernel
theorem dL_house_618 : decode cL_house 618 = .ok (.invokestatic 135, 3) := by decide +kernel
theorem dL_house_621 : decode cL_house 621 = .ok (.ifCond .eq 7, 3) := by decide +kernel
theorem dL_house_624 : decode cL_house 624 = .ok (.iconst 1, 1) := by decide +kernel
theorem dL_house_625 : decode cL_house 625 = .ok (.goto 4, 3) := by decide +kernel
theorem dL_house_628 : decode cL_house 628 = .ok (.iconst 0, 1) := by decide +kernel
theorem dL_house_629 : decode cL_house 629 = .ok (.ireturn, 1) := by decide +kernel

theorem dn_d_Law_law_300 : decode dn_c_Law_law 300 = .ok (.iaload, 1) := by decide +kernel
theorem dn_d_Law_law_301 : decode dn_c_Law_law 301 = .ok (.i2l, 1) := by decide +kernel
theorem dn_d_Law_law_302 : decode dn_c_Law_law 302 = .ok (.ldc2_w 67, 3) := by decide +kernel
theorem dn_d_Law_law_305 : decode dn_c_Law_law 305 = .ok (.land, 1) := by decide +kernel
theorem dn_d_Law_law_306 : decode dn_c_Law_law 306 = .ok (.lor, 1) := by decide +kernel
theorem dn_d_Law_law_307 : decode dn_c_Law_law 307 = .ok (.invokevirtual 74, 3) := by decide +kernel
theorem dn_d_Law_law_310 : decode dn_c_Law_law 310 = .ok (.aload_n 2, 1) := by decide +kernel
theorem dn_d_Law_law_311 : decode dn_c_Law_law 311 = .ok (.aload_n 0, 1) := by decide +kernel
theorem dn_d_Law_law_312 : decode dn_c_Law_law 312 = .ok (.iload 4, 2) := by decide +kernel
theorem dn_d_Law_law_314 : decode dn_c_Law_law 314 = .ok (.iconst 1, 1) := by decide +kernel
theorem dn_d_Law_law_315 : decode dn_c_Law_law 315 = .ok (.iadd, 1) := by decide +kernel
theorem dn_d_Law_law_316 : decode dn_c_Law_law 316 = .ok (.iaload, 1) := by decide +kernel
theorem dn_d_Law_law_317 : decode dn_c_Law_law 317 = .ok (.i2l, 1) := by decide +kernel
theorem dn_d_Law_law_318 : decode dn_c_Law_law 318 = .ok (.bipush 32, 2) := by decide +kernel
theorem dn_d_Law_law_320 : decode dn_c_Law_law 320 = .ok (.lshl, 1) := by decide +kernel
theorem dn_d_Law_law_321 : decode dn_c_Law_law 321 = .ok (.aload_n 0, 1) := by decide +kernel
theorem dn_d_Law_law_322 : decode dn_c_Law_law 322 = .ok (.iload 4, 2) := by decide +kernel
theorem dn_d_Law_law_324 : decode dn_c_Law_law 324 = .ok (.iconst 2, 1) := by decide +kernel
theorem dn_d_Law_law_325 : decode dn_c_Law_law 325 = .ok (.iadd, 1) := by decide +kernel
theorem dn_d_Law_law_326 : decode dn_c_Law_law 326 = .ok (.iaload, 1) := by decide +kernel
theorem dn_d_Law_law_327 : decode dn_c_Law_law 327 = .ok (.i2l, 1) := by decide +kernel
theorem dn_d_Law_law_328 : decode dn_c_Law_law 328 = .ok (.ldc2_w 67, 3) := by decide +kernel
theorem dn_d_Law_law_331 : decode dn_c_Law_law 331 = .ok (.land, 1) := by decide +kernel
theorem dn_d_Law_law_332 : decode dn_c_Law_law 332 = .ok (.lor, 1) := by decide +kernel
theorem dn_d_Law_law_333 : decode dn_c_Law_law 333 = .ok (.aload_n 0, 1) := by decide +kernel
theorem dn_d_Law_law_334 : decode dn_c_Law_law 334 = .ok (.iload 4, 2) := by decide +kernel
theorem dn_d_Law_law_336 : decode dn_c_Law_law 336 = .ok (.iconst 3, 1) := by decide +kernel
theorem dn_d_Law_law_337 : decode dn_c_Law_law 337 = .ok (.iadd, 1) := by decide +kernel
theorem dn_d_Law_law_338 : decode dn_c_Law_law 338 = .ok (.iaload, 1) := by decide +kernel
theorem dn_d_Law_law_339 : decode dn_c_Law_law 339 = .ok (.i2l, 1) := by decide +kernel
theorem dn_d_Law_law_340 : decode dn_c_Law_law 340 = .ok (.bipush 32, 2) := by decide +kernel
theorem dn_d_Law_law_342 : decode dn_c_Law_law 342 = .ok (.lshl, 1) := by decide +kernel
theorem dn_d_Law_law_343 : decode dn_c_Law_law 343 = .ok (.aload_n 0, 1) := by decide +kernel
theorem dn_d_Law_law_344 : decode dn_c_Law_law 344 = .ok (.iload 4, 2) := by decide +kernel
theorem dn_d_Law_law_346 : decode dn_c_Law_law 346 = .ok (.iconst 4, 1) := by decide +kernel
theorem dn_d_Law_law_347 : decode dn_c_Law_law 347 = .ok (.iadd, 1) := by decide +kernel
theorem dn_d_Law_law_348 : decode dn_c_Law_law 348 = .ok (.iaload, 1) := by decide +kernel
theorem dn_d_Law_law_349 : decode dn_c_Law_law 349 = .ok (.i2l, 1) := by decide +kernel
theorem dn_d_Law_law_350 : decode dn_c_Law_law 350 = .ok (.ldc2_w 67, 3) := by decide +kernel
theorem dn_d_Law_law_353 : decode dn_c_Law_law 353 = .ok (.land, 1) := by decide +kernel
theorem dn_d_Law_law_354 : decode dn_c_Law_law 354 = .ok (.lor, 1) := by decide +kernel
theorem dn_d_Law_law_355 : decode dn_c_Law_law 355 = .ok (.invokevirtual 77, 3) := by decide +kernel
theorem dn_d_Law_law_358 : decode dn_c_Law_law 358 = .ok (.lcmp, 1) := by decide +kernel
theorem dn_d_Law_law_359 : decode dn_c_Law_law 359 = .ok (.ifCond .eq 1419, 3) := by decide +kernel
theorem dn_d_Law_law_362 : decode dn_c_Law_law 362 = .ok (.iconst 0, 1) := by decide +kernel
theorem dn_d_Law_law_363 : decode dn_c_Law_law 363 = .ok (.ireturn, 1) := by decide +kernel
theorem dn_d_Law_law_364 : decode dn_c_Law_law 364 = .ok (.aload_n 1, 1) := by decide +kernel
theorem dn_d_Law_law_365 : decode dn_c_Law_law 365 = .ok (.aload_n 0, 1) := by decide +kernel
theorem dn_d_Law_law_366 : decode dn_c_Law_law 366 = .ok (.iload 4, 2) := by decide +kernel
theorem dn_d_Law_law_368 : decode dn_c_Law_law 368 = .ok (.iconst 1, 1) := by decide +kernel
theorem dn_d_Law_law_369 : decode dn_c_Law_law 369 = .ok (.iadd, 1) := by decide +kernel
theorem dn_d_Law_law_370 : decode dn_c_Law_law 370 = .ok (.iaload, 1) := by decide +kernel
theorem dn_d_Law_law_371 : decode dn_c_Law_law 371 = .ok (.aload_n 0, 1) := by decide +kernel
theorem dn_d_Law_law_372 : decode dn_c_Law_law 372 = .ok (.iload 4, 2) := by decide +kernel
theorem dn_d_Law_law_374 : decode dn_c_Law_law 374 = .ok (.iconst 2, 1) := by decide +kernel
theorem dn_d_Law_law_375 : decode dn_c_Law_law 375 = .ok (.iadd, 1) := by decide +kernel
theorem dn_d_Law_law_376 : decode dn_c_Law_law 376 = .ok (.iaload, 1) := by decide +kernel
theorem dn_d_Law_law_377 : decode dn_c_Law_law 377 = .ok (.i2l, 1) := by decide +kernel
theorem dn_d_Law_law_378 : decode dn_c_Law_law 378 = .ok (.bipush 32, 2) := by decide +kernel
theorem dn_d_Law_law_380 : decode dn_c_Law_law 380 = .ok (.lshl, 1) := by decide +kernel
theorem dn_d_Law_law_381 : decode dn_c_Law_law 381 = .ok (.aload_n 0, 1) := by decide +kernel
theorem dn_d_Law_law_382 : decode dn_c_Law_law 382 = .ok (.iload 4, 2) := by decide +kernel
theorem dn_d_Law_law_384 : decode dn_c_Law_law 384 = .ok (.iconst 3, 1) := by decide +kernel
theorem dn_d_Law_law_385 : decode dn_c_Law_law 385 = .ok (.iadd, 1) := by decide +kernel
theorem dn_d_Law_law_386 : decode dn_c_Law_law 386 = .ok (.iaload, 1) := by decide +kernel
theorem dn_d_Law_law_387 : decode dn_c_Law_law 387 = .ok (.i2l, 1) := by decide +kernel
theorem dn_d_Law_law_388 : decode dn_c_Law_law 388 = .ok (.ldc2_w 67, 3) := by decide +kernel
theorem dn_d_Law_law_391 : decode dn_c_Law_law 391 = .ok (.land, 1) := by decide +kernel
theorem dn_d_Law_law_392 : decode dn_c_Law_law 392 = .ok (.lor, 1) := by decide +kernel
theorem dn_d_Law_law_393 : decode dn_c_Law_law 393 = .ok (.aload_n 3, 1) := by decide +kernel
theorem dn_d_Law_law_394 : decode dn_c_Law_law 394 = .ok (.invokestatic 78, 3) := by decide +kernel
theorem dn_d_Law_law_397 : decode dn_c_Law_law 397 = .ok (.istore 5, 2) := by decide +kernel
theorem dn_d_Law_law_399 : decode dn_c_Law_law 399 = .ok (.aload_n 2, 1) := by decide +kernel
theorem dn_d_Law_law_400 : decode dn_c_Law_law 400 = .ok (.aload_n 0, 1) := by decide +kernel
theorem dn_d_Law_law_401 : decode dn_c_Law_law 401 = .ok (.iload 4, 2) := by decide +kernel
theorem dn_d_Law_law_403 : decode dn_c_Law_law 403 = .ok (.iconst 1, 1) := by decide +kernel
theorem dn_d_Law_law_404 : decode dn_c_Law_law 404 = .ok (.iadd, 1) := by decide +kernel
theorem dn_d_Law_law_405 : decode dn_c_Law_law 405 = .ok (.iaload, 1) := by decide +kernel
theorem dn_d_Law_law_406 : decode dn_c_Law_law 406 = .ok (.aload_n 0, 1) := by decide +kernel
theorem dn_d_Law_law_407 : decode dn_c_Law_law 407 = .ok (.iload 4, 2) := by decide +kernel
theorem dn_d_Law_law_409 : decode dn_c_Law_law 409 = .ok (.iconst 2, 1) := by decide +kernel
theorem dn_d_Law_law_410 : decode dn_c_Law_law 410 = .ok (.iadd, 1) := by decide +kernel
theorem dn_d_Law_law_411 : decode dn_c_Law_law 411 = .ok (.iaload, 1) := by decide +kernel
theorem dn_d_Law_law_412 : decode dn_c_Law_law 412 = .ok (.i2l, 1) := by decide +kernel
theorem dn_d_Law_law_413 : decode dn_c_Law_law 413 = .ok (.bipush 32, 2) := by decide +kernel
theorem dn_d_Law_law_415 : decode dn_c_Law_law 415 = .ok (.lshl, 1) := by decide +kernel
theorem dn_d_Law_law_416 : decode dn_c_Law_law 416 = .ok (.aload_n 0, 1) := by decide +kernel
theorem dn_d_Law_law_417 : decode dn_c_Law_law 417 = .ok (.iload 4, 2) := by decide +kernel
theorem dn_d_Law_law_419 : decode dn_c_Law_law 419 = .ok (.iconst 3, 1) := by decide +kernel
theorem dn_d_Law_law_420 : decode dn_c_Law_law 420 = .ok (.iadd, 1) := by decide +kernel
theorem dn_d_Law_law_421 : decode dn_c_Law_law 421 = .ok (.iaload, 1) := by decide +kernel
theorem dn_d_Law_law_422 : decode dn_c_Law_law 422 = .ok (.i2l, 1) := by decide +kernel
theorem dn_d_Law_law_423 : decode dn_c_Law_law 423 = .ok (.ldc2_w 67, 3) := by decide +kernel
theorem dn_d_Law_law_426 : decode dn_c_Law_law 426 = .ok (.land, 1) := by decide +kernel
theorem dn_d_Law_law_427 : decode dn_c_Law_law 427 = .ok (.lor, 1) := by decide +kernel
theorem dn_d_Law_law_428 : decode dn_c_Law_law 428 = .ok (.invokevirtual 81, 3) := by decide +kernel
theorem dn_d_Law_law_431 : decode dn_c_Law_law 431 = .ok (.istore 6, 2) := by decide +kernel
theorem dn_d_Law_law_433 : decode dn_c_Law_law 433 = .ok (.aload_n 2, 1) := by decide +kernel
theorem dn_d_Law_law_434 : decode dn_c_Law_law 434 = .ok (.invokevirtual 82, 3) := by decide +kernel
theorem dn_d_Law_law_437 : decode dn_c_Law_law 437 = .ok (.iload 5, 2) := by decide +kernel
theorem dn_d_Law_law_439 : decode dn_c_Law_law 439 = .ok (.if_icmp .eq 5, 3) := by decide +kernel
theorem dn_d_Law_law_442 : decode dn_c_Law_law 442 = .ok (.iconst 0, 1) := by decide +kernel
theorem dn_d_Law_law_443 : decode dn_c_Law_law 443 = .ok (.ireturn, 1) := by decide +kernel
theorem dn_d_Law_law_444 : decode dn_c_Law_law 444 = .ok (.iload 5, 2) := by decide +kernel
theorem dn_d_Law_law_446 : decode dn_c_Law_law 446 = .ok (.ifCond .ne 15, 3) := by decide +kernel
theorem dn_d_Law_law_449 : decode dn_c_Law_law 449 = .ok (.aload_n 3, 1) := by decide +kernel
theorem dn_d_Law_law_450 : decode dn_c_Law_law 450 = .ok (.iconst 0, 1) := by decide +kernel
theorem dn_d_Law_law_451 : decode dn_c_Law_law 451 = .ok (.laload, 1) := by decide +kernel
theorem dn_d_Law_law_452 : decode dn_c_Law_law 452 = .ok (.iload 6, 2) := by decide +kernel
theorem dn_d_Law_law_454 : decode dn_c_Law_law 454 = .ok (.i2l, 1) := by decide +kernel
theorem dn_d_Law_law_455 : decode dn_c_Law_law 455 = .ok (.lcmp, 1) := by decide +kernel
theorem dn_d_Law_law_456 : decode dn_c_Law_law 456 = .ok (.ifCond .eq 5, 3) := by decide +kernel
theorem dn_d_Law_law_459 : decode dn_c_Law_law 459 = .ok (.iconst 0, 1) := by decide +kernel
theorem dn_d_Law_law_460 : decode dn_c_Law_law 460 = .ok (.ireturn, 1) := by decide +kernel
theorem dn_d_Law_law_461 : decode dn_c_Law_law 461 = .ok (.goto 1317, 3) := by decide +kernel
theorem dn_d_Law_law_464 : decode dn_c_Law_law 464 = .ok (.aload_n 1, 1) := by decide +kernel
theorem dn_d_Law_law_465 : decode dn_c_Law_law 465 = .ok (.aload_n 0, 1) := by decide +kernel
theorem dn_d_Law_law_466 : decode dn_c_Law_law 466 = .ok (.iload 4, 2) := by decide +kernel
theorem dn_d_Law_law_468 : decode dn_c_Law_law 468 = .ok (.iconst 1, 1) := by decide +kernel
theorem dn_d_Law_law_469 : decode dn_c_Law_law 469 = .ok (.iadd, 1) := by decide +kernel
theorem dn_d_Law_law_470 : decode dn_c_Law_law 470 = .ok (.iaload, 1) := by decide +kernel
theorem dn_d_Law_law_471 : decode dn_c_Law_law 471 = .ok (.i2l, 1) := by decide +kernel
theorem dn_d_Law_law_472 : decode dn_c_Law_law 472 = .ok (.bipush 32, 2) := by decide +kernel
theorem dn_d_Law_law_474 : decode dn_c_Law_law 474 = .ok (.lshl, 1) := by decide +kernel
theorem dn_d_Law_law_475 : decode dn_c_Law_law 475 = .ok (.aload_n 0, 1) := by decide +kernel
theorem dn_d_Law_law_476 : decode dn_c_Law_law 476 = .ok (.iload 4, 2) := by decide +kernel
theorem dn_d_Law_law_478 : decode dn_c_Law_law 478 = .ok (.iconst 2, 1) := by decide +kernel
theorem dn_d_Law_law_479 : decode dn_c_Law_law 479 = .ok (.iadd, 1) := by decide +kernel
theorem dn_d_Law_law_480 : decode dn_c_Law_law 480 = .ok (.iaload, 1) := by decide +kernel
theorem dn_d_Law_law_481 : decode dn_c_Law_law 481 = .ok (.i2l, 1) := by decide +kernel
theorem dn_d_Law_law_482 : decode dn_c_Law_law 482 = .ok (.ldc2_w 67, 3) := by decide +kernel
theorem dn_d_Law_law_485 : decode dn_c_Law_law 485 = .ok (.land, 1) := by decide +kernel
theorem dn_d_Law_law_486 : decode dn_c_Law_law 486 = .ok (.lor, 1) := by decide +kernel
theorem dn_d_Law_law_487 : decode dn_c_Law_law 487 = .ok (.invokevirtual 86, 3) := by decide +kernel
theorem dn_d_Law_law_490 : decode dn_c_Law_law 490 = .ok (.aload_n 2, 1) := by decide +kernel
theorem dn_d_Law_law_491 : decode dn_c_Law_law 491 = .ok (.aload_n 0, 1) := by decide +kernel
theorem dn_d_Law_law_492 : decode dn_c_Law_law 492 = .ok (.iload 4, 2) := by decide +kernel
theorem dn_d_Law_law_494 : decode dn_c_Law_law 494 = .ok (.iconst 1, 1) := by decide +kernel
theorem dn_d_Law_law_495 : decode dn_c_Law_law 495 = .ok (.iadd, 1) := by decide +kernel
theorem dn_d_Law_law_496 : decode dn_c_Law_law 496 = .ok (.iaload, 1) := by decide +kernel
theorem dn_d_Law_law_497 : decode dn_c_Law_law 497 = .ok (.i2l, 1) := by decide +kernel
theorem dn_d_Law_law_498 : decode dn_c_Law_law 498 = .ok (.bipush 32, 2) := by decide +kernel
theorem dn_d_Law_law_500 : decode dn_c_Law_law 500 = .ok (.lshl, 1) := by decide +kernel
theorem dn_d_Law_law_501 : decode dn_c_Law_law 501 = .ok (.aload_n 0, 1) := by decide +kernel
theorem dn_d_Law_law_502 : decode dn_c_Law_law 502 = .ok (.iload 4, 2) := by decide +kernel
theorem dn_d_Law_law_504 : decode dn_c_Law_law 504 = .ok (.iconst 2, 1) := by decide +kernel
theorem dn_d_Law_law_505 : decode dn_c_Law_law 505 = .ok (.iadd, 1) := by decide +kernel
theorem dn_d_Law_law_506 : decode dn_c_Law_law 506 = .ok (.iaload, 1) := by decide +kernel
theorem dn_d_Law_law_507 : decode dn_c_Law_law 507 = .ok (.i2l, 1) := by decide +kernel
theorem dn_d_Law_law_508 : decode dn_c_Law_law 508 = .ok (.ldc2_w 67, 3) := by decide +kernel
theorem dn_d_Law_law_511 : decode dn_c_Law_law 511 = .ok (.land, 1) := by decide +kernel
theorem dn_d_Law_law_512 : decode dn_c_Law_law 512 = .ok (.lor, 1) := by decide +kernel
theorem dn_d_Law_law_513 : decode dn_c_Law_law 513 = .ok (.invokevirtual 89, 3) := by decide +kernel
theorem dn_d_Law_law_516 : decode dn_c_Law_law 516 = .ok (.lcmp, 1) := by decide +kernel
theorem dn_d_Law_law_517 : decode dn_c_Law_law 517 = .ok (.ifCond .eq 1261, 3) := by decide +kernel
theorem dn_d_Law_law_520 : decode dn_c_Law_law 520 = .ok (.iconst 0, 1) := by decide +kernel
theorem dn_d_Law_law_521 : decode dn_c_Law_law 521 = .ok (.ireturn, 1) := by decide +kernel
theorem dn_d_Law_law_522 : decode dn_c_Law_law 522 = .ok (.aload_n 1, 1) := by decide +kernel
theorem dn_d_Law_law_523 : decode dn_c_Law_law 523 = .ok (.aload_n 0, 1) := by decide +kernel
theorem dn_d_Law_law_524 : decode dn_c_Law_law 524 = .ok (.iload 4, 2) := by decide +kernel
theorem dn_d_Law_law_526 : decode dn_c_Law_law 526 = .ok (.iconst 1, 1) := by decide +kernel
theorem dn_d_Law_law_527 : decode dn_c_Law_law 527 = .ok (.iadd, 1) := by decide +kernel
theorem dn_d_Law_law_528 : decode dn_c_Law_law 528 = .ok (.iaload, 1) := by decide +kernel
theorem dn_d_Law_law_529 : decode dn_c_Law_law 529 = .ok (.aload_n 0, 1) := by decide +kernel
theorem dn_d_Law_law_530 : decode dn_c_Law_law 530 = .ok (.iload 4, 2) := by decide +kernel
theorem dn_d_Law_law_532 : decode dn_c_Law_law 532 = .ok (.iconst 2, 1) := by decide +kernel
theorem dn_d_Law_law_533 : decode dn_c_Law_law 533 = .ok (.iadd, 1) := by decide +kernel
theorem dn_d_Law_law_534 : decode dn_c_Law_law 534 = .ok (.iaload, 1) := by decide +kernel
theorem dn_d_Law_law_535 : decode dn_c_Law_law 535 = .ok (.aload_n 0, 1) := by decide +kernel
theorem dn_d_Law_law_536 : decode dn_c_Law_law 536 = .ok (.iload 4, 2) := by decide +kernel
theorem dn_d_Law_law_538 : decode dn_c_Law_law 538 = .ok (.iconst 3, 1) := by decide +kernel
theorem dn_d_Law_law_539 : decode dn_c_Law_law 539 = .ok (.iadd, 1) := by decide +kernel
theorem dn_d_Law_law_540 : decode dn_c_Law_law 540 = .ok (.iaload, 1) := by decide +kernel
theorem dn_d_Law_law_541 : decode dn_c_Law_law 541 = .ok (.aload_n 3, 1) := by decide +kernel
theorem dn_d_Law_law_542 : decode dn_c_Law_law 542 = .ok (.invokestatic 90, 3) := by decide +kernel
theorem dn_d_Law_law_545 : decode dn_c_Law_law 545 = .ok (.istore 5, 2) := by decide +kernel
theorem dn_d_Law_law_547 : decode dn_c_Law_law 547 = .ok (.aload_n 2, 1) := by decide +kernel
theorem dn_d_Law_law_548 : decode dn_c_Law_law 548 = .ok (.aload_n 0, 1) := by decide +kernel
theorem dn_d_Law_law_549 : decode dn_c_Law_law 549 = .ok (.iload 4, 2) := by decide +kernel
theorem dn_d_Law_law_551 : decode dn_c_Law_law 551 = .ok (.iconst 1, 1) := by decide +kernel
theorem dn_d_Law_law_552 : decode dn_c_Law_law 552 = .ok (.iadd, 1) := by decide +kernel
theorem dn_d_Law_law_553 : decode dn_c_Law_law 553 = .ok (.iaload, 1) := by decide +kernel
theorem dn_d_Law_law_554 : decode dn_c_Law_law 554 = .ok (.aload_n 0, 1) := by decide +kernel
theorem dn_d_Law_law_555 : decode dn_c_Law_law 555 = .ok (.iload 4, 2) := by decide +kernel
theorem dn_d_Law_law_557 : decode dn_c_Law_law 557 = .ok (.iconst 2, 1) := by decide +kernel
theorem dn_d_Law_law_558 : decode dn_c_Law_law 558 = .ok (.iadd, 1) := by decide +kernel
theorem dn_d_Law_law_559 : decode dn_c_Law_law 559 = .ok (.iaload, 1) := by decide +kernel
theorem dn_d_Law_law_560 : decode dn_c_Law_law 560 = .ok (.aload_n 0, 1) := by decide +kernel
theorem dn_d_Law_law_561 : decode dn_c_Law_law 561 = .ok (.iload 4, 2) := by decide +kernel
theorem dn_d_Law_law_563 : decode dn_c_Law_law 563 = .ok (.iconst 3, 1) := by decide +kernel
theorem dn_d_Law_law_564 : decode dn_c_Law_law 564 = .ok (.iadd, 1) := by decide +kernel
theorem dn_d_Law_law_565 : decode dn_c_Law_law 565 = .ok (.iaload, 1) := by decide +kernel
theorem dn_d_Law_law_566 : decode dn_c_Law_law 566 = .ok (.invokevirtual 93, 3) := by decide +kernel
theorem dn_d_Law_law_569 : decode dn_c_Law_law 569 = .ok (.istore 6, 2) := by decide +kernel
theorem dn_d_Law_law_571 : decode dn_c_Law_law 571 = .ok (.aload_n 2, 1) := by decide +kernel
theorem dn_d_Law_law_572 : decode dn_c_Law_law 572 = .ok (.invokevirtual 82, 3) := by decide +kernel
theorem dn_d_Law_law_575 : decode dn_c_Law_law 575 = .ok (.iload 5, 2) := by decide +kernel
theorem dn_d_Law_law_577 : decode dn_c_Law_law 577 = .ok (.if_icmp .eq 5, 3) := by decide +kernel
theorem dn_d_Law_law_580 : decode dn_c_Law_law 580 = .ok (.iconst 0, 1) := by decide +kernel
theorem dn_d_Law_law_581 : decode dn_c_Law_law 581 = .ok (.ireturn, 1) := by decide +kernel
theorem dn_d_Law_law_582 : decode dn_c_Law_law 582 = .ok (.iload 5, 2) := by decide +kernel
theorem dn_d_Law_law_584 : decode dn_c_Law_law 584 = .ok (.ifCond .ne 22, 3) := by decide +kernel
theorem dn_d_Law_law_587 : decode dn_c_Law_law 587 = .ok (.aload_n 3, 1) := by decide +kernel
theorem dn_d_Law_law_588 : decode dn_c_Law_law 588 = .ok (.iconst 0, 1) := by decide +kernel
theorem dn_d_Law_law_589 : decode dn_c_Law_law 589 = .ok (.laload, 1) := by decide +kernel
theorem dn_d_Law_law_590 : decode dn_c_Law_law 590 = .ok (.iload 6, 2) := by decide +kernel
theorem dn_d_Law_law_592 : decode dn_c_Law_law 592 = .ok (.ifCond .eq 7, 3) := by decide +kernel
theorem dn_d_Law_law_595 : decode dn_c_Law_law 595 = .ok (.lconst 1, 1) := by decide +kernel
theorem dn_d_Law_law_596 : decode dn_c_Law_law 596 = .ok (.goto 4, 3) := by decide +kernel
theorem dn_d_Law_law_599 : decode dn_c_Law_law 599 = .ok (.lconst 0, 1) := by decide +kernel

theorem d_L_law_276 : decode code 276 = .ok (.aload_n 0, 1) := by decide +kernel
theorem d_L_law_277 : decode code 277 = .ok (.iload_n 3, 1) := by decide +kernel
theorem d_L_law_278 : decode code 278 = .ok (.iconst 3, 1) := by decide +kernel
theorem d_L_law_279 : decode code 279 = .ok (.iadd, 1) := by decide +kernel
theorem d_L_law_280 : decode code 280 = .ok (.iaload, 1) := by decide +kernel
theorem d_L_law_281 : decode code 281 = .ok (.aload_n 0, 1) := by decide +kernel
theorem d_L_law_282 : decode code 282 = .ok (.iload_n 3, 1) := by decide +kernel
theorem d_L_law_283 : decode code 283 = .ok (.iconst 4, 1) := by decide +kernel
theorem d_L_law_284 : decode code 284 = .ok (.iadd, 1) := by decide +kernel
theorem d_L_law_285 : decode code 285 = .ok (.iaload, 1) := by decide +kernel
theorem d_L_law_286 : decode code 286 = .ok (.invokevirtual 28, 3) := by decide +kernel
theorem d_L_law_289 : decode code 289 = .ok (.aload_n 2, 1) := by decide +kernel
theorem d_L_law_290 : decode code 290 = .ok (.aload_n 0, 1) := by decide +kernel
theorem d_L_law_291 : decode code 291 = .ok (.iload_n 3, 1) := by decide +kernel
theorem d_L_law_292 : decode code 292 = .ok (.iconst 1, 1) := by decide +kernel
theorem d_L_law_293 : decode code 293 = .ok (.iadd, 1) := by decide +kernel
theorem d_L_law_294 : decode code 294 = .ok (.iaload, 1) := by decide +kernel
theorem d_L_law_295 : decode code 295 = .ok (.aload_n 0, 1) := by decide +kernel
theorem d_L_law_296 : decode code 296 = .ok (.iload_n 3, 1) := by decide +kernel
theorem d_L_law_297 : decode code 297 = .ok (.iconst 2, 1) := by decide +kernel
theorem d_L_law_298 : decode code 298 = .ok (.iadd, 1) := by decide +kernel
theorem d_L_law_299 : decode code 299 = .ok (.iaload, 1) := by decide +kernel
theorem d_L_law_300 : decode code 300 = .ok (.aload_n 0, 1) := by decide +kernel
theorem d_L_law_301 : decode code 301 = .ok (.iload_n 3, 1) := by decide +kernel
theorem d_L_law_302 : decode code 302 = .ok (.iconst 3, 1) := by decide +kernel
theorem d_L_law_303 : decode code 303 = .ok (.iadd, 1) := by decide +kernel
theorem d_L_law_304 : decode code 304 = .ok (.iaload, 1) := by decide +kernel
theorem d_L_law_305 : decode code 305 = .ok (.aload_n 0, 1) := by decide +kernel
theorem d_L_law_306 : decode code 306 = .ok (.iload_n 3, 1) := by decide +kernel
theorem d_L_law_307 : decode code 307 = .ok (.iconst 4, 1) := by decide +kernel
theorem d_L_law_308 : decode code 308 = .ok (.iadd, 1) := by decide +kernel
theorem d_L_law_309 : decode code 309 = .ok (.iaload, 1) := by decide +kernel
theorem d_L_law_310 : decode code 310 = .ok (.invokevirtual 31, 3) := by decide +kernel
theorem d_L_law_313 : decode code 313 = .ok (.if_icmp .eq 440, 3) := by decide +kernel
theorem d_L_law_316 : decode code 316 = .ok (.iconst 0, 1) := by decide +kernel
theorem d_L_law_317 : decode code 317 = .ok (.ireturn, 1) := by decide +kernel
theorem d_L_law_318 : decode code 318 = .ok (.aload_n 1, 1) := by decide +kernel
theorem d_L_law_319 : decode code 319 = .ok (.aload_n 0, 1) := by decide +kernel
theorem d_L_law_320 : decode code 320 = .ok (.iload_n 3, 1) := by decide +kernel
theorem d_L_law_321 : decode code 321 = .ok (.iconst 1, 1) := by decide +kernel
theorem d_L_law_322 : decode code 322 = .ok (.iadd, 1) := by decide +kernel
theorem d_L_law_323 : decode code 323 = .ok (.iaload, 1) := by decide +kernel
theorem d_L_law_324 : decode code 324 = .ok (.aload_n 0, 1) := by decide +kernel
theorem d_L_law_325 : decode code 325 = .ok (.iload_n 3, 1) := by decide +kernel
theorem d_L_law_326 : decode code 326 = .ok (.iconst 2, 1) := by decide +kernel
theorem d_L_law_327 : decode code 327 = .ok (.iadd, 1) := by decide +kernel
theorem d_L_law_328 : decode code 328 = .ok (.iaload, 1) := by decide +kernel
theorem d_L_law_329 : decode code 329 = .ok (.aload_n 0, 1) := by decide +kernel
theorem d_L_law_330 : decode code 330 = .ok (.iload_n 3, 1) := by decide +kernel
theorem d_L_law_331 : decode code 331 = .ok (.iconst 3, 1) := by decide +kernel
theorem d_L_law_332 : decode code 332 = .ok (.iadd, 1) := by decide +kernel
theorem d_L_law_333 : decode code 333 = .ok (.iaload, 1) := by decide +kernel
theorem d_L_law_334 : decode code 334 = .ok (.aload_n 0, 1) := by decide +kernel
theorem d_L_law_335 : decode code 335 = .ok (.iload_n 3, 1) := by decide +kernel
theorem d_L_law_336 : decode code 336 = .ok (.iconst 4, 1) := by decide +kernel
theorem d_L_law_337 : decode code 337 = .ok (.iadd, 1) := by decide +kernel
theorem d_L_law_338 : decode code 338 = .ok (.iaload, 1) := by decide +kernel
theorem d_L_law_339 : decode code 339 = .ok (.invokevirtual 32, 3) := by decide +kernel
theorem d_L_law_342 : decode code 342 = .ok (.aload_n 2, 1) := by decide +kernel
theorem d_L_law_343 : decode code 343 = .ok (.aload_n 0, 1) := by decide +kernel
theorem d_L_law_344 : decode code 344 = .ok (.iload_n 3, 1) := by decide +kernel
theorem d_L_law_345 : decode code 345 = .ok (.iconst 1, 1) := by decide +kernel
theorem d_L_law_346 : decode code 346 = .ok (.iadd, 1) := by decide +kernel
theorem d_L_law_347 : decode code 347 = .ok (.iaload, 1) := by decide +kernel
theorem d_L_law_348 : decode code 348 = .ok (.aload_n 0, 1) := by decide +kernel
theorem d_L_law_349 : decode code 349 = .ok (.iload_n 3, 1) := by decide +kernel
theorem d_L_law_350 : decode code 350 = .ok (.iconst 2, 1) := by decide +kernel
theorem d_L_law_351 : decode code 351 = .ok (.iadd, 1) := by decide +kernel
theorem d_L_law_352 : decode code 352 = .ok (.iaload, 1) := by decide +kernel
theorem d_L_law_353 : decode code 353 = .ok (.aload_n 0, 1) := by decide +kernel
theorem d_L_law_354 : decode code 354 = .ok (.iload_n 3, 1) := by decide +kernel
theorem d_L_law_355 : decode code 355 = .ok (.iconst 3, 1) := by decide +kernel
theorem d_L_law_356 : decode code 356 = .ok (.iadd, 1) := by decide +kernel
theorem d_L_law_357 : decode code 357 = .ok (.iaload, 1) := by decide +kernel
theorem d_L_law_358 : decode code 358 = .ok (.aload_n 0, 1) := by decide +kernel
theorem d_L_law_359 : decode code 359 = .ok (.iload_n 3, 1) := by decide +kernel
theorem d_L_law_360 : decode code 360 = .ok (.iconst 4, 1) := by decide +kernel
theorem d_L_law_361 : decode code 361 = .ok (.iadd, 1) := by decide +kernel
theorem d_L_law_362 : decode code 362 = .ok (.iaload, 1) := by decide +kernel
theorem d_L_law_363 : decode code 363 = .ok (.invokevirtual 35, 3) := by decide +kernel
theorem d_L_law_366 : decode code 366 = .ok (.if_icmp .eq 387, 3) := by decide +kernel
theorem d_L_law_369 : decode code 369 = .ok (.iconst 0, 1) := by decide +kernel
theorem d_L_law_370 : decode code 370 = .ok (.ireturn, 1) := by decide +kernel
theorem d_L_law_371 : decode code 371 = .ok (.aload_n 1, 1) := by decide +kernel
theorem d_L_law_372 : decode code 372 = .ok (.invokevirtual 36, 3) := by decide +kernel
theorem d_L_law_375 : decode code 375 = .ok (.aload_n 2, 1) := by decide +kernel
theorem d_L_law_376 : decode code 376 = .ok (.invokevirtual 40, 3) := by decide +kernel
theorem d_L_law_379 : decode code 379 = .ok (.if_icmp .eq 374, 3) := by decide +kernel
theorem d_L_law_382 : decode code 382 = .ok (.iconst 0, 1) := by decide +kernel
theorem d_L_law_383 : decode code 383 = .ok (.ireturn, 1) := by decide +kernel
theorem d_L_law_384 : decode code 384 = .ok (.aload_n 1, 1) := by decide +kernel
theorem d_L_law_385 : decode code 385 = .ok (.aload_n 0, 1) := by decide +kernel
theorem d_L_law_386 : decode code 386 = .ok (.iload_n 3, 1) := by decide +kernel
theorem d_L_law_387 : decode code 387 = .ok (.iconst 1, 1) := by decide +kernel
theorem d_L_law_388 : decode code 388 = .ok (.iadd, 1) := by decide +kernel
theorem d_L_law_389 : decode code 389 = .ok (.iaload, 1) := by decide +kernel
theorem d_L_law_390 : decode code 390 = .ok (.aload_n 0, 1) := by decide +kernel
theorem d_L_law_391 : decode code 391 = .ok (.iload_n 3, 1) := by decide +kernel
theorem d_L_law_392 : decode code 392 = .ok (.iconst 2, 1) := by decide +kernel
theorem d_L_law_393 : decode code 393 = .ok (.iadd, 1) := by decide +kernel
theorem d_L_law_394 : decode code 394 = .ok (.iaload, 1) := by decide +kernel
theorem d_L_law_395 : decode code 395 = .ok (.aload_n 0, 1) := by decide +kernel
theorem d_L_law_396 : decode code 396 = .ok (.iload_n 3, 1) := by decide +kernel
theorem d_L_law_397 : decode code 397 = .ok (.iconst 3, 1) := by decide +kernel
theorem d_L_law_398 : decode code 398 = .ok (.iadd, 1) := by decide +kernel
theorem d_L_law_399 : decode code 399 = .ok (.iaload, 1) := by decide +kernel
theorem d_L_law_400 : decode code 400 = .ok (.aload_n 0, 1) := by decide +kernel
theorem d_L_law_401 : decode code 401 = .ok (.iload_n 3, 1) := by decide +kernel
theorem d_L_law_402 : decode code 402 = .ok (.iconst 4, 1) := by decide +kernel
theorem d_L_law_403 : decode code 403 = .ok (.iadd, 1) := by decide +kernel
theorem d_L_law_404 : decode code 404 = .ok (.iaload, 1) := by decide +kernel
theorem d_L_law_405 : decode code 405 = .ok (.invokevirtual 41, 3) := by decide +kernel
theorem d_L_law_408 : decode code 408 = .ok (.aload_n 2, 1) := by decide +kernel
theorem d_L_law_409 : decode code 409 = .ok (.aload_n 0, 1) := by decide +kernel
theorem d_L_law_410 : decode code 410 = .ok (.iload_n 3, 1) := by decide +kernel
theorem d_L_law_411 : decode code 411 = .ok (.iconst 1, 1) := by decide +kernel
theorem d_L_law_412 : decode code 412 = .ok (.iadd, 1) := by decide +kernel
theorem d_L_law_413 : decode code 413 = .ok (.iaload, 1) := by decide +kernel
theorem d_L_law_414 : decode code 414 = .ok (.aload_n 0, 1) := by decide +kernel
theorem d_L_law_415 : decode code 415 = .ok (.iload_n 3, 1) := by decide +kernel
theorem d_L_law_416 : decode code 416 = .ok (.iconst 2, 1) := by decide +kernel
theorem d_L_law_417 : decode code 417 = .ok (.iadd, 1) := by decide +kernel
theorem d_L_law_418 : decode code 418 = .ok (.iaload, 1) := by decide +kernel
theorem d_L_law_419 : decode code 419 = .ok (.aload_n 0, 1) := by decide +kernel
theorem d_L_law_420 : decode code 420 = .ok (.iload_n 3, 1) := by decide +kernel
theorem d_L_law_421 : decode code 421 = .ok (.iconst 3, 1) := by decide +kernel
theorem d_L_law_422 : decode code 422 = .ok (.iadd, 1) := by decide +kernel
theorem d_L_law_423 : decode code 423 = .ok (.iaload, 1) := by decide +kernel
theorem d_L_law_424 : decode code 424 = .ok (.aload_n 0, 1) := by decide +kernel
theorem d_L_law_425 : decode code 425 = .ok (.iload_n 3, 1) := by decide +kernel
theorem d_L_law_426 : decode code 426 = .ok (.iconst 4, 1) := by decide +kernel
theorem d_L_law_427 : decode code 427 = .ok (.iadd, 1) := by decide +kernel
theorem d_L_law_428 : decode code 428 = .ok (.iaload, 1) := by decide +kernel
theorem d_L_law_429 : decode code 429 = .ok (.invokevirtual 44, 3) := by decide +kernel
theorem d_L_law_432 : decode code 432 = .ok (.if_icmp .eq 321, 3) := by decide +kernel
theorem d_L_law_435 : decode code 435 = .ok (.iconst 0, 1) := by decide +kernel
theorem d_L_law_436 : decode code 436 = .ok (.ireturn, 1) := by decide +kernel
theorem d_L_law_437 : decode code 437 = .ok (.aload_n 1, 1) := by decide +kernel
theorem d_L_law_438 : decode code 438 = .ok (.aload_n 0, 1) := by decide +kernel
theorem d_L_law_439 : decode code 439 = .ok (.iload_n 3, 1) := by decide +kernel
theorem d_L_law_440 : decode code 440 = .ok (.iconst 1, 1) := by decide +kernel
theorem d_L_law_441 : decode code 441 = .ok (.iadd, 1) := by decide +kernel
theorem d_L_law_442 : decode code 442 = .ok (.iaload, 1) := by decide +kernel
theorem d_L_law_443 : decode code 443 = .ok (.aload_n 0, 1) := by decide +kernel
theorem d_L_law_444 : decode code 444 = .ok (.iload_n 3, 1) := by decide +kernel
theorem d_L_law_445 : decode code 445 = .ok (.iconst 2, 1) := by decide +kernel
theorem d_L_law_446 : decode code 446 = .ok (.iadd, 1) := by decide +kernel
theorem d_L_law_447 : decode code 447 = .ok (.iaload, 1) := by decide +kernel
theorem d_L_law_448 : decode code 448 = .ok (.invokevirtual 45, 3) := by decide +kernel
theorem d_L_law_451 : decode code 451 = .ok (.aload_n 2, 1) := by decide +kernel
theorem d_L_law_452 : decode code 452 = .ok (.aload_n 0, 1) := by decide +kernel
theorem d_L_law_453 : decode code 453 = .ok (.iload_n 3, 1) := by decide +kernel
theorem d_L_law_454 : decode code 454 = .ok (.iconst 1, 1) := by decide +kernel
theorem d_L_law_455 : decode code 455 = .ok (.iadd, 1) := by decide +kernel
theorem d_L_law_456 : decode code 456 = .ok (.iaload, 1) := by decide +kernel
theorem d_L_law_457 : decode code 457 = .ok (.aload_n 0, 1) := by decide +kernel
theorem d_L_law_458 : decode code 458 = .ok (.iload_n 3, 1) := by decide +kernel
theorem d_L_law_459 : decode code 459 = .ok (.iconst 2, 1) := by decide +kernel
theorem d_L_law_460 : decode code 460 = .ok (.iadd, 1) := by decide +kernel
theorem d_L_law_461 : decode code 461 = .ok (.iaload, 1) := by decide +kernel
theorem d_L_law_462 : decode code 462 = .ok (.invokevirtual 48, 3) := by decide +kernel
theorem d_L_law_465 : decode code 465 = .ok (.if_icmp .eq 288, 3) := by decide +kernel
theorem d_L_law_468 : decode code 468 = .ok (.iconst 0, 1) := by decide +kernel
theorem d_L_law_469 : decode code 469 = .ok (.ireturn, 1) := by decide +kernel
theorem d_L_law_470 : decode code 470 = .ok (.aload_n 1, 1) := by decide +kernel
theorem d_L_law_471 : decode code 471 = .ok (.aload_n 0, 1) := by decide +kernel
theorem d_L_law_472 : decode code 472 = .ok (.iload_n 3, 1) := by decide +kernel
theorem d_L_law_473 : decode code 473 = .ok (.iconst 1, 1) := by decide +kernel
theorem d_L_law_474 : decode code 474 = .ok (.iadd, 1) := by decide +kernel
theorem d_L_law_475 : decode code 475 = .ok (.iaload, 1) := by decide +kernel
theorem d_L_law_476 : decode code 476 = .ok (.invokevirtual 49, 3) := by decide +kernel
theorem d_L_law_479 : decode code 479 = .ok (.aload_n 2, 1) := by decide +kernel
theorem d_L_law_480 : decode code 480 = .ok (.aload_n 0, 1) := by decide +kernel
theorem d_L_law_481 : decode code 481 = .ok (.iload_n 3, 1) := by decide +kernel
theorem d_L_law_482 : decode code 482 = .ok (.iconst 1, 1) := by decide +kernel
theorem d_L_law_483 : decode code 483 = .ok (.iadd, 1) := by decide +kernel
theorem d_L_law_484 : decode code 484 = .ok (.iaload, 1) := by decide +kernel
theorem d_L_law_485 : decode code 485 = .ok (.invokevirtual 53, 3) := by decide +kernel
theorem d_L_law_488 : decode code 488 = .ok (.if_icmp .eq 265, 3) := by decide +kernel
theorem d_L_law_491 : decode code 491 = .ok (.iconst 0, 1) := by decide +kernel
theorem d_L_law_492 : decode code 492 = .ok (.ireturn, 1) := by decide +kernel
theorem d_L_law_493 : decode code 493 = .ok (.aload_n 1, 1) := by decide +kernel
theorem d_L_law_494 : decode code 494 = .ok (.aload_n 0, 1) := by decide +kernel
theorem d_L_law_495 : decode code 495 = .ok (.iload_n 3, 1) := by decide +kernel
theorem d_L_law_496 : decode code 496 = .ok (.iconst 1, 1) := by decide +kernel
theorem d_L_law_497 : decode code 497 = .ok (.iadd, 1) := by decide +kernel
theorem d_L_law_498 : decode code 498 = .ok (.iaload, 1) := by decide +kernel
theorem d_L_law_499 : decode code 499 = .ok (.invokevirtual 54, 3) := by decide +kernel
theorem d_L_law_502 : decode code 502 = .ok (.aload_n 2, 1) := by decide +kernel
theorem d_L_law_503 : decode code 503 = .ok (.aload_n 0, 1) := by decide +kernel
theorem d_L_law_504 : decode code 504 = .ok (.iload_n 3, 1) := by decide +kernel
theorem d_L_law_505 : decode code 505 = .ok (.iconst 1, 1) := by decide +kernel
theorem d_L_law_506 : decode code 506 = .ok (.iadd, 1) := by decide +kernel
theorem d_L_law_507 : decode code 507 = .ok (.iaload, 1) := by decide +kernel
theorem d_L_law_508 : decode code 508 = .ok (.invokevirtual 57, 3) := by decide +kernel
theorem d_L_law_511 : decode code 511 = .ok (.if_icmp .eq 242, 3) := by decide +kernel
theorem d_L_law_514 : decode code 514 = .ok (.iconst 0, 1) := by decide +kernel
theorem d_L_law_515 : decode code 515 = .ok (.ireturn, 1) := by decide +kernel
theorem d_L_law_516 : decode code 516 = .ok (.aload_n 1, 1) := by decide +kernel
theorem d_L_law_517 : decode code 517 = .ok (.aload_n 0, 1) := by decide +kernel
theorem d_L_law_518 : decode code 518 = .ok (.iload_n 3, 1) := by decide +kernel
theorem d_L_law_519 : decode code 519 = .ok (.iconst 1, 1) := by decide +kernel
theorem d_L_law_520 : decode code 520 = .ok (.iadd, 1) := by decide +kernel
theorem d_L_law_521 : decode code 521 = .ok (.iaload, 1) := by decide +kernel
theorem d_L_law_522 : decode code 522 = .ok (.aload_n 0, 1) := by decide +kernel
theorem d_L_law_523 : decode code 523 = .ok (.iload_n 3, 1) := by decide +kernel
theorem d_L_law_524 : decode code 524 = .ok (.iconst 2, 1) := by decide +kernel
theorem d_L_law_525 : decode code 525 = .ok (.iadd, 1) := by decide +kernel
theorem d_L_law_526 : decode code 526 = .ok (.iaload, 1) := by decide +kernel
theorem d_L_law_527 : decode code 527 = .ok (.invokevirtual 58, 3) := by decide +kernel
theorem d_L_law_530 : decode code 530 = .ok (.dstore 4, 2) := by decide +kernel
theorem d_L_law_532 : decode code 532 = .ok (.aload_n 2, 1) := by decide +kernel
theorem d_L_law_533 : decode code 533 = .ok (.aload_n 0, 1) := by decide +kernel
theorem d_L_law_534 : decode code 534 = .ok (.iload_n 3, 1) := by decide +kernel
theorem d_L_law_535 : decode code 535 = .ok (.iconst 1, 1) := by decide +kernel
theorem d_L_law_536 : decode code 536 = .ok (.iadd, 1) := by decide +kernel
theorem d_L_law_537 : decode code 537 = .ok (.iaload, 1) := by decide +kernel
theorem d_L_law_538 : decode code 538 = .ok (.aload_n 0, 1) := by decide +kernel
theorem d_L_law_539 : decode code 539 = .ok (.iload_n 3, 1) := by decide +kernel
theorem d_L_law_540 : decode code 540 = .ok (.iconst 2, 1) := by decide +kernel
theorem d_L_law_541 : decode code 541 = .ok (.iadd, 1) := by decide +kernel
theorem d_L_law_542 : decode code 542 = .ok (.iaload, 1) := by decide +kernel
theorem d_L_law_543 : decode code 543 = .ok (.invokevirtual 62, 3) := by decide +kernel
theorem d_L_law_546 : decode code 546 = .ok (.dstore 6, 2) := by decide +kernel
theorem d_L_law_548 : decode code 548 = .ok (.dload 4, 2) := by decide +kernel
theorem d_L_law_550 : decode code 550 = .ok (.dload 6, 2) := by decide +kernel
theorem d_L_law_552 : decode code 552 = .ok (.dcmp .l, 1) := by decide +kernel
theorem d_L_law_553 : decode code 553 = .ok (.ifCond .eq 21, 3) := by decide +kernel
theorem d_L_law_556 : decode code 556 = .ok (.dload 4, 2) := by decide +kernel
theorem d_L_law_558 : decode code 558 = .ok (.dload 4, 2) := by decide +kernel
theorem d_L_law_560 : decode code 560 = .ok (.dcmp .l, 1) := by decide +kernel
theorem d_L_law_561 : decode code 561 = .ok (.ifCond .eq 11, 3) := by decide +kernel
theorem d_L_law_564 : decode code 564 = .ok (.dload 6, 2) := by decide +kernel
theorem d_L_law_566 : decode code 566 = .ok (.dload 6, 2) := by decide +kernel
theorem d_L_law_568 : decode code 568 = .ok (.dcmp .l, 1) := by decide +kernel
theorem d_L_law_569 : decode code 569 = .ok (.ifCond .ne 5, 3) := by decide +kernel
theorem d_L_law_572 : decode code 572 = .ok (.iconst 0, 1) := by decide +kernel
theorem d_L_law_573 : decode code 573 = .ok (.ireturn, 1) := by decide +kernel
theorem d_L_law_574 : decode code 574 = .ok (.goto 179, 3) := by decide +kernel
theorem d_L_law_577 : decode code 577 = .ok (.aload_n 1, 1) := by decide +kernel
theorem d_L_law_578 : decode code 578 = .ok (.invokevirtual 63, 3) := by decide +kernel
theorem d_L_law_581 : decode code 581 = .ok (.dstore 4, 2) := by decide +kernel
theorem d_L_law_583 : decode code 583 = .ok (.aload_n 2, 1) := by decide +kernel
theorem d_L_law_584 : decode code 584 = .ok (.invokevirtual 67, 3) := by decide +kernel
theorem d_L_law_587 : decode code 587 = .ok (.dstore 6, 2) := by decide +kernel
theorem d_L_law_589 : decode code 589 = .ok (.dload 4, 2) := by decide +kernel
theorem d_L_law_591 : decode code 591 = .ok (.dload 6, 2) := by decide +kernel
theorem d_L_law_593 : decode code 593 = .ok (.dcmp .l, 1) := by decide +kernel
theorem d_L_law_594 : decode code 594 = .ok (.ifCond .eq 21, 3) := by decide +kernel
theorem d_L_law_597 : decode code 597 = .ok (.dload 4, 2) := by decide +kernel
theorem d_L_law_599 : decode code 599 = .ok (.dload 4, 2) := by decide +kernel
theorem d_L_law_601 : decode code 601 = .ok (.dcmp .l, 1) := by decide +kernel
theorem d_L_law_602 : decode code 602 = .ok (.ifCond .eq 11, 3) := by decide +kernel
theorem d_L_law_605 : decode code 605 = .ok (.dload 6, 2) := by decide +kernel
theorem d_L_law_607 : decode code 607 = .ok (.dload 6, 2) := by decide +kernel
theorem d_L_law_609 : decode code 609 = .ok (.dcmp .l, 1) := by decide +kernel
theorem d_L_law_610 : decode code 610 = .ok (.ifCond .ne 5, 3) := by decide +kernel
theorem d_L_law_613 : decode code 613 = .ok (.iconst 0, 1) := by decide +kernel
theorem d_L_law_614 : decode code 614 = .ok (.ireturn, 1) := by decide +kernel
theorem d_L_law_615 : decode code 615 = .ok (.goto 138, 3) := by decide +kernel
theorem d_L_law_618 : decode code 618 = .ok (.aload_n 1, 1) := by decide +kernel
theorem d_L_law_619 : decode code 619 = .ok (.invokevirtual 68, 3) := by decide +kernel
theorem d_L_law_622 : decode code 622 = .ok (.aload_n 2, 1) := by decide +kernel
theorem d_L_law_623 : decode code 623 = .ok (.invokevirtual 71, 3) := by decide +kernel
theorem d_L_law_626 : decode code 626 = .ok (.if_icmp .eq 127, 3) := by decide +kernel
theorem d_L_law_629 : decode code 629 = .ok (.iconst 0, 1) := by decide +kernel
theorem d_L_law_630 : decode code 630 = .ok (.ireturn, 1) := by decide +kernel
theorem d_L_law_631 : decode code 631 = .ok (.aload_n 1, 1) := by decide +kernel
theorem d_L_law_632 : decode code 632 = .ok (.aload_n 0, 1) := by decide +kernel
theorem d_L_law_633 : decode code 633 = .ok (.iload_n 3, 1) := by decide +kernel
theorem d_L_law_634 : decode code 634 = .ok (.iconst 1, 1) := by decide +kernel
theorem d_L_law_635 : decode code 635 = .ok (.iadd, 1) := by decide +kernel
theorem d_L_law_636 : decode code 636 = .ok (.iaload, 1) := by decide +kernel
theorem d_L_law_637 : decode code 637 = .ok (.invokevirtual 72, 3) := by decide +kernel
theorem d_L_law_640 : decode code 640 = .ok (.aload_n 2, 1) := by decide +kernel
theorem d_L_law_641 : decode code 641 = .ok (.aload_n 0, 1) := by decide +kernel
theorem d_L_law_642 : decode code 642 = .ok (.iload_n 3, 1) := by decide +kernel
theorem d_L_law_643 : decode code 643 = .ok (.iconst 1, 1) := by decide +kernel
theorem d_L_law_644 : decode code 644 = .ok (.iadd, 1) := by decide +kernel
theorem d_L_law_645 : decode code 645 = .ok (.iaload, 1) := by decide +kernel
theorem d_L_law_646 : decode code 646 = .ok (.invokevirtual 75, 3) := by decide +kernel
theorem d_L_law_649 : decode code 649 = .ok (.if_icmp .eq 104, 3) := by decide +kernel
theorem d_L_law_652 : decode code 652 = .ok (.iconst 0, 1) := by decide +kernel
theorem d_L_law_653 : decode code 653 = .ok (.ireturn, 1) := by decide +kernel
theorem d_L_law_654 : decode code 654 = .ok (.aload_n 1, 1) := by decide +kernel
theorem d_L_law_655 : decode code 655 = .ok (.aload_n 0, 1) := by decide +kernel
theorem d_L_law_656 : decode code 656 = .ok (.iload_n 3, 1) := by decide +kernel
theorem d_L_law_657 : decode code 657 = .ok (.iconst 1, 1) := by decide +kernel
theorem d_L_law_658 : decode code 658 = .ok (.iadd, 1) := by decide +kernel
theorem d_L_law_659 : decode code 659 = .ok (.iaload, 1) := by decide +kernel
theorem d_L_law_660 : decode code 660 = .ok (.invokevirtual 76, 3) := by decide +kernel
theorem d_L_law_663 : decode code 663 = .ok (.aload_n 2, 1) := by decide +kernel
theorem d_L_law_664 : decode code 664 = .ok (.aload_n 0, 1) := by decide +kernel
theorem d_L_law_665 : decode code 665 = .ok (.iload_n 3, 1) := by decide +kernel
theorem d_L_law_666 : decode code 666 = .ok (.iconst 1, 1) := by decide +kernel
theorem d_L_law_667 : decode code 667 = .ok (.iadd, 1) := by decide +kernel
theorem d_L_law_668 : decode code 668 = .ok (.iaload, 1) := by decide +kernel
theorem d_L_law_669 : decode code 669 = .ok (.invokevirtual 79, 3) := by decide +kernel
theorem d_L_law_672 : decode code 672 = .ok (.if_icmp .eq 81, 3) := by decide +kernel
theorem d_L_law_675 : decode code 675 = .ok (.iconst 0, 1) := by decide +kernel
theorem d_L_law_676 : decode code 676 = .ok (.ireturn, 1) := by decide +kernel
theorem d_L_law_677 : decode code 677 = .ok (.aload_n 1, 1) := by decide +kernel
theorem d_L_law_678 : decode code 678 = .ok (.aload_n 0, 1) := by decide +kernel
theorem d_L_law_679 : decode code 679 = .ok (.iload_n 3, 1) := by decide +kernel
theorem d_L_law_680 : decode code 680 = .ok (.iconst 1, 1) := by decide +kernel
theorem d_L_law_681 : decode code 681 = .ok (.iadd, 1) := by decide +kernel
theorem d_L_law_682 : decode code 682 = .ok (.iaload, 1) := by decide +kernel
theorem d_L_law_683 : decode code 683 = .ok (.aload_n 0, 1) := by decide +kernel
theorem d_L_law_684 : decode code 684 = .ok (.iload_n 3, 1) := by decide +kernel
theorem d_L_law_685 : decode code 685 = .ok (.iconst 2, 1) := by decide +kernel
theorem d_L_law_686 : decode code 686 = .ok (.iadd, 1) := by decide +kernel
theorem d_L_law_687 : decode code 687 = .ok (.iaload, 1) := by decide +kernel
theorem d_L_law_688 : decode code 688 = .ok (.aload_n 0, 1) := by decide +kernel
theorem d_L_law_689 : decode code 689 = .ok (.iload_n 3, 1) := by decide +kernel
theorem d_L_law_690 : decode code 690 = .ok (.iconst 3, 1) := by decide +kernel
theorem d_L_law_691 : decode code 691 = .ok (.iadd, 1) := by decide +kernel
theorem d_L_law_692 : decode code 692 = .ok (.iaload, 1) := by decide +kernel
theorem d_L_law_693 : decode code 693 = .ok (.invokevirtual 80, 3) := by decide +kernel
theorem d_L_law_696 : decode code 696 = .ok (.aload_n 2, 1) := by decide +kernel
theorem d_L_law_697 : decode code 697 = .ok (.aload_n 0, 1) := by decide +kernel
theorem d_L_law_698 : decode code 698 = .ok (.iload_n 3, 1) := by decide +kernel
theorem d_L_law_699 : decode code 699 = .ok (.iconst 1, 1) := by decide +kernel
theorem d_L_law_700 : decode code 700 = .ok (.iadd, 1) := by decide +kernel
theorem d_L_law_701 : decode code 701 = .ok (.iaload, 1) := by decide +kernel
theorem d_L_law_702 : decode code 702 = .ok (.aload_n 0, 1) := by decide +kernel
theorem d_L_law_703 : decode code 703 = .ok (.iload_n 3, 1) := by decide +kernel
theorem d_L_law_704 : decode code 704 = .ok (.iconst 2, 1) := by decide +kernel
theorem d_L_law_705 : decode code 705 = .ok (.iadd, 1) := by decide +kernel
theorem d_L_law_706 : decode code 706 = .ok (.iaload, 1) := by decide +kernel
theorem d_L_law_707 : decode code 707 = .ok (.aload_n 0, 1) := by decide +kernel
theorem d_L_law_708 : decode code 708 = .ok (.iload_n 3, 1) := by decide +kernel
theorem d_L_law_709 : decode code 709 = .ok (.iconst 3, 1) := by decide +kernel
theorem d_L_law_710 : decode code 710 = .ok (.iadd, 1) := by decide +kernel
theorem d_L_law_711 : decode code 711 = .ok (.iaload, 1) := by decide +kernel
theorem d_L_law_712 : decode code 712 = .ok (.invokevirtual 84, 3) := by decide +kernel
theorem d_L_law_715 : decode code 715 = .ok (.if_icmp .eq 38, 3) := by decide +kernel
theorem d_L_law_718 : decode code 718 = .ok (.iconst 0, 1) := by decide +kernel
theorem d_L_law_719 : decode code 719 = .ok (.ireturn, 1) := by decide +kernel
theorem d_L_law_720 : decode code 720 = .ok (.aload_n 1, 1) := by decide +kernel
theorem d_L_law_721 : decode code 721 = .ok (.aload_n 0, 1) := by decide +kernel
theorem d_L_law_722 : decode code 722 = .ok (.iload_n 3, 1) := by decide +kernel
theorem d_L_law_723 : decode code 723 = .ok (.iconst 1, 1) := by decide +kernel
theorem d_L_law_724 : decode code 724 = .ok (.iadd, 1) := by decide +kernel
theorem d_L_law_725 : decode code 725 = .ok (.iaload, 1) := by decide +kernel
theorem d_L_law_726 : decode code 726 = .ok (.aload_n 0, 1) := by decide +kernel
theorem d_L_law_727 : decode code 727 = .ok (.iload_n 3, 1) := by decide +kernel
theorem d_L_law_728 : decode code 728 = .ok (.iconst 2, 1) := by decide +kernel
theorem d_L_law_729 : decode code 729 = .ok (.iadd, 1) := by decide +kernel
theorem d_L_law_730 : decode code 730 = .ok (.iaload, 1) := by decide +kernel
theorem d_L_law_731 : decode code 731 = .ok (.invokevirtual 85, 3) := by decide +kernel
theorem d_L_law_734 : decode code 734 = .ok (.aload_n 2, 1) := by decide +kernel
theorem d_L_law_735 : decode code 735 = .ok (.aload_n 0, 1) := by decide +kernel
theorem d_L_law_736 : decode code 736 = .ok (.iload_n 3, 1) := by decide +kernel
theorem d_L_law_737 : decode code 737 = .ok (.iconst 1, 1) := by decide +kernel
theorem d_L_law_738 : decode code 738 = .ok (.iadd, 1) := by decide +kernel
theorem d_L_law_739 : decode code 739 = .ok (.iaload, 1) := by decide +kernel
theorem d_L_law_740 : decode code 740 = .ok (.aload_n 0, 1) := by decide +kernel
theorem d_L_law_741 : decode code 741 = .ok (.iload_n 3, 1) := by decide +kernel
theorem d_L_law_742 : decode code 742 = .ok (.iconst 2, 1) := by decide +kernel
theorem d_L_law_743 : decode code 743 = .ok (.iadd, 1) := by decide +kernel
theorem d_L_law_744 : decode code 744 = .ok (.iaload, 1) := by decide +kernel
theorem d_L_law_745 : decode code 745 = .ok (.invokevirtual 88, 3) := by decide +kernel
theorem d_L_law_748 : decode code 748 = .ok (.if_icmp .eq 5, 3) := by decide +kernel
theorem d_L_law_751 : decode code 751 = .ok (.iconst 0, 1) := by decide +kernel
theorem d_L_law_752 : decode code 752 = .ok (.ireturn, 1) := by decide +kernel
theorem d_L_law_753 : decode code 753 = .ok (.iinc 3 6, 3) := by decide +kernel
theorem d_L_law_756 : decode code 756 = .ok (.goto (-738), 3) := by decide +kernel
theorem d_L_law_759 : decode code 759 = .ok (.iconst 1, 1) := by decide +kernel
theorem d_L_law_760 : decode code 760 = .ok (.ireturn, 1) := by decide +kernel

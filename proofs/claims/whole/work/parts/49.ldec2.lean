theorem dL_law_362 : decode code 362 = .ok (.iconst 1, 1) := by decide +kernel
theorem dL_law_363 : decode code 363 = .ok (.iadd, 1) := by decide +kernel
theorem dL_law_364 : decode code 364 = .ok (.iaload, 1) := by decide +kernel
theorem dL_law_365 : decode code 365 = .ok (.invokevirtual 54, 3) := by decide +kernel
theorem dL_law_368 : decode code 368 = .ok (.aload_n 2, 1) := by decide +kernel
theorem dL_law_369 : decode code 369 = .ok (.aload_n 0, 1) := by decide +kernel
theorem dL_law_370 : decode code 370 = .ok (.iload_n 3, 1) := by decide +kernel
theorem dL_law_371 : decode code 371 = .ok (.iconst 1, 1) := by decide +kernel
theorem dL_law_372 : decode code 372 = .ok (.iadd, 1) := by decide +kernel
theorem dL_law_373 : decode code 373 = .ok (.iaload, 1) := by decide +kernel
theorem dL_law_374 : decode code 374 = .ok (.invokevirtual 57, 3) := by decide +kernel
theorem dL_law_377 : decode code 377 = .ok (.if_icmp .eq 130, 3) := by decide +kernel
theorem dL_law_380 : decode code 380 = .ok (.iconst 0, 1) := by decide +kernel
theorem dL_law_381 : decode code 381 = .ok (.ireturn, 1) := by decide +kernel
theorem dL_law_382 : decode code 382 = .ok (.aload_n 1, 1) := by decide +kernel
theorem dL_law_383 : decode code 383 = .ok (.aload_n 0, 1) := by decide +kernel
theorem dL_law_384 : decode code 384 = .ok (.iload_n 3, 1) := by decide +kernel
theorem dL_law_385 : decode code 385 = .ok (.iconst 1, 1) := by decide +kernel
theorem dL_law_386 : decode code 386 = .ok (.iadd, 1) := by decide +kernel
theorem dL_law_387 : decode code 387 = .ok (.iaload, 1) := by decide +kernel
theorem dL_law_388 : decode code 388 = .ok (.invokevirtual 58, 3) := by decide +kernel
theorem dL_law_391 : decode code 391 = .ok (.aload_n 2, 1) := by decide +kernel
theorem dL_law_392 : decode code 392 = .ok (.aload_n 0, 1) := by decide +kernel
theorem dL_law_393 : decode code 393 = .ok (.iload_n 3, 1) := by decide +kernel
theorem dL_law_394 : decode code 394 = .ok (.iconst 1, 1) := by decide +kernel
theorem dL_law_395 : decode code 395 = .ok (.iadd, 1) := by decide +kernel
theorem dL_law_396 : decode code 396 = .ok (.iaload, 1) := by decide +kernel
theorem dL_law_397 : decode code 397 = .ok (.invokevirtual 61, 3) := by decide +kernel
theorem dL_law_400 : decode code 400 = .ok (.if_icmp .eq 107, 3) := by decide +kernel
theorem dL_law_403 : decode code 403 = .ok (.iconst 0, 1) := by decide +kernel
theorem dL_law_404 : decode code 404 = .ok (.ireturn, 1) := by decide +kernel
theorem dL_law_405 : decode code 405 = .ok (.aload_n 1, 1) := by decide +kernel
theorem dL_law_406 : decode code 406 = .ok (.aload_n 0, 1) := by decide +kernel
theorem dL_law_407 : decode code 407 = .ok (.iload_n 3, 1) := by decide +kernel
theorem dL_law_408 : decode code 408 = .ok (.iconst 1, 1) := by decide +kernel
theorem dL_law_409 : decode code 409 = .ok (.iadd, 1) := by decide +kernel
theorem dL_law_410 : decode code 410 = .ok (.iaload, 1) := by decide +kernel
theorem dL_law_411 : decode code 411 = .ok (.invokevirtual 62, 3) := by decide +kernel
theorem dL_law_414 : decode code 414 = .ok (.aload_n 2, 1) := by decide +kernel
theorem dL_law_415 : decode code 415 = .ok (.aload_n 0, 1) := by decide +kernel
theorem dL_law_416 : decode code 416 = .ok (.iload_n 3, 1) := by decide +kernel
theorem dL_law_417 : decode code 417 = .ok (.iconst 1, 1) := by decide +kernel
theorem dL_law_418 : decode code 418 = .ok (.iadd, 1) := by decide +kernel
theorem dL_law_419 : decode code 419 = .ok (.iaload, 1) := by decide +kernel
theorem dL_law_420 : decode code 420 = .ok (.invokevirtual 65, 3) := by decide +kernel
theorem dL_law_423 : decode code 423 = .ok (.if_icmp .eq 84, 3) := by decide +kernel
theorem dL_law_426 : decode code 426 = .ok (.iconst 0, 1) := by decide +kernel
theorem dL_law_427 : decode code 427 = .ok (.ireturn, 1) := by decide +kernel
theorem dL_law_428 : decode code 428 = .ok (.aload_n 1, 1) := by decide +kernel
theorem dL_law_429 : decode code 429 = .ok (.aload_n 0, 1) := by decide +kernel
theorem dL_law_430 : decode code 430 = .ok (.iload_n 3, 1) := by decide +kernel
theorem dL_law_431 : decode code 431 = .ok (.iconst 1, 1) := by decide +kernel
theorem dL_law_432 : decode code 432 = .ok (.iadd, 1) := by decide +kernel
theorem dL_law_433 : decode code 433 = .ok (.iaload, 1) := by decide +kernel
theorem dL_law_434 : decode code 434 = .ok (.invokevirtual 66, 3) := by decide +kernel
theorem dL_law_437 : decode code 437 = .ok (.aload_n 2, 1) := by decide +kernel
theorem dL_law_438 : decode code 438 = .ok (.aload_n 0, 1) := by decide +kernel
theorem dL_law_439 : decode code 439 = .ok (.iload_n 3, 1) := by decide +kernel
theorem dL_law_440 : decode code 440 = .ok (.iconst 1, 1) := by decide +kernel
theorem dL_law_441 : decode code 441 = .ok (.iadd, 1) := by decide +kernel
theorem dL_law_442 : decode code 442 = .ok (.iaload, 1) := by decide +kernel
theorem dL_law_443 : decode code 443 = .ok (.invokevirtual 69, 3) := by decide +kernel
theorem dL_law_446 : decode code 446 = .ok (.if_icmp .eq 61, 3) := by decide +kernel
theorem dL_law_449 : decode code 449 = .ok (.iconst 0, 1) := by decide +kernel
theorem dL_law_450 : decode code 450 = .ok (.ireturn, 1) := by decide +kernel
theorem dL_law_451 : decode code 451 = .ok (.aload_n 1, 1) := by decide +kernel
theorem dL_law_452 : decode code 452 = .ok (.aload_n 0, 1) := by decide +kernel
theorem dL_law_453 : decode code 453 = .ok (.iload_n 3, 1) := by decide +kernel
theorem dL_law_454 : decode code 454 = .ok (.iconst 1, 1) := by decide +kernel
theorem dL_law_455 : decode code 455 = .ok (.iadd, 1) := by decide +kernel
theorem dL_law_456 : decode code 456 = .ok (.iaload, 1) := by decide +kernel
theorem dL_law_457 : decode code 457 = .ok (.aload_n 0, 1) := by decide +kernel
theorem dL_law_458 : decode code 458 = .ok (.iload_n 3, 1) := by decide +kernel
theorem dL_law_459 : decode code 459 = .ok (.iconst 2, 1) := by decide +kernel
theorem dL_law_460 : decode code 460 = .ok (.iadd, 1) := by decide +kernel
theorem dL_law_461 : decode code 461 = .ok (.iaload, 1) := by decide +kernel
theorem dL_law_462 : decode code 462 = .ok (.invokevirtual 70, 3) := by decide +kernel
theorem dL_law_465 : decode code 465 = .ok (.aload_n 2, 1) := by decide +kernel
theorem dL_law_466 : decode code 466 = .ok (.aload_n 0, 1) := by decide +kernel
theorem dL_law_467 : decode code 467 = .ok (.iload_n 3, 1) := by decide +kernel
theorem dL_law_468 : decode code 468 = .ok (.iconst 1, 1) := by decide +kernel
theorem dL_law_469 : decode code 469 = .ok (.iadd, 1) := by decide +kernel
theorem dL_law_470 : decode code 470 = .ok (.iaload, 1) := by decide +kernel
theorem dL_law_471 : decode code 471 = .ok (.aload_n 0, 1) := by decide +kernel
theorem dL_law_472 : decode code 472 = .ok (.iload_n 3, 1) := by decide +kernel
theorem dL_law_473 : decode code 473 = .ok (.iconst 2, 1) := by decide +kernel
theorem dL_law_474 : decode code 474 = .ok (.iadd, 1) := by decide +kernel
theorem dL_law_475 : decode code 475 = .ok (.iaload, 1) := by decide +kernel
theorem dL_law_476 : decode code 476 = .ok (.invokevirtual 73, 3) := by decide +kernel
theorem dL_law_479 : decode code 479 = .ok (.if_icmp .eq 28, 3) := by decide +kernel
theorem dL_law_482 : decode code 482 = .ok (.iconst 0, 1) := by decide +kernel
theorem dL_law_483 : decode code 483 = .ok (.ireturn, 1) := by decide +kernel
theorem dL_law_484 : decode code 484 = .ok (.aload_n 1, 1) := by decide +kernel
theorem dL_law_485 : decode code 485 = .ok (.aload_n 0, 1) := by decide +kernel
theorem dL_law_486 : decode code 486 = .ok (.iload_n 3, 1) := by decide +kernel
theorem dL_law_487 : decode code 487 = .ok (.iconst 1, 1) := by decide +kernel
theorem dL_law_488 : decode code 488 = .ok (.iadd, 1) := by decide +kernel
theorem dL_law_489 : decode code 489 = .ok (.iaload, 1) := by decide +kernel
theorem dL_law_490 : decode code 490 = .ok (.invokevirtual 74, 3) := by decide +kernel
theorem dL_law_493 : decode code 493 = .ok (.aload_n 2, 1) := by decide +kernel
theorem dL_law_494 : decode code 494 = .ok (.aload_n 0, 1) := by decide +kernel
theorem dL_law_495 : decode code 495 = .ok (.iload_n 3, 1) := by decide +kernel
theorem dL_law_496 : decode code 496 = .ok (.iconst 1, 1) := by decide +kernel
theorem dL_law_497 : decode code 497 = .ok (.iadd, 1) := by decide +kernel
theorem dL_law_498 : decode code 498 = .ok (.iaload, 1) := by decide +kernel
theorem dL_law_499 : decode code 499 = .ok (.invokevirtual 77, 3) := by decide +kernel
theorem dL_law_502 : decode code 502 = .ok (.if_icmp .eq 5, 3) := by decide +kernel
theorem dL_law_505 : decode code 505 = .ok (.iconst 0, 1) := by decide +kernel
theorem dL_law_506 : decode code 506 = .ok (.ireturn, 1) := by decide +kernel
theorem dL_law_507 : decode code 507 = .ok (.iinc 3 4, 3) := by decide +kernel
theorem dL_law_510 : decode code 510 = .ok (.goto (-482), 3) := by decide +kernel
theorem dL_law_513 : decode code 513 = .ok (.iconst 1, 1) := by decide +kernel
theorem dL_law_514 : decode code 514 = .ok (.ireturn, 1) := by decide +kernel

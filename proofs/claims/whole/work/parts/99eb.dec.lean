theorem dl_376 : decode code 376 = .ok (.invokevirtual 40, 3) := by decide +kernel
theorem dl_379 : decode code 379 = .ok (.if_icmp .eq 713, 3) := by decide +kernel
theorem dl_382 : decode code 382 = .ok (.iconst 0, 1) := by decide +kernel
theorem dl_383 : decode code 383 = .ok (.ireturn, 1) := by decide +kernel
theorem dl_384 : decode code 384 = .ok (.aload_n 1, 1) := by decide +kernel
theorem dl_385 : decode code 385 = .ok (.invokevirtual 41, 3) := by decide +kernel
theorem dl_388 : decode code 388 = .ok (.aload_n 2, 1) := by decide +kernel
theorem dl_389 : decode code 389 = .ok (.invokevirtual 44, 3) := by decide +kernel
theorem dl_392 : decode code 392 = .ok (.if_icmp .eq 700, 3) := by decide +kernel
theorem dl_395 : decode code 395 = .ok (.iconst 0, 1) := by decide +kernel
theorem dl_396 : decode code 396 = .ok (.ireturn, 1) := by decide +kernel
theorem dl_397 : decode code 397 = .ok (.aload_n 1, 1) := by decide +kernel
theorem dl_398 : decode code 398 = .ok (.aload_n 0, 1) := by decide +kernel
theorem dl_399 : decode code 399 = .ok (.iload_n 3, 1) := by decide +kernel
theorem dl_400 : decode code 400 = .ok (.iconst 1, 1) := by decide +kernel
theorem dl_401 : decode code 401 = .ok (.iadd, 1) := by decide +kernel
theorem dl_402 : decode code 402 = .ok (.iaload, 1) := by decide +kernel
theorem dl_403 : decode code 403 = .ok (.invokevirtual 45, 3) := by decide +kernel
theorem dl_406 : decode code 406 = .ok (.aload_n 2, 1) := by decide +kernel
theorem dl_407 : decode code 407 = .ok (.aload_n 0, 1) := by decide +kernel
theorem dl_408 : decode code 408 = .ok (.iload_n 3, 1) := by decide +kernel
theorem dl_409 : decode code 409 = .ok (.iconst 1, 1) := by decide +kernel
theorem dl_410 : decode code 410 = .ok (.iadd, 1) := by decide +kernel
theorem dl_411 : decode code 411 = .ok (.iaload, 1) := by decide +kernel
theorem dl_412 : decode code 412 = .ok (.invokevirtual 48, 3) := by decide +kernel
theorem dl_415 : decode code 415 = .ok (.if_icmp .eq 677, 3) := by decide +kernel
theorem dl_418 : decode code 418 = .ok (.iconst 0, 1) := by decide +kernel
theorem dl_419 : decode code 419 = .ok (.ireturn, 1) := by decide +kernel
theorem dl_420 : decode code 420 = .ok (.aload_n 1, 1) := by decide +kernel
theorem dl_421 : decode code 421 = .ok (.aload_n 0, 1) := by decide +kernel
theorem dl_422 : decode code 422 = .ok (.iload_n 3, 1) := by decide +kernel
theorem dl_423 : decode code 423 = .ok (.iconst 1, 1) := by decide +kernel
theorem dl_424 : decode code 424 = .ok (.iadd, 1) := by decide +kernel
theorem dl_425 : decode code 425 = .ok (.iaload, 1) := by decide +kernel
theorem dl_426 : decode code 426 = .ok (.aload_n 0, 1) := by decide +kernel
theorem dl_427 : decode code 427 = .ok (.iload_n 3, 1) := by decide +kernel
theorem dl_428 : decode code 428 = .ok (.iconst 2, 1) := by decide +kernel
theorem dl_429 : decode code 429 = .ok (.iadd, 1) := by decide +kernel
theorem dl_430 : decode code 430 = .ok (.iaload, 1) := by decide +kernel
theorem dl_431 : decode code 431 = .ok (.invokevirtual 49, 3) := by decide +kernel
theorem dl_434 : decode code 434 = .ok (.aload_n 2, 1) := by decide +kernel
theorem dl_435 : decode code 435 = .ok (.aload_n 0, 1) := by decide +kernel
theorem dl_436 : decode code 436 = .ok (.iload_n 3, 1) := by decide +kernel
theorem dl_437 : decode code 437 = .ok (.iconst 1, 1) := by decide +kernel
theorem dl_438 : decode code 438 = .ok (.iadd, 1) := by decide +kernel
theorem dl_439 : decode code 439 = .ok (.iaload, 1) := by decide +kernel
theorem dl_440 : decode code 440 = .ok (.aload_n 0, 1) := by decide +kernel
theorem dl_441 : decode code 441 = .ok (.iload_n 3, 1) := by decide +kernel
theorem dl_442 : decode code 442 = .ok (.iconst 2, 1) := by decide +kernel
theorem dl_443 : decode code 443 = .ok (.iadd, 1) := by decide +kernel
theorem dl_444 : decode code 444 = .ok (.iaload, 1) := by decide +kernel
theorem dl_445 : decode code 445 = .ok (.invokevirtual 53, 3) := by decide +kernel
theorem dl_448 : decode code 448 = .ok (.if_icmp .eq 644, 3) := by decide +kernel
theorem dl_451 : decode code 451 = .ok (.iconst 0, 1) := by decide +kernel
theorem dl_452 : decode code 452 = .ok (.ireturn, 1) := by decide +kernel
theorem dl_453 : decode code 453 = .ok (.aload_n 1, 1) := by decide +kernel
theorem dl_454 : decode code 454 = .ok (.aload_n 0, 1) := by decide +kernel
theorem dl_455 : decode code 455 = .ok (.iload_n 3, 1) := by decide +kernel
theorem dl_456 : decode code 456 = .ok (.iconst 1, 1) := by decide +kernel
theorem dl_457 : decode code 457 = .ok (.iadd, 1) := by decide +kernel
theorem dl_458 : decode code 458 = .ok (.iaload, 1) := by decide +kernel
theorem dl_459 : decode code 459 = .ok (.invokevirtual 54, 3) := by decide +kernel
theorem dl_462 : decode code 462 = .ok (.aload_n 2, 1) := by decide +kernel
theorem dl_463 : decode code 463 = .ok (.aload_n 0, 1) := by decide +kernel
theorem dl_464 : decode code 464 = .ok (.iload_n 3, 1) := by decide +kernel
theorem dl_465 : decode code 465 = .ok (.iconst 1, 1) := by decide +kernel
theorem dl_466 : decode code 466 = .ok (.iadd, 1) := by decide +kernel
theorem dl_467 : decode code 467 = .ok (.iaload, 1) := by decide +kernel
theorem dl_468 : decode code 468 = .ok (.invokevirtual 57, 3) := by decide +kernel
theorem dl_471 : decode code 471 = .ok (.if_icmp .eq 621, 3) := by decide +kernel
theorem dl_474 : decode code 474 = .ok (.iconst 0, 1) := by decide +kernel
theorem dl_475 : decode code 475 = .ok (.ireturn, 1) := by decide +kernel
theorem dl_476 : decode code 476 = .ok (.aload_n 1, 1) := by decide +kernel
theorem dl_477 : decode code 477 = .ok (.aload_n 0, 1) := by decide +kernel
theorem dl_478 : decode code 478 = .ok (.iload_n 3, 1) := by decide +kernel
theorem dl_479 : decode code 479 = .ok (.iconst 1, 1) := by decide +kernel
theorem dl_480 : decode code 480 = .ok (.iadd, 1) := by decide +kernel
theorem dl_481 : decode code 481 = .ok (.iaload, 1) := by decide +kernel
theorem dl_482 : decode code 482 = .ok (.aload_n 0, 1) := by decide +kernel
theorem dl_483 : decode code 483 = .ok (.iload_n 3, 1) := by decide +kernel
theorem dl_484 : decode code 484 = .ok (.iconst 2, 1) := by decide +kernel
theorem dl_485 : decode code 485 = .ok (.iadd, 1) := by decide +kernel
theorem dl_486 : decode code 486 = .ok (.iaload, 1) := by decide +kernel
theorem dl_487 : decode code 487 = .ok (.invokevirtual 58, 3) := by decide +kernel
theorem dl_490 : decode code 490 = .ok (.aload_n 2, 1) := by decide +kernel
theorem dl_491 : decode code 491 = .ok (.aload_n 0, 1) := by decide +kernel
theorem dl_492 : decode code 492 = .ok (.iload_n 3, 1) := by decide +kernel
theorem dl_493 : decode code 493 = .ok (.iconst 1, 1) := by decide +kernel
theorem dl_494 : decode code 494 = .ok (.iadd, 1) := by decide +kernel
theorem dl_495 : decode code 495 = .ok (.iaload, 1) := by decide +kernel
theorem dl_496 : decode code 496 = .ok (.aload_n 0, 1) := by decide +kernel
theorem dl_497 : decode code 497 = .ok (.iload_n 3, 1) := by decide +kernel
theorem dl_498 : decode code 498 = .ok (.iconst 2, 1) := by decide +kernel
theorem dl_499 : decode code 499 = .ok (.iadd, 1) := by decide +kernel
theorem dl_500 : decode code 500 = .ok (.iaload, 1) := by decide +kernel
theorem dl_501 : decode code 501 = .ok (.invokevirtual 61, 3) := by decide +kernel
theorem dl_504 : decode code 504 = .ok (.if_icmp .eq 588, 3) := by decide +kernel
theorem dl_507 : decode code 507 = .ok (.iconst 0, 1) := by decide +kernel
theorem dl_508 : decode code 508 = .ok (.ireturn, 1) := by decide +kernel
theorem dl_509 : decode code 509 = .ok (.aload_n 1, 1) := by decide +kernel
theorem dl_510 : decode code 510 = .ok (.invokevirtual 62, 3) := by decide +kernel
theorem dl_513 : decode code 513 = .ok (.aload_n 2, 1) := by decide +kernel
theorem dl_514 : decode code 514 = .ok (.invokevirtual 65, 3) := by decide +kernel
theorem dl_517 : decode code 517 = .ok (.if_icmp .eq 575, 3) := by decide +kernel
theorem dl_520 : decode code 520 = .ok (.iconst 0, 1) := by decide +kernel
theorem dl_521 : decode code 521 = .ok (.ireturn, 1) := by decide +kernel
theorem dl_522 : decode code 522 = .ok (.aload_n 1, 1) := by decide +kernel
theorem dl_523 : decode code 523 = .ok (.aload_n 0, 1) := by decide +kernel
theorem dl_524 : decode code 524 = .ok (.iload_n 3, 1) := by decide +kernel
theorem dl_525 : decode code 525 = .ok (.iconst 1, 1) := by decide +kernel
theorem dl_526 : decode code 526 = .ok (.iadd, 1) := by decide +kernel
theorem dl_527 : decode code 527 = .ok (.iaload, 1) := by decide +kernel
theorem dl_528 : decode code 528 = .ok (.aload_n 0, 1) := by decide +kernel
theorem dl_529 : decode code 529 = .ok (.iload_n 3, 1) := by decide +kernel
theorem dl_530 : decode code 530 = .ok (.iconst 2, 1) := by decide +kernel
theorem dl_531 : decode code 531 = .ok (.iadd, 1) := by decide +kernel
theorem dl_532 : decode code 532 = .ok (.iaload, 1) := by decide +kernel
theorem dl_533 : decode code 533 = .ok (.invokevirtual 66, 3) := by decide +kernel
theorem dl_536 : decode code 536 = .ok (.aload_n 2, 1) := by decide +kernel
theorem dl_537 : decode code 537 = .ok (.aload_n 0, 1) := by decide +kernel
theorem dl_538 : decode code 538 = .ok (.iload_n 3, 1) := by decide +kernel
theorem dl_539 : decode code 539 = .ok (.iconst 1, 1) := by decide +kernel
theorem dl_540 : decode code 540 = .ok (.iadd, 1) := by decide +kernel
theorem dl_541 : decode code 541 = .ok (.iaload, 1) := by decide +kernel
theorem dl_542 : decode code 542 = .ok (.aload_n 0, 1) := by decide +kernel
theorem dl_543 : decode code 543 = .ok (.iload_n 3, 1) := by decide +kernel
theorem dl_544 : decode code 544 = .ok (.iconst 2, 1) := by decide +kernel
theorem dl_545 : decode code 545 = .ok (.iadd, 1) := by decide +kernel
theorem dl_546 : decode code 546 = .ok (.iaload, 1) := by decide +kernel
theorem dl_547 : decode code 547 = .ok (.invokevirtual 69, 3) := by decide +kernel
theorem dl_550 : decode code 550 = .ok (.if_icmp .eq 542, 3) := by decide +kernel
theorem dl_553 : decode code 553 = .ok (.iconst 0, 1) := by decide +kernel
theorem dl_554 : decode code 554 = .ok (.ireturn, 1) := by decide +kernel
theorem dl_555 : decode code 555 = .ok (.aload_n 1, 1) := by decide +kernel
theorem dl_556 : decode code 556 = .ok (.aload_n 0, 1) := by decide +kernel
theorem dl_557 : decode code 557 = .ok (.iload_n 3, 1) := by decide +kernel
theorem dl_558 : decode code 558 = .ok (.iconst 1, 1) := by decide +kernel
theorem dl_559 : decode code 559 = .ok (.iadd, 1) := by decide +kernel
theorem dl_560 : decode code 560 = .ok (.iaload, 1) := by decide +kernel
theorem dl_561 : decode code 561 = .ok (.invokevirtual 70, 3) := by decide +kernel
theorem dl_564 : decode code 564 = .ok (.aload_n 2, 1) := by decide +kernel
theorem dl_565 : decode code 565 = .ok (.aload_n 0, 1) := by decide +kernel
theorem dl_566 : decode code 566 = .ok (.iload_n 3, 1) := by decide +kernel
theorem dl_567 : decode code 567 = .ok (.iconst 1, 1) := by decide +kernel
theorem dl_568 : decode code 568 = .ok (.iadd, 1) := by decide +kernel
theorem dl_569 : decode code 569 = .ok (.iaload, 1) := by decide +kernel
theorem dl_570 : decode code 570 = .ok (.invokevirtual 73, 3) := by decide +kernel
theorem dl_573 : decode code 573 = .ok (.if_icmp .eq 519, 3) := by decide +kernel
theorem dl_576 : decode code 576 = .ok (.iconst 0, 1) := by decide +kernel
theorem dl_577 : decode code 577 = .ok (.ireturn, 1) := by decide +kernel
theorem dl_578 : decode code 578 = .ok (.aload_n 1, 1) := by decide +kernel
theorem dl_579 : decode code 579 = .ok (.aload_n 0, 1) := by decide +kernel
theorem dl_580 : decode code 580 = .ok (.iload_n 3, 1) := by decide +kernel
theorem dl_581 : decode code 581 = .ok (.iconst 1, 1) := by decide +kernel
theorem dl_582 : decode code 582 = .ok (.iadd, 1) := by decide +kernel
theorem dl_583 : decode code 583 = .ok (.iaload, 1) := by decide +kernel
theorem dl_584 : decode code 584 = .ok (.aload_n 0, 1) := by decide +kernel
theorem dl_585 : decode code 585 = .ok (.iload_n 3, 1) := by decide +kernel
theorem dl_586 : decode code 586 = .ok (.iconst 2, 1) := by decide +kernel
theorem dl_587 : decode code 587 = .ok (.iadd, 1) := by decide +kernel
theorem dl_588 : decode code 588 = .ok (.iaload, 1) := by decide +kernel
theorem dl_589 : decode code 589 = .ok (.invokevirtual 74, 3) := by decide +kernel
theorem dl_592 : decode code 592 = .ok (.aload_n 2, 1) := by decide +kernel
theorem dl_593 : decode code 593 = .ok (.aload_n 0, 1) := by decide +kernel
theorem dl_594 : decode code 594 = .ok (.iload_n 3, 1) := by decide +kernel
theorem dl_595 : decode code 595 = .ok (.iconst 1, 1) := by decide +kernel
theorem dl_596 : decode code 596 = .ok (.iadd, 1) := by decide +kernel
theorem dl_597 : decode code 597 = .ok (.iaload, 1) := by decide +kernel
theorem dl_598 : decode code 598 = .ok (.aload_n 0, 1) := by decide +kernel
theorem dl_599 : decode code 599 = .ok (.iload_n 3, 1) := by decide +kernel
theorem dl_600 : decode code 600 = .ok (.iconst 2, 1) := by decide +kernel
theorem dl_601 : decode code 601 = .ok (.iadd, 1) := by decide +kernel
theorem dl_602 : decode code 602 = .ok (.iaload, 1) := by decide +kernel
theorem dl_603 : decode code 603 = .ok (.invokevirtual 77, 3) := by decide +kernel
theorem dl_606 : decode code 606 = .ok (.if_icmp .eq 486, 3) := by decide +kernel
theorem dl_609 : decode code 609 = .ok (.iconst 0, 1) := by decide +kernel
theorem dl_610 : decode code 610 = .ok (.ireturn, 1) := by decide +kernel
theorem dl_611 : decode code 611 = .ok (.aload_n 1, 1) := by decide +kernel
theorem dl_612 : decode code 612 = .ok (.aload_n 0, 1) := by decide +kernel
theorem dl_613 : decode code 613 = .ok (.iload_n 3, 1) := by decide +kernel
theorem dl_614 : decode code 614 = .ok (.iconst 1, 1) := by decide +kernel
theorem dl_615 : decode code 615 = .ok (.iadd, 1) := by decide +kernel
theorem dl_616 : decode code 616 = .ok (.iaload, 1) := by decide +kernel
theorem dl_617 : decode code 617 = .ok (.aload_n 0, 1) := by decide +kernel
theorem dl_618 : decode code 618 = .ok (.iload_n 3, 1) := by decide +kernel
theorem dl_619 : decode code 619 = .ok (.iconst 2, 1) := by decide +kernel
theorem dl_620 : decode code 620 = .ok (.iadd, 1) := by decide +kernel
theorem dl_621 : decode code 621 = .ok (.iaload, 1) := by decide +kernel
theorem dl_622 : decode code 622 = .ok (.invokevirtual 78, 3) := by decide +kernel
theorem dl_625 : decode code 625 = .ok (.aload_n 2, 1) := by decide +kernel
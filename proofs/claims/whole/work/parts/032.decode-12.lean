/-! the instructions -/
theorem d_W_law_387 : decode code 387 = .ok (.aload_n 2, 1) := by decide +kernel
theorem d_W_law_388 : decode code 388 = .ok (.aload_n 0, 1) := by decide +kernel
theorem d_W_law_389 : decode code 389 = .ok (.iload_n 3, 1) := by decide +kernel
theorem d_W_law_390 : decode code 390 = .ok (.iconst 1, 1) := by decide +kernel
theorem d_W_law_391 : decode code 391 = .ok (.iadd, 1) := by decide +kernel
theorem d_W_law_392 : decode code 392 = .ok (.iaload, 1) := by decide +kernel
theorem d_W_law_393 : decode code 393 = .ok (.aload_n 0, 1) := by decide +kernel
theorem d_W_law_394 : decode code 394 = .ok (.iload_n 3, 1) := by decide +kernel
theorem d_W_law_395 : decode code 395 = .ok (.iconst 2, 1) := by decide +kernel
theorem d_W_law_396 : decode code 396 = .ok (.iadd, 1) := by decide +kernel
theorem d_W_law_397 : decode code 397 = .ok (.iaload, 1) := by decide +kernel
theorem d_W_law_398 : decode code 398 = .ok (.aload_n 0, 1) := by decide +kernel
theorem d_W_law_399 : decode code 399 = .ok (.iload_n 3, 1) := by decide +kernel
theorem d_W_law_400 : decode code 400 = .ok (.iconst 3, 1) := by decide +kernel
theorem d_W_law_401 : decode code 401 = .ok (.iadd, 1) := by decide +kernel
theorem d_W_law_402 : decode code 402 = .ok (.iaload, 1) := by decide +kernel
theorem d_W_law_403 : decode code 403 = .ok (.aload_n 0, 1) := by decide +kernel
theorem d_W_law_404 : decode code 404 = .ok (.iload_n 3, 1) := by decide +kernel
theorem d_W_law_405 : decode code 405 = .ok (.iconst 4, 1) := by decide +kernel
theorem d_W_law_406 : decode code 406 = .ok (.iadd, 1) := by decide +kernel
theorem d_W_law_407 : decode code 407 = .ok (.iaload, 1) := by decide +kernel
theorem d_W_law_408 : decode code 408 = .ok (.aload_n 0, 1) := by decide +kernel
theorem d_W_law_409 : decode code 409 = .ok (.iload_n 3, 1) := by decide +kernel
theorem d_W_law_410 : decode code 410 = .ok (.iconst 5, 1) := by decide +kernel
theorem d_W_law_411 : decode code 411 = .ok (.iadd, 1) := by decide +kernel
theorem d_W_law_412 : decode code 412 = .ok (.iaload, 1) := by decide +kernel
theorem d_W_law_413 : decode code 413 = .ok (.invokevirtual 34, 3) := by decide +kernel
theorem d_W_law_416 : decode code 416 = .ok (.if_icmp .eq 392, 3) := by decide +kernel
theorem d_W_law_419 : decode code 419 = .ok (.iconst 0, 1) := by decide +kernel
theorem d_W_law_420 : decode code 420 = .ok (.ireturn, 1) := by decide +kernel
theorem d_W_law_421 : decode code 421 = .ok (.aload_n 1, 1) := by decide +kernel
theorem d_W_law_422 : decode code 422 = .ok (.aload_n 0, 1) := by decide +kernel
theorem d_W_law_423 : decode code 423 = .ok (.iload_n 3, 1) := by decide +kernel
theorem d_W_law_424 : decode code 424 = .ok (.iconst 1, 1) := by decide +kernel
theorem d_W_law_425 : decode code 425 = .ok (.iadd, 1) := by decide +kernel
theorem d_W_law_426 : decode code 426 = .ok (.iaload, 1) := by decide +kernel
theorem d_W_law_427 : decode code 427 = .ok (.aload_n 0, 1) := by decide +kernel
theorem d_W_law_428 : decode code 428 = .ok (.iload_n 3, 1) := by decide +kernel
theorem d_W_law_429 : decode code 429 = .ok (.iconst 2, 1) := by decide +kernel
theorem d_W_law_430 : decode code 430 = .ok (.iadd, 1) := by decide +kernel
theorem d_W_law_431 : decode code 431 = .ok (.iaload, 1) := by decide +kernel
theorem d_W_law_432 : decode code 432 = .ok (.invokevirtual 35, 3) := by decide +kernel
theorem d_W_law_435 : decode code 435 = .ok (.aload_n 2, 1) := by decide +kernel
theorem d_W_law_436 : decode code 436 = .ok (.aload_n 0, 1) := by decide +kernel
theorem d_W_law_437 : decode code 437 = .ok (.iload_n 3, 1) := by decide +kernel
theorem d_W_law_438 : decode code 438 = .ok (.iconst 1, 1) := by decide +kernel
theorem d_W_law_439 : decode code 439 = .ok (.iadd, 1) := by decide +kernel
theorem d_W_law_440 : decode code 440 = .ok (.iaload, 1) := by decide +kernel
theorem d_W_law_441 : decode code 441 = .ok (.aload_n 0, 1) := by decide +kernel
theorem d_W_law_442 : decode code 442 = .ok (.iload_n 3, 1) := by decide +kernel
theorem d_W_law_443 : decode code 443 = .ok (.iconst 2, 1) := by decide +kernel
theorem d_W_law_444 : decode code 444 = .ok (.iadd, 1) := by decide +kernel
theorem d_W_law_445 : decode code 445 = .ok (.iaload, 1) := by decide +kernel
theorem d_W_law_446 : decode code 446 = .ok (.invokevirtual 39, 3) := by decide +kernel
theorem d_W_law_449 : decode code 449 = .ok (.if_icmp .eq 359, 3) := by decide +kernel
theorem d_W_law_452 : decode code 452 = .ok (.iconst 0, 1) := by decide +kernel
theorem d_W_law_453 : decode code 453 = .ok (.ireturn, 1) := by decide +kernel
theorem d_W_law_454 : decode code 454 = .ok (.aload_n 1, 1) := by decide +kernel
theorem d_W_law_455 : decode code 455 = .ok (.aload_n 0, 1) := by decide +kernel
theorem d_W_law_456 : decode code 456 = .ok (.iload_n 3, 1) := by decide +kernel
theorem d_W_law_457 : decode code 457 = .ok (.iconst 1, 1) := by decide +kernel
theorem d_W_law_458 : decode code 458 = .ok (.iadd, 1) := by decide +kernel
theorem d_W_law_459 : decode code 459 = .ok (.iaload, 1) := by decide +kernel
theorem d_W_law_460 : decode code 460 = .ok (.aload_n 0, 1) := by decide +kernel
theorem d_W_law_461 : decode code 461 = .ok (.iload_n 3, 1) := by decide +kernel
theorem d_W_law_462 : decode code 462 = .ok (.iconst 2, 1) := by decide +kernel
theorem d_W_law_463 : decode code 463 = .ok (.iadd, 1) := by decide +kernel
theorem d_W_law_464 : decode code 464 = .ok (.iaload, 1) := by decide +kernel
theorem d_W_law_465 : decode code 465 = .ok (.aload_n 0, 1) := by decide +kernel
theorem d_W_law_466 : decode code 466 = .ok (.iload_n 3, 1) := by decide +kernel
theorem d_W_law_467 : decode code 467 = .ok (.iconst 3, 1) := by decide +kernel
theorem d_W_law_468 : decode code 468 = .ok (.iadd, 1) := by decide +kernel
theorem d_W_law_469 : decode code 469 = .ok (.iaload, 1) := by decide +kernel
theorem d_W_law_470 : decode code 470 = .ok (.aload_n 0, 1) := by decide +kernel
theorem d_W_law_471 : decode code 471 = .ok (.iload_n 3, 1) := by decide +kernel
theorem d_W_law_472 : decode code 472 = .ok (.iconst 4, 1) := by decide +kernel
theorem d_W_law_473 : decode code 473 = .ok (.iadd, 1) := by decide +kernel
theorem d_W_law_474 : decode code 474 = .ok (.iaload, 1) := by decide +kernel
theorem d_W_law_475 : decode code 475 = .ok (.invokevirtual 40, 3) := by decide +kernel
theorem d_W_law_478 : decode code 478 = .ok (.aload_n 2, 1) := by decide +kernel
theorem d_W_law_479 : decode code 479 = .ok (.aload_n 0, 1) := by decide +kernel
theorem d_W_law_480 : decode code 480 = .ok (.iload_n 3, 1) := by decide +kernel
theorem d_W_law_481 : decode code 481 = .ok (.iconst 1, 1) := by decide +kernel
theorem d_W_law_482 : decode code 482 = .ok (.iadd, 1) := by decide +kernel
theorem d_W_law_483 : decode code 483 = .ok (.iaload, 1) := by decide +kernel
theorem d_W_law_484 : decode code 484 = .ok (.aload_n 0, 1) := by decide +kernel
theorem d_W_law_485 : decode code 485 = .ok (.iload_n 3, 1) := by decide +kernel
theorem d_W_law_486 : decode code 486 = .ok (.iconst 2, 1) := by decide +kernel
theorem d_W_law_487 : decode code 487 = .ok (.iadd, 1) := by decide +kernel
theorem d_W_law_488 : decode code 488 = .ok (.iaload, 1) := by decide +kernel
theorem d_W_law_489 : decode code 489 = .ok (.aload_n 0, 1) := by decide +kernel
theorem d_W_law_490 : decode code 490 = .ok (.iload_n 3, 1) := by decide +kernel
theorem d_W_law_491 : decode code 491 = .ok (.iconst 3, 1) := by decide +kernel
theorem d_W_law_492 : decode code 492 = .ok (.iadd, 1) := by decide +kernel
theorem d_W_law_493 : decode code 493 = .ok (.iaload, 1) := by decide +kernel
theorem d_W_law_494 : decode code 494 = .ok (.aload_n 0, 1) := by decide +kernel
theorem d_W_law_495 : decode code 495 = .ok (.iload_n 3, 1) := by decide +kernel
theorem d_W_law_496 : decode code 496 = .ok (.iconst 4, 1) := by decide +kernel
theorem d_W_law_497 : decode code 497 = .ok (.iadd, 1) := by decide +kernel
theorem d_W_law_498 : decode code 498 = .ok (.iaload, 1) := by decide +kernel
theorem d_W_law_499 : decode code 499 = .ok (.invokevirtual 44, 3) := by decide +kernel
theorem d_W_law_502 : decode code 502 = .ok (.if_icmp .eq 306, 3) := by decide +kernel
theorem d_W_law_505 : decode code 505 = .ok (.iconst 0, 1) := by decide +kernel
theorem d_W_law_506 : decode code 506 = .ok (.ireturn, 1) := by decide +kernel
theorem d_W_law_507 : decode code 507 = .ok (.aload_n 1, 1) := by decide +kernel
theorem d_W_law_508 : decode code 508 = .ok (.aload_n 0, 1) := by decide +kernel
theorem d_W_law_509 : decode code 509 = .ok (.iload_n 3, 1) := by decide +kernel
theorem d_W_law_510 : decode code 510 = .ok (.iconst 1, 1) := by decide +kernel
theorem d_W_law_511 : decode code 511 = .ok (.iadd, 1) := by decide +kernel
theorem d_W_law_512 : decode code 512 = .ok (.iaload, 1) := by decide +kernel
theorem d_W_law_513 : decode code 513 = .ok (.aload_n 0, 1) := by decide +kernel
theorem d_W_law_514 : decode code 514 = .ok (.iload_n 3, 1) := by decide +kernel
theorem d_W_law_515 : decode code 515 = .ok (.iconst 2, 1) := by decide +kernel
theorem d_W_law_516 : decode code 516 = .ok (.iadd, 1) := by decide +kernel
theorem d_W_law_517 : decode code 517 = .ok (.iaload, 1) := by decide +kernel
theorem d_W_law_518 : decode code 518 = .ok (.aload_n 0, 1) := by decide +kernel
theorem d_W_law_519 : decode code 519 = .ok (.iload_n 3, 1) := by decide +kernel
theorem d_W_law_520 : decode code 520 = .ok (.iconst 3, 1) := by decide +kernel
theorem d_W_law_521 : decode code 521 = .ok (.iadd, 1) := by decide +kernel
theorem d_W_law_522 : decode code 522 = .ok (.iaload, 1) := by decide +kernel
theorem d_W_law_523 : decode code 523 = .ok (.invokevirtual 45, 3) := by decide +kernel
theorem d_W_law_526 : decode code 526 = .ok (.aload_n 2, 1) := by decide +kernel
theorem d_W_law_527 : decode code 527 = .ok (.aload_n 0, 1) := by decide +kernel
theorem d_W_law_528 : decode code 528 = .ok (.iload_n 3, 1) := by decide +kernel
theorem d_W_law_529 : decode code 529 = .ok (.iconst 1, 1) := by decide +kernel
theorem d_W_law_530 : decode code 530 = .ok (.iadd, 1) := by decide +kernel
theorem d_W_law_531 : decode code 531 = .ok (.iaload, 1) := by decide +kernel
theorem d_W_law_532 : decode code 532 = .ok (.aload_n 0, 1) := by decide +kernel
theorem d_W_law_533 : decode code 533 = .ok (.iload_n 3, 1) := by decide +kernel
theorem d_W_law_534 : decode code 534 = .ok (.iconst 2, 1) := by decide +kernel
theorem d_W_law_535 : decode code 535 = .ok (.iadd, 1) := by decide +kernel
theorem d_W_law_536 : decode code 536 = .ok (.iaload, 1) := by decide +kernel
theorem d_W_law_537 : decode code 537 = .ok (.aload_n 0, 1) := by decide +kernel
theorem d_W_law_538 : decode code 538 = .ok (.iload_n 3, 1) := by decide +kernel
theorem d_W_law_539 : decode code 539 = .ok (.iconst 3, 1) := by decide +kernel
theorem d_W_law_540 : decode code 540 = .ok (.iadd, 1) := by decide +kernel
theorem d_W_law_541 : decode code 541 = .ok (.iaload, 1) := by decide +kernel
theorem d_W_law_542 : decode code 542 = .ok (.invokevirtual 49, 3) := by decide +kernel
theorem d_W_law_545 : decode code 545 = .ok (.if_icmp .eq 263, 3) := by decide +kernel
theorem d_W_law_548 : decode code 548 = .ok (.iconst 0, 1) := by decide +kernel
theorem d_W_law_549 : decode code 549 = .ok (.ireturn, 1) := by decide +kernel
theorem d_W_law_550 : decode code 550 = .ok (.aload_n 1, 1) := by decide +kernel
theorem d_W_law_551 : decode code 551 = .ok (.aload_n 0, 1) := by decide +kernel
theorem d_W_law_552 : decode code 552 = .ok (.iload_n 3, 1) := by decide +kernel
theorem d_W_law_553 : decode code 553 = .ok (.iconst 1, 1) := by decide +kernel
theorem d_W_law_554 : decode code 554 = .ok (.iadd, 1) := by decide +kernel
theorem d_W_law_555 : decode code 555 = .ok (.iaload, 1) := by decide +kernel
theorem d_W_law_556 : decode code 556 = .ok (.aload_n 0, 1) := by decide +kernel
theorem d_W_law_557 : decode code 557 = .ok (.iload_n 3, 1) := by decide +kernel
theorem d_W_law_558 : decode code 558 = .ok (.iconst 2, 1) := by decide +kernel
theorem d_W_law_559 : decode code 559 = .ok (.iadd, 1) := by decide +kernel
theorem d_W_law_560 : decode code 560 = .ok (.iaload, 1) := by decide +kernel
theorem d_W_law_561 : decode code 561 = .ok (.aload_n 0, 1) := by decide +kernel
theorem d_W_law_562 : decode code 562 = .ok (.iload_n 3, 1) := by decide +kernel
theorem d_W_law_563 : decode code 563 = .ok (.iconst 3, 1) := by decide +kernel
theorem d_W_law_564 : decode code 564 = .ok (.iadd, 1) := by decide +kernel
theorem d_W_law_565 : decode code 565 = .ok (.iaload, 1) := by decide +kernel
theorem d_W_law_566 : decode code 566 = .ok (.invokevirtual 50, 3) := by decide +kernel
theorem d_W_law_569 : decode code 569 = .ok (.aload_n 2, 1) := by decide +kernel
theorem d_W_law_570 : decode code 570 = .ok (.aload_n 0, 1) := by decide +kernel
theorem d_W_law_571 : decode code 571 = .ok (.iload_n 3, 1) := by decide +kernel
theorem d_W_law_572 : decode code 572 = .ok (.iconst 1, 1) := by decide +kernel
theorem d_W_law_573 : decode code 573 = .ok (.iadd, 1) := by decide +kernel
theorem d_W_law_574 : decode code 574 = .ok (.iaload, 1) := by decide +kernel
theorem d_W_law_575 : decode code 575 = .ok (.aload_n 0, 1) := by decide +kernel
theorem d_W_law_576 : decode code 576 = .ok (.iload_n 3, 1) := by decide +kernel
theorem d_W_law_577 : decode code 577 = .ok (.iconst 2, 1) := by decide +kernel
theorem d_W_law_578 : decode code 578 = .ok (.iadd, 1) := by decide +kernel
theorem d_W_law_579 : decode code 579 = .ok (.iaload, 1) := by decide +kernel
theorem d_W_law_580 : decode code 580 = .ok (.aload_n 0, 1) := by decide +kernel
theorem d_W_law_581 : decode code 581 = .ok (.iload_n 3, 1) := by decide +kernel
theorem d_W_law_582 : decode code 582 = .ok (.iconst 3, 1) := by decide +kernel
theorem d_W_law_583 : decode code 583 = .ok (.iadd, 1) := by decide +kernel
theorem d_W_law_584 : decode code 584 = .ok (.iaload, 1) := by decide +kernel
theorem d_W_law_585 : decode code 585 = .ok (.invokevirtual 53, 3) := by decide +kernel
theorem d_W_law_588 : decode code 588 = .ok (.if_icmp .eq 220, 3) := by decide +kernel
theorem d_W_law_591 : decode code 591 = .ok (.iconst 0, 1) := by decide +kernel
theorem d_W_law_592 : decode code 592 = .ok (.ireturn, 1) := by decide +kernel
theorem d_W_law_593 : decode code 593 = .ok (.aload_n 1, 1) := by decide +kernel
theorem d_W_law_594 : decode code 594 = .ok (.aload_n 0, 1) := by decide +kernel
theorem d_W_law_595 : decode code 595 = .ok (.iload_n 3, 1) := by decide +kernel
theorem d_W_law_596 : decode code 596 = .ok (.iconst 1, 1) := by decide +kernel
theorem d_W_law_597 : decode code 597 = .ok (.iadd, 1) := by decide +kernel
theorem d_W_law_598 : decode code 598 = .ok (.iaload, 1) := by decide +kernel
theorem d_W_law_599 : decode code 599 = .ok (.aload_n 0, 1) := by decide +kernel
theorem d_W_law_600 : decode code 600 = .ok (.iload_n 3, 1) := by decide +kernel
theorem d_W_law_601 : decode code 601 = .ok (.iconst 2, 1) := by decide +kernel
theorem d_W_law_602 : decode code 602 = .ok (.iadd, 1) := by decide +kernel
theorem d_W_law_603 : decode code 603 = .ok (.iaload, 1) := by decide +kernel
theorem d_W_law_604 : decode code 604 = .ok (.aload_n 0, 1) := by decide +kernel
theorem d_W_law_605 : decode code 605 = .ok (.iload_n 3, 1) := by decide +kernel
theorem d_W_law_606 : decode code 606 = .ok (.iconst 3, 1) := by decide +kernel
theorem d_W_law_607 : decode code 607 = .ok (.iadd, 1) := by decide +kernel
theorem d_W_law_608 : decode code 608 = .ok (.iaload, 1) := by decide +kernel
theorem d_W_law_609 : decode code 609 = .ok (.invokevirtual 54, 3) := by decide +kernel
theorem d_W_law_612 : decode code 612 = .ok (.aload_n 2, 1) := by decide +kernel
theorem d_W_law_613 : decode code 613 = .ok (.aload_n 0, 1) := by decide +kernel
theorem d_W_law_614 : decode code 614 = .ok (.iload_n 3, 1) := by decide +kernel
theorem d_W_law_615 : decode code 615 = .ok (.iconst 1, 1) := by decide +kernel
theorem d_W_law_616 : decode code 616 = .ok (.iadd, 1) := by decide +kernel
theorem d_W_law_617 : decode code 617 = .ok (.iaload, 1) := by decide +kernel
theorem d_W_law_618 : decode code 618 = .ok (.aload_n 0, 1) := by decide +kernel
theorem d_W_law_619 : decode code 619 = .ok (.iload_n 3, 1) := by decide +kernel
theorem d_W_law_620 : decode code 620 = .ok (.iconst 2, 1) := by decide +kernel
theorem d_W_law_621 : decode code 621 = .ok (.iadd, 1) := by decide +kernel
theorem d_W_law_622 : decode code 622 = .ok (.iaload, 1) := by decide +kernel
theorem d_W_law_623 : decode code 623 = .ok (.aload_n 0, 1) := by decide +kernel
theorem d_W_law_624 : decode code 624 = .ok (.iload_n 3, 1) := by decide +kernel
theorem d_W_law_625 : decode code 625 = .ok (.iconst 3, 1) := by decide +kernel
theorem d_W_law_626 : decode code 626 = .ok (.iadd, 1) := by decide +kernel
theorem d_W_law_627 : decode code 627 = .ok (.iaload, 1) := by decide +kernel
theorem d_W_law_628 : decode code 628 = .ok (.invokevirtual 58, 3) := by decide +kernel
theorem d_W_law_631 : decode code 631 = .ok (.if_icmp .eq 177, 3) := by decide +kernel
theorem d_W_law_634 : decode code 634 = .ok (.iconst 0, 1) := by decide +kernel
theorem d_W_law_635 : decode code 635 = .ok (.ireturn, 1) := by decide +kernel
theorem d_W_law_636 : decode code 636 = .ok (.aload_n 1, 1) := by decide +kernel
theorem d_W_law_637 : decode code 637 = .ok (.aload_n 0, 1) := by decide +kernel
theorem d_W_law_638 : decode code 638 = .ok (.iload_n 3, 1) := by decide +kernel
theorem d_W_law_639 : decode code 639 = .ok (.iconst 1, 1) := by decide +kernel
theorem d_W_law_640 : decode code 640 = .ok (.iadd, 1) := by decide +kernel
theorem d_W_law_641 : decode code 641 = .ok (.iaload, 1) := by decide +kernel
theorem d_W_law_642 : decode code 642 = .ok (.i2l, 1) := by decide +kernel
theorem d_W_law_643 : decode code 643 = .ok (.bipush 32, 2) := by decide +kernel
theorem d_W_law_645 : decode code 645 = .ok (.lshl, 1) := by decide +kernel
theorem d_W_law_646 : decode code 646 = .ok (.aload_n 0, 1) := by decide +kernel
theorem d_W_law_647 : decode code 647 = .ok (.iload_n 3, 1) := by decide +kernel
theorem d_W_law_648 : decode code 648 = .ok (.iconst 2, 1) := by decide +kernel
theorem d_W_law_649 : decode code 649 = .ok (.iadd, 1) := by decide +kernel
theorem d_W_law_650 : decode code 650 = .ok (.iaload, 1) := by decide +kernel
theorem d_W_law_651 : decode code 651 = .ok (.i2l, 1) := by decide +kernel
theorem d_W_law_652 : decode code 652 = .ok (.ldc2_w 13, 3) := by decide +kernel
theorem d_W_law_655 : decode code 655 = .ok (.land, 1) := by decide +kernel
theorem d_W_law_656 : decode code 656 = .ok (.lor, 1) := by decide +kernel
theorem d_W_law_657 : decode code 657 = .ok (.aload_n 0, 1) := by decide +kernel
theorem d_W_law_658 : decode code 658 = .ok (.iload_n 3, 1) := by decide +kernel
theorem d_W_law_659 : decode code 659 = .ok (.iconst 3, 1) := by decide +kernel
theorem d_W_law_660 : decode code 660 = .ok (.iadd, 1) := by decide +kernel
theorem d_W_law_661 : decode code 661 = .ok (.iaload, 1) := by decide +kernel
theorem d_W_law_662 : decode code 662 = .ok (.invokevirtual 59, 3) := by decide +kernel
theorem d_W_law_665 : decode code 665 = .ok (.aload_n 2, 1) := by decide +kernel
theorem d_W_law_666 : decode code 666 = .ok (.aload_n 0, 1) := by decide +kernel
theorem d_W_law_667 : decode code 667 = .ok (.iload_n 3, 1) := by decide +kernel
theorem d_W_law_668 : decode code 668 = .ok (.iconst 1, 1) := by decide +kernel
theorem d_W_law_669 : decode code 669 = .ok (.iadd, 1) := by decide +kernel
theorem d_W_law_670 : decode code 670 = .ok (.iaload, 1) := by decide +kernel
theorem d_W_law_671 : decode code 671 = .ok (.i2l, 1) := by decide +kernel
theorem d_W_law_672 : decode code 672 = .ok (.bipush 32, 2) := by decide +kernel
theorem d_W_law_674 : decode code 674 = .ok (.lshl, 1) := by decide +kernel
theorem d_W_law_675 : decode code 675 = .ok (.aload_n 0, 1) := by decide +kernel
theorem d_W_law_676 : decode code 676 = .ok (.iload_n 3, 1) := by decide +kernel
theorem d_W_law_677 : decode code 677 = .ok (.iconst 2, 1) := by decide +kernel
theorem d_W_law_678 : decode code 678 = .ok (.iadd, 1) := by decide +kernel
theorem d_W_law_679 : decode code 679 = .ok (.iaload, 1) := by decide +kernel
theorem d_W_law_680 : decode code 680 = .ok (.i2l, 1) := by decide +kernel
theorem d_W_law_681 : decode code 681 = .ok (.ldc2_w 13, 3) := by decide +kernel
theorem d_W_law_684 : decode code 684 = .ok (.land, 1) := by decide +kernel
theorem d_W_law_685 : decode code 685 = .ok (.lor, 1) := by decide +kernel
theorem d_W_law_686 : decode code 686 = .ok (.aload_n 0, 1) := by decide +kernel
theorem d_W_law_687 : decode code 687 = .ok (.iload_n 3, 1) := by decide +kernel
theorem d_W_law_688 : decode code 688 = .ok (.iconst 3, 1) := by decide +kernel
theorem d_W_law_689 : decode code 689 = .ok (.iadd, 1) := by decide +kernel
theorem d_W_law_690 : decode code 690 = .ok (.iaload, 1) := by decide +kernel
theorem d_W_law_691 : decode code 691 = .ok (.invokevirtual 63, 3) := by decide +kernel
theorem d_W_law_694 : decode code 694 = .ok (.if_icmp .eq 114, 3) := by decide +kernel
theorem d_W_law_697 : decode code 697 = .ok (.iconst 0, 1) := by decide +kernel
theorem d_W_law_698 : decode code 698 = .ok (.ireturn, 1) := by decide +kernel
theorem d_W_law_699 : decode code 699 = .ok (.aload_n 1, 1) := by decide +kernel
theorem d_W_law_700 : decode code 700 = .ok (.aload_n 0, 1) := by decide +kernel
theorem d_W_law_701 : decode code 701 = .ok (.iload_n 3, 1) := by decide +kernel
theorem d_W_law_702 : decode code 702 = .ok (.iconst 1, 1) := by decide +kernel
theorem d_W_law_703 : decode code 703 = .ok (.iadd, 1) := by decide +kernel
theorem d_W_law_704 : decode code 704 = .ok (.iaload, 1) := by decide +kernel
theorem d_W_law_705 : decode code 705 = .ok (.invokevirtual 64, 3) := by decide +kernel
theorem d_W_law_708 : decode code 708 = .ok (.aload_n 2, 1) := by decide +kernel
theorem d_W_law_709 : decode code 709 = .ok (.aload_n 0, 1) := by decide +kernel
theorem d_W_law_710 : decode code 710 = .ok (.iload_n 3, 1) := by decide +kernel
theorem d_W_law_711 : decode code 711 = .ok (.iconst 1, 1) := by decide +kernel
theorem d_W_law_712 : decode code 712 = .ok (.iadd, 1) := by decide +kernel
theorem d_W_law_713 : decode code 713 = .ok (.iaload, 1) := by decide +kernel
theorem d_W_law_714 : decode code 714 = .ok (.invokevirtual 68, 3) := by decide +kernel
theorem d_W_law_717 : decode code 717 = .ok (.if_icmp .eq 91, 3) := by decide +kernel
theorem d_W_law_720 : decode code 720 = .ok (.iconst 0, 1) := by decide +kernel
theorem d_W_law_721 : decode code 721 = .ok (.ireturn, 1) := by decide +kernel
theorem d_W_law_722 : decode code 722 = .ok (.aload_n 1, 1) := by decide +kernel
theorem d_W_law_723 : decode code 723 = .ok (.aload_n 0, 1) := by decide +kernel
theorem d_W_law_724 : decode code 724 = .ok (.iload_n 3, 1) := by decide +kernel
theorem d_W_law_725 : decode code 725 = .ok (.iconst 1, 1) := by decide +kernel
theorem d_W_law_726 : decode code 726 = .ok (.iadd, 1) := by decide +kernel
theorem d_W_law_727 : decode code 727 = .ok (.iaload, 1) := by decide +kernel
theorem d_W_law_728 : decode code 728 = .ok (.aload_n 0, 1) := by decide +kernel
theorem d_W_law_729 : decode code 729 = .ok (.iload_n 3, 1) := by decide +kernel
theorem d_W_law_730 : decode code 730 = .ok (.iconst 2, 1) := by decide +kernel
theorem d_W_law_731 : decode code 731 = .ok (.iadd, 1) := by decide +kernel
theorem d_W_law_732 : decode code 732 = .ok (.iaload, 1) := by decide +kernel
theorem d_W_law_733 : decode code 733 = .ok (.invokevirtual 69, 3) := by decide +kernel
theorem d_W_law_736 : decode code 736 = .ok (.aload_n 2, 1) := by decide +kernel
theorem d_W_law_737 : decode code 737 = .ok (.aload_n 0, 1) := by decide +kernel
theorem d_W_law_738 : decode code 738 = .ok (.iload_n 3, 1) := by decide +kernel
theorem d_W_law_739 : decode code 739 = .ok (.iconst 1, 1) := by decide +kernel
theorem d_W_law_740 : decode code 740 = .ok (.iadd, 1) := by decide +kernel
theorem d_W_law_741 : decode code 741 = .ok (.iaload, 1) := by decide +kernel
theorem d_W_law_742 : decode code 742 = .ok (.aload_n 0, 1) := by decide +kernel
theorem d_W_law_743 : decode code 743 = .ok (.iload_n 3, 1) := by decide +kernel
theorem d_W_law_744 : decode code 744 = .ok (.iconst 2, 1) := by decide +kernel
theorem d_W_law_745 : decode code 745 = .ok (.iadd, 1) := by decide +kernel
theorem d_W_law_746 : decode code 746 = .ok (.iaload, 1) := by decide +kernel
theorem d_W_law_747 : decode code 747 = .ok (.invokevirtual 72, 3) := by decide +kernel
theorem d_W_law_750 : decode code 750 = .ok (.if_icmp .eq 58, 3) := by decide +kernel
theorem d_W_law_753 : decode code 753 = .ok (.iconst 0, 1) := by decide +kernel
theorem d_W_law_754 : decode code 754 = .ok (.ireturn, 1) := by decide +kernel
theorem d_W_law_755 : decode code 755 = .ok (.aload_n 1, 1) := by decide +kernel
theorem d_W_law_756 : decode code 756 = .ok (.aload_n 0, 1) := by decide +kernel
theorem d_W_law_757 : decode code 757 = .ok (.iload_n 3, 1) := by decide +kernel
theorem d_W_law_758 : decode code 758 = .ok (.iconst 1, 1) := by decide +kernel
theorem d_W_law_759 : decode code 759 = .ok (.iadd, 1) := by decide +kernel
theorem d_W_law_760 : decode code 760 = .ok (.iaload, 1) := by decide +kernel
theorem d_W_law_761 : decode code 761 = .ok (.aload_n 0, 1) := by decide +kernel
theorem d_W_law_762 : decode code 762 = .ok (.iload_n 3, 1) := by decide +kernel
theorem d_W_law_763 : decode code 763 = .ok (.iconst 2, 1) := by decide +kernel
theorem d_W_law_764 : decode code 764 = .ok (.iadd, 1) := by decide +kernel
theorem d_W_law_765 : decode code 765 = .ok (.iaload, 1) := by decide +kernel
theorem d_W_law_766 : decode code 766 = .ok (.aload_n 0, 1) := by decide +kernel
theorem d_W_law_767 : decode code 767 = .ok (.iload_n 3, 1) := by decide +kernel
theorem d_W_law_768 : decode code 768 = .ok (.iconst 3, 1) := by decide +kernel
theorem d_W_law_769 : decode code 769 = .ok (.iadd, 1) := by decide +kernel
theorem d_W_law_770 : decode code 770 = .ok (.iaload, 1) := by decide +kernel
theorem d_W_law_771 : decode code 771 = .ok (.aload_n 0, 1) := by decide +kernel
theorem d_W_law_772 : decode code 772 = .ok (.iload_n 3, 1) := by decide +kernel
theorem d_W_law_773 : decode code 773 = .ok (.iconst 4, 1) := by decide +kernel
theorem d_W_law_774 : decode code 774 = .ok (.iadd, 1) := by decide +kernel
theorem d_W_law_775 : decode code 775 = .ok (.iaload, 1) := by decide +kernel
theorem d_W_law_776 : decode code 776 = .ok (.invokevirtual 73, 3) := by decide +kernel
theorem d_W_law_779 : decode code 779 = .ok (.aload_n 2, 1) := by decide +kernel
theorem d_W_law_780 : decode code 780 = .ok (.aload_n 0, 1) := by decide +kernel
theorem d_W_law_781 : decode code 781 = .ok (.iload_n 3, 1) := by decide +kernel
theorem d_W_law_782 : decode code 782 = .ok (.iconst 1, 1) := by decide +kernel
theorem d_W_law_783 : decode code 783 = .ok (.iadd, 1) := by decide +kernel
theorem d_W_law_784 : decode code 784 = .ok (.iaload, 1) := by decide +kernel
theorem d_W_law_785 : decode code 785 = .ok (.aload_n 0, 1) := by decide +kernel
theorem d_W_law_786 : decode code 786 = .ok (.iload_n 3, 1) := by decide +kernel
theorem d_W_law_787 : decode code 787 = .ok (.iconst 2, 1) := by decide +kernel
theorem d_W_law_788 : decode code 788 = .ok (.iadd, 1) := by decide +kernel
theorem d_W_law_789 : decode code 789 = .ok (.iaload, 1) := by decide +kernel
theorem d_W_law_790 : decode code 790 = .ok (.aload_n 0, 1) := by decide +kernel
theorem d_W_law_791 : decode code 791 = .ok (.iload_n 3, 1) := by decide +kernel
theorem d_W_law_792 : decode code 792 = .ok (.iconst 3, 1) := by decide +kernel
theorem d_W_law_793 : decode code 793 = .ok (.iadd, 1) := by decide +kernel
theorem d_W_law_794 : decode code 794 = .ok (.iaload, 1) := by decide +kernel
theorem d_W_law_795 : decode code 795 = .ok (.aload_n 0, 1) := by decide +kernel
theorem d_W_law_796 : decode code 796 = .ok (.iload_n 3, 1) := by decide +kernel
theorem d_W_law_797 : decode code 797 = .ok (.iconst 4, 1) := by decide +kernel
theorem d_W_law_798 : decode code 798 = .ok (.iadd, 1) := by decide +kernel
theorem d_W_law_799 : decode code 799 = .ok (.iaload, 1) := by decide +kernel
theorem d_W_law_800 : decode code 800 = .ok (.invokevirtual 76, 3) := by decide +kernel
theorem d_W_law_803 : decode code 803 = .ok (.if_icmp .eq 5, 3) := by decide +kernel
theorem d_W_law_806 : decode code 806 = .ok (.iconst 0, 1) := by decide +kernel
theorem d_W_law_807 : decode code 807 = .ok (.ireturn, 1) := by decide +kernel
theorem d_W_law_808 : decode code 808 = .ok (.iinc 3 10, 3) := by decide +kernel
theorem d_W_law_811 : decode code 811 = .ok (.goto (-793), 3) := by decide +kernel
theorem d_W_law_814 : decode code 814 = .ok (.iconst 1, 1) := by decide +kernel
theorem d_W_law_815 : decode code 815 = .ok (.ireturn, 1) := by decide +kernel

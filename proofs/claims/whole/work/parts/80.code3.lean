theorem d_Law_law_454 : decode code 454 = .ok (.iadd, 1) := by decide +kernel
theorem d_Law_law_455 : decode code 455 = .ok (.iaload, 1) := by decide +kernel
theorem d_Law_law_456 : decode code 456 = .ok (.aload_n 0, 1) := by decide +kernel
theorem d_Law_law_457 : decode code 457 = .ok (.iload_n 3, 1) := by decide +kernel
theorem d_Law_law_458 : decode code 458 = .ok (.iconst 2, 1) := by decide +kernel
theorem d_Law_law_459 : decode code 459 = .ok (.iadd, 1) := by decide +kernel
theorem d_Law_law_460 : decode code 460 = .ok (.iaload, 1) := by decide +kernel
theorem d_Law_law_461 : decode code 461 = .ok (.aload_n 0, 1) := by decide +kernel
theorem d_Law_law_462 : decode code 462 = .ok (.iload_n 3, 1) := by decide +kernel
theorem d_Law_law_463 : decode code 463 = .ok (.iconst 3, 1) := by decide +kernel
theorem d_Law_law_464 : decode code 464 = .ok (.iadd, 1) := by decide +kernel
theorem d_Law_law_465 : decode code 465 = .ok (.iaload, 1) := by decide +kernel
theorem d_Law_law_466 : decode code 466 = .ok (.invokevirtual 52, 3) := by decide +kernel
theorem d_Law_law_469 : decode code 469 = .ok (.aload_n 2, 1) := by decide +kernel
theorem d_Law_law_470 : decode code 470 = .ok (.aload_n 0, 1) := by decide +kernel
theorem d_Law_law_471 : decode code 471 = .ok (.iload_n 3, 1) := by decide +kernel
theorem d_Law_law_472 : decode code 472 = .ok (.iconst 1, 1) := by decide +kernel
theorem d_Law_law_473 : decode code 473 = .ok (.iadd, 1) := by decide +kernel
theorem d_Law_law_474 : decode code 474 = .ok (.iaload, 1) := by decide +kernel
theorem d_Law_law_475 : decode code 475 = .ok (.aload_n 0, 1) := by decide +kernel
theorem d_Law_law_476 : decode code 476 = .ok (.iload_n 3, 1) := by decide +kernel
theorem d_Law_law_477 : decode code 477 = .ok (.iconst 2, 1) := by decide +kernel
theorem d_Law_law_478 : decode code 478 = .ok (.iadd, 1) := by decide +kernel
theorem d_Law_law_479 : decode code 479 = .ok (.iaload, 1) := by decide +kernel
theorem d_Law_law_480 : decode code 480 = .ok (.aload_n 0, 1) := by decide +kernel
theorem d_Law_law_481 : decode code 481 = .ok (.iload_n 3, 1) := by decide +kernel
theorem d_Law_law_482 : decode code 482 = .ok (.iconst 3, 1) := by decide +kernel
theorem d_Law_law_483 : decode code 483 = .ok (.iadd, 1) := by decide +kernel
theorem d_Law_law_484 : decode code 484 = .ok (.iaload, 1) := by decide +kernel
theorem d_Law_law_485 : decode code 485 = .ok (.invokevirtual 56, 3) := by decide +kernel
theorem d_Law_law_488 : decode code 488 = .ok (.if_icmp .eq 252, 3) := by decide +kernel
theorem d_Law_law_491 : decode code 491 = .ok (.iconst 0, 1) := by decide +kernel
theorem d_Law_law_492 : decode code 492 = .ok (.ireturn, 1) := by decide +kernel
theorem d_Law_law_493 : decode code 493 = .ok (.aload_n 1, 1) := by decide +kernel
theorem d_Law_law_494 : decode code 494 = .ok (.aload_n 0, 1) := by decide +kernel
theorem d_Law_law_495 : decode code 495 = .ok (.iload_n 3, 1) := by decide +kernel
theorem d_Law_law_496 : decode code 496 = .ok (.iconst 1, 1) := by decide +kernel
theorem d_Law_law_497 : decode code 497 = .ok (.iadd, 1) := by decide +kernel
theorem d_Law_law_498 : decode code 498 = .ok (.iaload, 1) := by decide +kernel
theorem d_Law_law_499 : decode code 499 = .ok (.aload_n 0, 1) := by decide +kernel
theorem d_Law_law_500 : decode code 500 = .ok (.iload_n 3, 1) := by decide +kernel
theorem d_Law_law_501 : decode code 501 = .ok (.iconst 2, 1) := by decide +kernel
theorem d_Law_law_502 : decode code 502 = .ok (.iadd, 1) := by decide +kernel
theorem d_Law_law_503 : decode code 503 = .ok (.iaload, 1) := by decide +kernel
theorem d_Law_law_504 : decode code 504 = .ok (.aload_n 0, 1) := by decide +kernel
theorem d_Law_law_505 : decode code 505 = .ok (.iload_n 3, 1) := by decide +kernel
theorem d_Law_law_506 : decode code 506 = .ok (.iconst 3, 1) := by decide +kernel
theorem d_Law_law_507 : decode code 507 = .ok (.iadd, 1) := by decide +kernel
theorem d_Law_law_508 : decode code 508 = .ok (.iaload, 1) := by decide +kernel
theorem d_Law_law_509 : decode code 509 = .ok (.aload_n 0, 1) := by decide +kernel
theorem d_Law_law_510 : decode code 510 = .ok (.iload_n 3, 1) := by decide +kernel
theorem d_Law_law_511 : decode code 511 = .ok (.iconst 4, 1) := by decide +kernel
theorem d_Law_law_512 : decode code 512 = .ok (.iadd, 1) := by decide +kernel
theorem d_Law_law_513 : decode code 513 = .ok (.iaload, 1) := by decide +kernel
theorem d_Law_law_514 : decode code 514 = .ok (.invokevirtual 57, 3) := by decide +kernel
theorem d_Law_law_517 : decode code 517 = .ok (.aload_n 2, 1) := by decide +kernel
theorem d_Law_law_518 : decode code 518 = .ok (.aload_n 0, 1) := by decide +kernel
theorem d_Law_law_519 : decode code 519 = .ok (.iload_n 3, 1) := by decide +kernel
theorem d_Law_law_520 : decode code 520 = .ok (.iconst 1, 1) := by decide +kernel
theorem d_Law_law_521 : decode code 521 = .ok (.iadd, 1) := by decide +kernel
theorem d_Law_law_522 : decode code 522 = .ok (.iaload, 1) := by decide +kernel
theorem d_Law_law_523 : decode code 523 = .ok (.aload_n 0, 1) := by decide +kernel
theorem d_Law_law_524 : decode code 524 = .ok (.iload_n 3, 1) := by decide +kernel
theorem d_Law_law_525 : decode code 525 = .ok (.iconst 2, 1) := by decide +kernel
theorem d_Law_law_526 : decode code 526 = .ok (.iadd, 1) := by decide +kernel
theorem d_Law_law_527 : decode code 527 = .ok (.iaload, 1) := by decide +kernel
theorem d_Law_law_528 : decode code 528 = .ok (.aload_n 0, 1) := by decide +kernel
theorem d_Law_law_529 : decode code 529 = .ok (.iload_n 3, 1) := by decide +kernel
theorem d_Law_law_530 : decode code 530 = .ok (.iconst 3, 1) := by decide +kernel
theorem d_Law_law_531 : decode code 531 = .ok (.iadd, 1) := by decide +kernel
theorem d_Law_law_532 : decode code 532 = .ok (.iaload, 1) := by decide +kernel
theorem d_Law_law_533 : decode code 533 = .ok (.aload_n 0, 1) := by decide +kernel
theorem d_Law_law_534 : decode code 534 = .ok (.iload_n 3, 1) := by decide +kernel
theorem d_Law_law_535 : decode code 535 = .ok (.iconst 4, 1) := by decide +kernel
theorem d_Law_law_536 : decode code 536 = .ok (.iadd, 1) := by decide +kernel
theorem d_Law_law_537 : decode code 537 = .ok (.iaload, 1) := by decide +kernel
theorem d_Law_law_538 : decode code 538 = .ok (.invokevirtual 61, 3) := by decide +kernel
theorem d_Law_law_541 : decode code 541 = .ok (.if_icmp .eq 199, 3) := by decide +kernel
theorem d_Law_law_544 : decode code 544 = .ok (.iconst 0, 1) := by decide +kernel
theorem d_Law_law_545 : decode code 545 = .ok (.ireturn, 1) := by decide +kernel
theorem d_Law_law_546 : decode code 546 = .ok (.aload_n 1, 1) := by decide +kernel
theorem d_Law_law_547 : decode code 547 = .ok (.aload_n 0, 1) := by decide +kernel
theorem d_Law_law_548 : decode code 548 = .ok (.iload_n 3, 1) := by decide +kernel
theorem d_Law_law_549 : decode code 549 = .ok (.iconst 1, 1) := by decide +kernel
theorem d_Law_law_550 : decode code 550 = .ok (.iadd, 1) := by decide +kernel
theorem d_Law_law_551 : decode code 551 = .ok (.iaload, 1) := by decide +kernel
theorem d_Law_law_552 : decode code 552 = .ok (.aload_n 0, 1) := by decide +kernel
theorem d_Law_law_553 : decode code 553 = .ok (.iload_n 3, 1) := by decide +kernel
theorem d_Law_law_554 : decode code 554 = .ok (.iconst 2, 1) := by decide +kernel
theorem d_Law_law_555 : decode code 555 = .ok (.iadd, 1) := by decide +kernel
theorem d_Law_law_556 : decode code 556 = .ok (.iaload, 1) := by decide +kernel
theorem d_Law_law_557 : decode code 557 = .ok (.aload_n 0, 1) := by decide +kernel
theorem d_Law_law_558 : decode code 558 = .ok (.iload_n 3, 1) := by decide +kernel
theorem d_Law_law_559 : decode code 559 = .ok (.iconst 3, 1) := by decide +kernel
theorem d_Law_law_560 : decode code 560 = .ok (.iadd, 1) := by decide +kernel
theorem d_Law_law_561 : decode code 561 = .ok (.iaload, 1) := by decide +kernel
theorem d_Law_law_562 : decode code 562 = .ok (.invokevirtual 62, 3) := by decide +kernel
theorem d_Law_law_565 : decode code 565 = .ok (.aload_n 2, 1) := by decide +kernel
theorem d_Law_law_566 : decode code 566 = .ok (.aload_n 0, 1) := by decide +kernel
theorem d_Law_law_567 : decode code 567 = .ok (.iload_n 3, 1) := by decide +kernel
theorem d_Law_law_568 : decode code 568 = .ok (.iconst 1, 1) := by decide +kernel
theorem d_Law_law_569 : decode code 569 = .ok (.iadd, 1) := by decide +kernel
theorem d_Law_law_570 : decode code 570 = .ok (.iaload, 1) := by decide +kernel
theorem d_Law_law_571 : decode code 571 = .ok (.aload_n 0, 1) := by decide +kernel
theorem d_Law_law_572 : decode code 572 = .ok (.iload_n 3, 1) := by decide +kernel
theorem d_Law_law_573 : decode code 573 = .ok (.iconst 2, 1) := by decide +kernel
theorem d_Law_law_574 : decode code 574 = .ok (.iadd, 1) := by decide +kernel
theorem d_Law_law_575 : decode code 575 = .ok (.iaload, 1) := by decide +kernel
theorem d_Law_law_576 : decode code 576 = .ok (.aload_n 0, 1) := by decide +kernel
theorem d_Law_law_577 : decode code 577 = .ok (.iload_n 3, 1) := by decide +kernel
theorem d_Law_law_578 : decode code 578 = .ok (.iconst 3, 1) := by decide +kernel
theorem d_Law_law_579 : decode code 579 = .ok (.iadd, 1) := by decide +kernel
theorem d_Law_law_580 : decode code 580 = .ok (.iaload, 1) := by decide +kernel
theorem d_Law_law_581 : decode code 581 = .ok (.invokevirtual 65, 3) := by decide +kernel
theorem d_Law_law_584 : decode code 584 = .ok (.if_icmp .eq 156, 3) := by decide +kernel
theorem d_Law_law_587 : decode code 587 = .ok (.iconst 0, 1) := by decide +kernel
theorem d_Law_law_588 : decode code 588 = .ok (.ireturn, 1) := by decide +kernel
theorem d_Law_law_589 : decode code 589 = .ok (.aload_n 1, 1) := by decide +kernel
theorem d_Law_law_590 : decode code 590 = .ok (.aload_n 0, 1) := by decide +kernel
theorem d_Law_law_591 : decode code 591 = .ok (.iload_n 3, 1) := by decide +kernel
theorem d_Law_law_592 : decode code 592 = .ok (.iconst 1, 1) := by decide +kernel
theorem d_Law_law_593 : decode code 593 = .ok (.iadd, 1) := by decide +kernel
theorem d_Law_law_594 : decode code 594 = .ok (.iaload, 1) := by decide +kernel
theorem d_Law_law_595 : decode code 595 = .ok (.invokevirtual 66, 3) := by decide +kernel
theorem d_Law_law_598 : decode code 598 = .ok (.aload_n 2, 1) := by decide +kernel
theorem d_Law_law_599 : decode code 599 = .ok (.aload_n 0, 1) := by decide +kernel
theorem d_Law_law_600 : decode code 600 = .ok (.iload_n 3, 1) := by decide +kernel
theorem d_Law_law_601 : decode code 601 = .ok (.iconst 1, 1) := by decide +kernel
theorem d_Law_law_602 : decode code 602 = .ok (.iadd, 1) := by decide +kernel
theorem d_Law_law_603 : decode code 603 = .ok (.iaload, 1) := by decide +kernel
theorem d_Law_law_604 : decode code 604 = .ok (.invokevirtual 69, 3) := by decide +kernel
theorem d_Law_law_607 : decode code 607 = .ok (.if_icmp .eq 133, 3) := by decide +kernel
theorem d_Law_law_610 : decode code 610 = .ok (.iconst 0, 1) := by decide +kernel
theorem d_Law_law_611 : decode code 611 = .ok (.ireturn, 1) := by decide +kernel
theorem d_Law_law_612 : decode code 612 = .ok (.aload_n 1, 1) := by decide +kernel
theorem d_Law_law_613 : decode code 613 = .ok (.aload_n 0, 1) := by decide +kernel
theorem d_Law_law_614 : decode code 614 = .ok (.iload_n 3, 1) := by decide +kernel
theorem d_Law_law_615 : decode code 615 = .ok (.iconst 1, 1) := by decide +kernel
theorem d_Law_law_616 : decode code 616 = .ok (.iadd, 1) := by decide +kernel
theorem d_Law_law_617 : decode code 617 = .ok (.iaload, 1) := by decide +kernel
theorem d_Law_law_618 : decode code 618 = .ok (.invokevirtual 70, 3) := by decide +kernel
theorem d_Law_law_621 : decode code 621 = .ok (.aload_n 2, 1) := by decide +kernel
theorem d_Law_law_622 : decode code 622 = .ok (.aload_n 0, 1) := by decide +kernel
theorem d_Law_law_623 : decode code 623 = .ok (.iload_n 3, 1) := by decide +kernel
theorem d_Law_law_624 : decode code 624 = .ok (.iconst 1, 1) := by decide +kernel
theorem d_Law_law_625 : decode code 625 = .ok (.iadd, 1) := by decide +kernel
theorem d_Law_law_626 : decode code 626 = .ok (.iaload, 1) := by decide +kernel
theorem d_Law_law_627 : decode code 627 = .ok (.invokevirtual 73, 3) := by decide +kernel
theorem d_Law_law_630 : decode code 630 = .ok (.if_icmp .eq 110, 3) := by decide +kernel
theorem d_Law_law_633 : decode code 633 = .ok (.iconst 0, 1) := by decide +kernel

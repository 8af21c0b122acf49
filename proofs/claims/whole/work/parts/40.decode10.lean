theorem dXL_law_450 : decode cXL_law 450 = .ok (.aload_n 2, 1) := by decide +kernel
theorem dXL_law_451 : decode cXL_law 451 = .ok (.aload_n 0, 1) := by decide +kernel
theorem dXL_law_452 : decode cXL_law 452 = .ok (.iload_n 3, 1) := by decide +kernel
theorem dXL_law_453 : decode cXL_law 453 = .ok (.iconst 1, 1) := by decide +kernel
theorem dXL_law_454 : decode cXL_law 454 = .ok (.iadd, 1) := by decide +kernel
theorem dXL_law_455 : decode cXL_law 455 = .ok (.iaload, 1) := by decide +kernel
theorem dXL_law_456 : decode cXL_law 456 = .ok (.invokevirtual 58, 3) := by decide +kernel
theorem dXL_law_459 : decode cXL_law 459 = .ok (.if_icmp .eq 212, 3) := by decide +kernel
theorem dXL_law_462 : decode cXL_law 462 = .ok (.iconst 0, 1) := by decide +kernel
theorem dXL_law_463 : decode cXL_law 463 = .ok (.ireturn, 1) := by decide +kernel
theorem dXL_law_464 : decode cXL_law 464 = .ok (.aload_n 1, 1) := by decide +kernel
theorem dXL_law_465 : decode cXL_law 465 = .ok (.aload_n 0, 1) := by decide +kernel
theorem dXL_law_466 : decode cXL_law 466 = .ok (.iload_n 3, 1) := by decide +kernel
theorem dXL_law_467 : decode cXL_law 467 = .ok (.iconst 1, 1) := by decide +kernel
theorem dXL_law_468 : decode cXL_law 468 = .ok (.iadd, 1) := by decide +kernel
theorem dXL_law_469 : decode cXL_law 469 = .ok (.iaload, 1) := by decide +kernel
theorem dXL_law_470 : decode cXL_law 470 = .ok (.aload_n 0, 1) := by decide +kernel
theorem dXL_law_471 : decode cXL_law 471 = .ok (.iload_n 3, 1) := by decide +kernel
theorem dXL_law_472 : decode cXL_law 472 = .ok (.iconst 2, 1) := by decide +kernel
theorem dXL_law_473 : decode cXL_law 473 = .ok (.iadd, 1) := by decide +kernel
theorem dXL_law_474 : decode cXL_law 474 = .ok (.iaload, 1) := by decide +kernel
theorem dXL_law_475 : decode cXL_law 475 = .ok (.invokevirtual 59, 3) := by decide +kernel
theorem dXL_law_478 : decode cXL_law 478 = .ok (.aload_n 2, 1) := by decide +kernel
theorem dXL_law_479 : decode cXL_law 479 = .ok (.aload_n 0, 1) := by decide +kernel
theorem dXL_law_480 : decode cXL_law 480 = .ok (.iload_n 3, 1) := by decide +kernel
theorem dXL_law_481 : decode cXL_law 481 = .ok (.iconst 1, 1) := by decide +kernel
theorem dXL_law_482 : decode cXL_law 482 = .ok (.iadd, 1) := by decide +kernel
theorem dXL_law_483 : decode cXL_law 483 = .ok (.iaload, 1) := by decide +kernel
theorem dXL_law_484 : decode cXL_law 484 = .ok (.aload_n 0, 1) := by decide +kernel
theorem dXL_law_485 : decode cXL_law 485 = .ok (.iload_n 3, 1) := by decide +kernel
theorem dXL_law_486 : decode cXL_law 486 = .ok (.iconst 2, 1) := by decide +kernel
theorem dXL_law_487 : decode cXL_law 487 = .ok (.iadd, 1) := by decide +kernel
theorem dXL_law_488 : decode cXL_law 488 = .ok (.iaload, 1) := by decide +kernel
theorem dXL_law_489 : decode cXL_law 489 = .ok (.invokevirtual 62, 3) := by decide +kernel
theorem dXL_law_492 : decode cXL_law 492 = .ok (.if_icmp .eq 179, 3) := by decide +kernel
theorem dXL_law_495 : decode cXL_law 495 = .ok (.iconst 0, 1) := by decide +kernel
theorem dXL_law_496 : decode cXL_law 496 = .ok (.ireturn, 1) := by decide +kernel
theorem dXL_law_497 : decode cXL_law 497 = .ok (.aload_n 1, 1) := by decide +kernel
theorem dXL_law_498 : decode cXL_law 498 = .ok (.aload_n 0, 1) := by decide +kernel
theorem dXL_law_499 : decode cXL_law 499 = .ok (.iload_n 3, 1) := by decide +kernel
theorem dXL_law_500 : decode cXL_law 500 = .ok (.iconst 1, 1) := by decide +kernel
theorem dXL_law_501 : decode cXL_law 501 = .ok (.iadd, 1) := by decide +kernel
theorem dXL_law_502 : decode cXL_law 502 = .ok (.iaload, 1) := by decide +kernel
theorem dXL_law_503 : decode cXL_law 503 = .ok (.aload_n 0, 1) := by decide +kernel
theorem dXL_law_504 : decode cXL_law 504 = .ok (.iload_n 3, 1) := by decide +kernel
theorem dXL_law_505 : decode cXL_law 505 = .ok (.iconst 2, 1) := by decide +kernel
theorem dXL_law_506 : decode cXL_law 506 = .ok (.iadd, 1) := by decide +kernel
theorem dXL_law_507 : decode cXL_law 507 = .ok (.iaload, 1) := by decide +kernel
theorem dXL_law_508 : decode cXL_law 508 = .ok (.invokevirtual 63, 3) := by decide +kernel
theorem dXL_law_511 : decode cXL_law 511 = .ok (.aload_n 2, 1) := by decide +kernel
theorem dXL_law_512 : decode cXL_law 512 = .ok (.aload_n 0, 1) := by decide +kernel
theorem dXL_law_513 : decode cXL_law 513 = .ok (.iload_n 3, 1) := by decide +kernel
theorem dXL_law_514 : decode cXL_law 514 = .ok (.iconst 1, 1) := by decide +kernel
theorem dXL_law_515 : decode cXL_law 515 = .ok (.iadd, 1) := by decide +kernel
theorem dXL_law_516 : decode cXL_law 516 = .ok (.iaload, 1) := by decide +kernel
theorem dXL_law_517 : decode cXL_law 517 = .ok (.aload_n 0, 1) := by decide +kernel
theorem dXL_law_518 : decode cXL_law 518 = .ok (.iload_n 3, 1) := by decide +kernel
theorem dXL_law_519 : decode cXL_law 519 = .ok (.iconst 2, 1) := by decide +kernel
theorem dXL_law_520 : decode cXL_law 520 = .ok (.iadd, 1) := by decide +kernel
theorem dXL_law_521 : decode cXL_law 521 = .ok (.iaload, 1) := by decide +kernel
theorem dXL_law_522 : decode cXL_law 522 = .ok (.invokevirtual 66, 3) := by decide +kernel
theorem dXL_law_525 : decode cXL_law 525 = .ok (.if_icmp .eq 146, 3) := by decide +kernel
theorem dXL_law_528 : decode cXL_law 528 = .ok (.iconst 0, 1) := by decide +kernel
theorem dXL_law_529 : decode cXL_law 529 = .ok (.ireturn, 1) := by decide +kernel
theorem dXL_law_530 : decode cXL_law 530 = .ok (.aload_n 1, 1) := by decide +kernel
theorem dXL_law_531 : decode cXL_law 531 = .ok (.aload_n 0, 1) := by decide +kernel
theorem dXL_law_532 : decode cXL_law 532 = .ok (.iload_n 3, 1) := by decide +kernel
theorem dXL_law_533 : decode cXL_law 533 = .ok (.iconst 1, 1) := by decide +kernel
theorem dXL_law_534 : decode cXL_law 534 = .ok (.iadd, 1) := by decide +kernel
theorem dXL_law_535 : decode cXL_law 535 = .ok (.iaload, 1) := by decide +kernel
theorem dXL_law_536 : decode cXL_law 536 = .ok (.invokevirtual 67, 3) := by decide +kernel
theorem dXL_law_539 : decode cXL_law 539 = .ok (.aload_n 2, 1) := by decide +kernel
theorem dXL_law_540 : decode cXL_law 540 = .ok (.aload_n 0, 1) := by decide +kernel
theorem dXL_law_541 : decode cXL_law 541 = .ok (.iload_n 3, 1) := by decide +kernel
theorem dXL_law_542 : decode cXL_law 542 = .ok (.iconst 1, 1) := by decide +kernel
theorem dXL_law_543 : decode cXL_law 543 = .ok (.iadd, 1) := by decide +kernel
theorem dXL_law_544 : decode cXL_law 544 = .ok (.iaload, 1) := by decide +kernel
theorem dXL_law_545 : decode cXL_law 545 = .ok (.invokevirtual 70, 3) := by decide +kernel
theorem dXL_law_548 : decode cXL_law 548 = .ok (.if_icmp .eq 123, 3) := by decide +kernel
theorem dXL_law_551 : decode cXL_law 551 = .ok (.iconst 0, 1) := by decide +kernel
theorem dXL_law_552 : decode cXL_law 552 = .ok (.ireturn, 1) := by decide +kernel
theorem dXL_law_553 : decode cXL_law 553 = .ok (.aload_n 1, 1) := by decide +kernel
theorem dXL_law_554 : decode cXL_law 554 = .ok (.aload_n 0, 1) := by decide +kernel
theorem dXL_law_555 : decode cXL_law 555 = .ok (.iload_n 3, 1) := by decide +kernel
theorem dXL_law_556 : decode cXL_law 556 = .ok (.iconst 1, 1) := by decide +kernel
theorem dXL_law_557 : decode cXL_law 557 = .ok (.iadd, 1) := by decide +kernel
theorem dXL_law_558 : decode cXL_law 558 = .ok (.iaload, 1) := by decide +kernel
theorem dXL_law_559 : decode cXL_law 559 = .ok (.invokevirtual 71, 3) := by decide +kernel
theorem dXL_law_562 : decode cXL_law 562 = .ok (.aload_n 2, 1) := by decide +kernel
theorem dXL_law_563 : decode cXL_law 563 = .ok (.aload_n 0, 1) := by decide +kernel
theorem dXL_law_564 : decode cXL_law 564 = .ok (.iload_n 3, 1) := by decide +kernel
theorem dXL_law_565 : decode cXL_law 565 = .ok (.iconst 1, 1) := by decide +kernel
theorem dXL_law_566 : decode cXL_law 566 = .ok (.iadd, 1) := by decide +kernel
theorem dXL_law_567 : decode cXL_law 567 = .ok (.iaload, 1) := by decide +kernel
theorem dXL_law_568 : decode cXL_law 568 = .ok (.invokevirtual 74, 3) := by decide +kernel
theorem dXL_law_571 : decode cXL_law 571 = .ok (.if_icmp .eq 100, 3) := by decide +kernel
theorem dXL_law_574 : decode cXL_law 574 = .ok (.iconst 0, 1) := by decide +kernel
theorem dXL_law_575 : decode cXL_law 575 = .ok (.ireturn, 1) := by decide +kernel
theorem dXL_law_576 : decode cXL_law 576 = .ok (.aload_n 1, 1) := by decide +kernel
theorem dXL_law_577 : decode cXL_law 577 = .ok (.invokevirtual 75, 3) := by decide +kernel
theorem dXL_law_580 : decode cXL_law 580 = .ok (.aload_n 2, 1) := by decide +kernel
theorem dXL_law_581 : decode cXL_law 581 = .ok (.invokevirtual 79, 3) := by decide +kernel
theorem dXL_law_584 : decode cXL_law 584 = .ok (.if_icmp .eq 87, 3) := by decide +kernel
theorem dXL_law_587 : decode cXL_law 587 = .ok (.iconst 0, 1) := by decide +kernel
theorem dXL_law_588 : decode cXL_law 588 = .ok (.ireturn, 1) := by decide +kernel
theorem dXL_law_589 : decode cXL_law 589 = .ok (.aload_n 1, 1) := by decide +kernel
theorem dXL_law_590 : decode cXL_law 590 = .ok (.aload_n 0, 1) := by decide +kernel
theorem dXL_law_591 : decode cXL_law 591 = .ok (.iload_n 3, 1) := by decide +kernel
theorem dXL_law_592 : decode cXL_law 592 = .ok (.iconst 1, 1) := by decide +kernel
theorem dXL_law_593 : decode cXL_law 593 = .ok (.iadd, 1) := by decide +kernel
theorem dXL_law_594 : decode cXL_law 594 = .ok (.iaload, 1) := by decide +kernel
theorem dXL_law_595 : decode cXL_law 595 = .ok (.invokevirtual 80, 3) := by decide +kernel
theorem dXL_law_598 : decode cXL_law 598 = .ok (.aload_n 2, 1) := by decide +kernel
theorem dXL_law_599 : decode cXL_law 599 = .ok (.aload_n 0, 1) := by decide +kernel
theorem dXL_law_600 : decode cXL_law 600 = .ok (.iload_n 3, 1) := by decide +kernel
theorem dXL_law_601 : decode cXL_law 601 = .ok (.iconst 1, 1) := by decide +kernel
theorem dXL_law_602 : decode cXL_law 602 = .ok (.iadd, 1) := by decide +kernel
theorem dXL_law_603 : decode cXL_law 603 = .ok (.iaload, 1) := by decide +kernel
theorem dXL_law_604 : decode cXL_law 604 = .ok (.invokevirtual 83, 3) := by decide +kernel
theorem dXL_law_607 : decode cXL_law 607 = .ok (.if_icmp .eq 64, 3) := by decide +kernel
theorem dXL_law_610 : decode cXL_law 610 = .ok (.iconst 0, 1) := by decide +kernel
theorem dXL_law_611 : decode cXL_law 611 = .ok (.ireturn, 1) := by decide +kernel
theorem dXL_law_612 : decode cXL_law 612 = .ok (.aload_n 1, 1) := by decide +kernel
theorem dXL_law_613 : decode cXL_law 613 = .ok (.aload_n 0, 1) := by decide +kernel
theorem dXL_law_614 : decode cXL_law 614 = .ok (.iload_n 3, 1) := by decide +kernel
theorem dXL_law_615 : decode cXL_law 615 = .ok (.iconst 1, 1) := by decide +kernel
theorem dXL_law_616 : decode cXL_law 616 = .ok (.iadd, 1) := by decide +kernel
theorem dXL_law_617 : decode cXL_law 617 = .ok (.iaload, 1) := by decide +kernel
theorem dXL_law_618 : decode cXL_law 618 = .ok (.invokevirtual 84, 3) := by decide +kernel
theorem dXL_law_621 : decode cXL_law 621 = .ok (.aload_n 2, 1) := by decide +kernel
theorem dXL_law_622 : decode cXL_law 622 = .ok (.aload_n 0, 1) := by decide +kernel
theorem dXL_law_623 : decode cXL_law 623 = .ok (.iload_n 3, 1) := by decide +kernel
theorem dXL_law_624 : decode cXL_law 624 = .ok (.iconst 1, 1) := by decide +kernel
theorem dXL_law_625 : decode cXL_law 625 = .ok (.iadd, 1) := by decide +kernel
theorem dXL_law_626 : decode cXL_law 626 = .ok (.iaload, 1) := by decide +kernel
theorem dXL_law_627 : decode cXL_law 627 = .ok (.invokevirtual 87, 3) := by decide +kernel
theorem dXL_law_630 : decode cXL_law 630 = .ok (.if_icmp .eq 41, 3) := by decide +kernel
theorem dXL_law_633 : decode cXL_law 633 = .ok (.iconst 0, 1) := by decide +kernel
theorem dXL_law_634 : decode cXL_law 634 = .ok (.ireturn, 1) := by decide +kernel
theorem dXL_law_635 : decode cXL_law 635 = .ok (.aload_n 1, 1) := by decide +kernel
theorem dXL_law_636 : decode cXL_law 636 = .ok (.invokevirtual 88, 3) := by decide +kernel
theorem dXL_law_639 : decode cXL_law 639 = .ok (.aload_n 2, 1) := by decide +kernel
theorem dXL_law_640 : decode cXL_law 640 = .ok (.invokevirtual 91, 3) := by decide +kernel
theorem dXL_law_643 : decode cXL_law 643 = .ok (.if_icmp .eq 28, 3) := by decide +kernel
theorem dXL_law_646 : decode cXL_law 646 = .ok (.iconst 0, 1) := by decide +kernel
theorem dXL_law_647 : decode cXL_law 647 = .ok (.ireturn, 1) := by decide +kernel
theorem dXL_law_648 : decode cXL_law 648 = .ok (.aload_n 1, 1) := by decide +kernel
theorem dXL_law_649 : decode cXL_law 649 = .ok (.aload_n 0, 1) := by decide +kernel
theorem dXL_law_650 : decode cXL_law 650 = .ok (.iload_n 3, 1) := by decide +kernel
theorem dXL_law_651 : decode cXL_law 651 = .ok (.iconst 1, 1) := by decide +kernel
theorem dXL_law_652 : decode cXL_law 652 = .ok (.iadd, 1) := by decide +kernel
theorem dXL_law_653 : decode cXL_law 653 = .ok (.iaload, 1) := by decide +kernel
theorem dXL_law_654 : decode cXL_law 654 = .ok (.invokevirtual 92, 3) := by decide +kernel
theorem dXL_law_657 : decode cXL_law 657 = .ok (.aload_n 2, 1) := by decide +kernel
theorem dXL_law_658 : decode cXL_law 658 = .ok (.aload_n 0, 1) := by decide +kernel
theorem dXL_law_659 : decode cXL_law 659 = .ok (.iload_n 3, 1) := by decide +kernel
theorem dXL_law_660 : decode cXL_law 660 = .ok (.iconst 1, 1) := by decide +kernel
theorem dXL_law_661 : decode cXL_law 661 = .ok (.iadd, 1) := by decide +kernel
theorem dXL_law_662 : decode cXL_law 662 = .ok (.iaload, 1) := by decide +kernel
theorem dXL_law_663 : decode cXL_law 663 = .ok (.invokevirtual 95, 3) := by decide +kernel
theorem dXL_law_666 : decode cXL_law 666 = .ok (.if_icmp .eq 5, 3) := by decide +kernel
theorem dXL_law_669 : decode cXL_law 669 = .ok (.iconst 0, 1) := by decide +kernel
theorem dXL_law_670 : decode cXL_law 670 = .ok (.ireturn, 1) := by decide +kernel
theorem dXL_law_671 : decode cXL_law 671 = .ok (.iinc 3 5, 3) := by decide +kernel
theorem dXL_law_674 : decode cXL_law 674 = .ok (.goto (-656), 3) := by decide +kernel
theorem dXL_law_677 : decode cXL_law 677 = .ok (.iconst 1, 1) := by decide +kernel
theorem dXL_law_678 : decode cXL_law 678 = .ok (.ireturn, 1) := by decide +kernel

theorem dc_W_law_448 : decode bc_W_law 448 = .ok (.lcmp, 1) := by decide +kernel
theorem dc_W_law_449 : decode bc_W_law 449 = .ok (.ifCond .eq 906, 3) := by decide +kernel
theorem dc_W_law_452 : decode bc_W_law 452 = .ok (.iconst 0, 1) := by decide +kernel
theorem dc_W_law_453 : decode bc_W_law 453 = .ok (.ireturn, 1) := by decide +kernel
theorem dc_W_law_454 : decode bc_W_law 454 = .ok (.aload_n 1, 1) := by decide +kernel
theorem dc_W_law_455 : decode bc_W_law 455 = .ok (.aload_n 0, 1) := by decide +kernel
theorem dc_W_law_456 : decode bc_W_law 456 = .ok (.iload_n 3, 1) := by decide +kernel
theorem dc_W_law_457 : decode bc_W_law 457 = .ok (.iconst 1, 1) := by decide +kernel
theorem dc_W_law_458 : decode bc_W_law 458 = .ok (.iadd, 1) := by decide +kernel
theorem dc_W_law_459 : decode bc_W_law 459 = .ok (.iaload, 1) := by decide +kernel
theorem dc_W_law_460 : decode bc_W_law 460 = .ok (.aload_n 0, 1) := by decide +kernel
theorem dc_W_law_461 : decode bc_W_law 461 = .ok (.iload_n 3, 1) := by decide +kernel
theorem dc_W_law_462 : decode bc_W_law 462 = .ok (.iconst 2, 1) := by decide +kernel
theorem dc_W_law_463 : decode bc_W_law 463 = .ok (.iadd, 1) := by decide +kernel
theorem dc_W_law_464 : decode bc_W_law 464 = .ok (.iaload, 1) := by decide +kernel
theorem dc_W_law_465 : decode bc_W_law 465 = .ok (.aload_n 0, 1) := by decide +kernel
theorem dc_W_law_466 : decode bc_W_law 466 = .ok (.iload_n 3, 1) := by decide +kernel
theorem dc_W_law_467 : decode bc_W_law 467 = .ok (.iconst 3, 1) := by decide +kernel
theorem dc_W_law_468 : decode bc_W_law 468 = .ok (.iadd, 1) := by decide +kernel
theorem dc_W_law_469 : decode bc_W_law 469 = .ok (.iaload, 1) := by decide +kernel
theorem dc_W_law_470 : decode bc_W_law 470 = .ok (.i2l, 1) := by decide +kernel
theorem dc_W_law_471 : decode bc_W_law 471 = .ok (.bipush 32, 2) := by decide +kernel
theorem dc_W_law_473 : decode bc_W_law 473 = .ok (.lshl, 1) := by decide +kernel
theorem dc_W_law_474 : decode bc_W_law 474 = .ok (.aload_n 0, 1) := by decide +kernel
theorem dc_W_law_475 : decode bc_W_law 475 = .ok (.iload_n 3, 1) := by decide +kernel
theorem dc_W_law_476 : decode bc_W_law 476 = .ok (.iconst 4, 1) := by decide +kernel
theorem dc_W_law_477 : decode bc_W_law 477 = .ok (.iadd, 1) := by decide +kernel
theorem dc_W_law_478 : decode bc_W_law 478 = .ok (.iaload, 1) := by decide +kernel
theorem dc_W_law_479 : decode bc_W_law 479 = .ok (.i2l, 1) := by decide +kernel
theorem dc_W_law_480 : decode bc_W_law 480 = .ok (.ldc2_w 13, 3) := by decide +kernel
theorem dc_W_law_483 : decode bc_W_law 483 = .ok (.land, 1) := by decide +kernel
theorem dc_W_law_484 : decode bc_W_law 484 = .ok (.lor, 1) := by decide +kernel
theorem dc_W_law_485 : decode bc_W_law 485 = .ok (.aload_n 0, 1) := by decide +kernel
theorem dc_W_law_486 : decode bc_W_law 486 = .ok (.iload_n 3, 1) := by decide +kernel
theorem dc_W_law_487 : decode bc_W_law 487 = .ok (.iconst 5, 1) := by decide +kernel
theorem dc_W_law_488 : decode bc_W_law 488 = .ok (.iadd, 1) := by decide +kernel
theorem dc_W_law_489 : decode bc_W_law 489 = .ok (.iaload, 1) := by decide +kernel
theorem dc_W_law_490 : decode bc_W_law 490 = .ok (.aload_n 0, 1) := by decide +kernel
theorem dc_W_law_491 : decode bc_W_law 491 = .ok (.iload_n 3, 1) := by decide +kernel
theorem dc_W_law_492 : decode bc_W_law 492 = .ok (.bipush 6, 2) := by decide +kernel
theorem dc_W_law_494 : decode bc_W_law 494 = .ok (.iadd, 1) := by decide +kernel
theorem dc_W_law_495 : decode bc_W_law 495 = .ok (.iaload, 1) := by decide +kernel
theorem dc_W_law_496 : decode bc_W_law 496 = .ok (.invokevirtual 49, 3) := by decide +kernel
theorem dc_W_law_499 : decode bc_W_law 499 = .ok (.aload_n 2, 1) := by decide +kernel
theorem dc_W_law_500 : decode bc_W_law 500 = .ok (.aload_n 0, 1) := by decide +kernel
theorem dc_W_law_501 : decode bc_W_law 501 = .ok (.iload_n 3, 1) := by decide +kernel
theorem dc_W_law_502 : decode bc_W_law 502 = .ok (.iconst 1, 1) := by decide +kernel
theorem dc_W_law_503 : decode bc_W_law 503 = .ok (.iadd, 1) := by decide +kernel
theorem dc_W_law_504 : decode bc_W_law 504 = .ok (.iaload, 1) := by decide +kernel
theorem dc_W_law_505 : decode bc_W_law 505 = .ok (.aload_n 0, 1) := by decide +kernel
theorem dc_W_law_506 : decode bc_W_law 506 = .ok (.iload_n 3, 1) := by decide +kernel
theorem dc_W_law_507 : decode bc_W_law 507 = .ok (.iconst 2, 1) := by decide +kernel
theorem dc_W_law_508 : decode bc_W_law 508 = .ok (.iadd, 1) := by decide +kernel
theorem dc_W_law_509 : decode bc_W_law 509 = .ok (.iaload, 1) := by decide +kernel
theorem dc_W_law_510 : decode bc_W_law 510 = .ok (.aload_n 0, 1) := by decide +kernel
theorem dc_W_law_511 : decode bc_W_law 511 = .ok (.iload_n 3, 1) := by decide +kernel
theorem dc_W_law_512 : decode bc_W_law 512 = .ok (.iconst 3, 1) := by decide +kernel
theorem dc_W_law_513 : decode bc_W_law 513 = .ok (.iadd, 1) := by decide +kernel
theorem dc_W_law_514 : decode bc_W_law 514 = .ok (.iaload, 1) := by decide +kernel
theorem dc_W_law_515 : decode bc_W_law 515 = .ok (.i2l, 1) := by decide +kernel
theorem dc_W_law_516 : decode bc_W_law 516 = .ok (.bipush 32, 2) := by decide +kernel
theorem dc_W_law_518 : decode bc_W_law 518 = .ok (.lshl, 1) := by decide +kernel
theorem dc_W_law_519 : decode bc_W_law 519 = .ok (.aload_n 0, 1) := by decide +kernel
theorem dc_W_law_520 : decode bc_W_law 520 = .ok (.iload_n 3, 1) := by decide +kernel
theorem dc_W_law_521 : decode bc_W_law 521 = .ok (.iconst 4, 1) := by decide +kernel
theorem dc_W_law_522 : decode bc_W_law 522 = .ok (.iadd, 1) := by decide +kernel
theorem dc_W_law_523 : decode bc_W_law 523 = .ok (.iaload, 1) := by decide +kernel
theorem dc_W_law_524 : decode bc_W_law 524 = .ok (.i2l, 1) := by decide +kernel
theorem dc_W_law_525 : decode bc_W_law 525 = .ok (.ldc2_w 13, 3) := by decide +kernel
theorem dc_W_law_528 : decode bc_W_law 528 = .ok (.land, 1) := by decide +kernel
theorem dc_W_law_529 : decode bc_W_law 529 = .ok (.lor, 1) := by decide +kernel
theorem dc_W_law_530 : decode bc_W_law 530 = .ok (.aload_n 0, 1) := by decide +kernel
theorem dc_W_law_531 : decode bc_W_law 531 = .ok (.iload_n 3, 1) := by decide +kernel
theorem dc_W_law_532 : decode bc_W_law 532 = .ok (.iconst 5, 1) := by decide +kernel
theorem dc_W_law_533 : decode bc_W_law 533 = .ok (.iadd, 1) := by decide +kernel
theorem dc_W_law_534 : decode bc_W_law 534 = .ok (.iaload, 1) := by decide +kernel
theorem dc_W_law_535 : decode bc_W_law 535 = .ok (.aload_n 0, 1) := by decide +kernel
theorem dc_W_law_536 : decode bc_W_law 536 = .ok (.iload_n 3, 1) := by decide +kernel
theorem dc_W_law_537 : decode bc_W_law 537 = .ok (.bipush 6, 2) := by decide +kernel
theorem dc_W_law_539 : decode bc_W_law 539 = .ok (.iadd, 1) := by decide +kernel
theorem dc_W_law_540 : decode bc_W_law 540 = .ok (.iaload, 1) := by decide +kernel
theorem dc_W_law_541 : decode bc_W_law 541 = .ok (.invokevirtual 53, 3) := by decide +kernel
theorem dc_W_law_544 : decode bc_W_law 544 = .ok (.if_icmp .eq 811, 3) := by decide +kernel
theorem dc_W_law_547 : decode bc_W_law 547 = .ok (.iconst 0, 1) := by decide +kernel
theorem dc_W_law_548 : decode bc_W_law 548 = .ok (.ireturn, 1) := by decide +kernel
theorem dc_W_law_549 : decode bc_W_law 549 = .ok (.aload_n 1, 1) := by decide +kernel
theorem dc_W_law_550 : decode bc_W_law 550 = .ok (.aload_n 0, 1) := by decide +kernel
theorem dc_W_law_551 : decode bc_W_law 551 = .ok (.iload_n 3, 1) := by decide +kernel
theorem dc_W_law_552 : decode bc_W_law 552 = .ok (.iconst 1, 1) := by decide +kernel
theorem dc_W_law_553 : decode bc_W_law 553 = .ok (.iadd, 1) := by decide +kernel
theorem dc_W_law_554 : decode bc_W_law 554 = .ok (.iaload, 1) := by decide +kernel
theorem dc_W_law_555 : decode bc_W_law 555 = .ok (.aload_n 0, 1) := by decide +kernel
theorem dc_W_law_556 : decode bc_W_law 556 = .ok (.iload_n 3, 1) := by decide +kernel
theorem dc_W_law_557 : decode bc_W_law 557 = .ok (.iconst 2, 1) := by decide +kernel
theorem dc_W_law_558 : decode bc_W_law 558 = .ok (.iadd, 1) := by decide +kernel
theorem dc_W_law_559 : decode bc_W_law 559 = .ok (.iaload, 1) := by decide +kernel
theorem dc_W_law_560 : decode bc_W_law 560 = .ok (.aload_n 0, 1) := by decide +kernel
theorem dc_W_law_561 : decode bc_W_law 561 = .ok (.iload_n 3, 1) := by decide +kernel
theorem dc_W_law_562 : decode bc_W_law 562 = .ok (.iconst 3, 1) := by decide +kernel
theorem dc_W_law_563 : decode bc_W_law 563 = .ok (.iadd, 1) := by decide +kernel
theorem dc_W_law_564 : decode bc_W_law 564 = .ok (.iaload, 1) := by decide +kernel
theorem dc_W_law_565 : decode bc_W_law 565 = .ok (.invokevirtual 54, 3) := by decide +kernel
theorem dc_W_law_568 : decode bc_W_law 568 = .ok (.aload_n 2, 1) := by decide +kernel
theorem dc_W_law_569 : decode bc_W_law 569 = .ok (.aload_n 0, 1) := by decide +kernel
theorem dc_W_law_570 : decode bc_W_law 570 = .ok (.iload_n 3, 1) := by decide +kernel
theorem dc_W_law_571 : decode bc_W_law 571 = .ok (.iconst 1, 1) := by decide +kernel
theorem dc_W_law_572 : decode bc_W_law 572 = .ok (.iadd, 1) := by decide +kernel
theorem dc_W_law_573 : decode bc_W_law 573 = .ok (.iaload, 1) := by decide +kernel
theorem dc_W_law_574 : decode bc_W_law 574 = .ok (.aload_n 0, 1) := by decide +kernel
theorem dc_W_law_575 : decode bc_W_law 575 = .ok (.iload_n 3, 1) := by decide +kernel
theorem dc_W_law_576 : decode bc_W_law 576 = .ok (.iconst 2, 1) := by decide +kernel
theorem dc_W_law_577 : decode bc_W_law 577 = .ok (.iadd, 1) := by decide +kernel
theorem dc_W_law_578 : decode bc_W_law 578 = .ok (.iaload, 1) := by decide +kernel
theorem dc_W_law_579 : decode bc_W_law 579 = .ok (.aload_n 0, 1) := by decide +kernel
theorem dc_W_law_580 : decode bc_W_law 580 = .ok (.iload_n 3, 1) := by decide +kernel
theorem dc_W_law_581 : decode bc_W_law 581 = .ok (.iconst 3, 1) := by decide +kernel
theorem dc_W_law_582 : decode bc_W_law 582 = .ok (.iadd, 1) := by decide +kernel
theorem dc_W_law_583 : decode bc_W_law 583 = .ok (.iaload, 1) := by decide +kernel
theorem dc_W_law_584 : decode bc_W_law 584 = .ok (.invokevirtual 58, 3) := by decide +kernel
theorem dc_W_law_587 : decode bc_W_law 587 = .ok (.lcmp, 1) := by decide +kernel
theorem dc_W_law_588 : decode bc_W_law 588 = .ok (.ifCond .eq 767, 3) := by decide +kernel
theorem dc_W_law_591 : decode bc_W_law 591 = .ok (.iconst 0, 1) := by decide +kernel
theorem dc_W_law_592 : decode bc_W_law 592 = .ok (.ireturn, 1) := by decide +kernel
theorem dc_W_law_593 : decode bc_W_law 593 = .ok (.aload_n 1, 1) := by decide +kernel
theorem dc_W_law_594 : decode bc_W_law 594 = .ok (.aload_n 0, 1) := by decide +kernel
theorem dc_W_law_595 : decode bc_W_law 595 = .ok (.iload_n 3, 1) := by decide +kernel
theorem dc_W_law_596 : decode bc_W_law 596 = .ok (.iconst 1, 1) := by decide +kernel
theorem dc_W_law_597 : decode bc_W_law 597 = .ok (.iadd, 1) := by decide +kernel
theorem dc_W_law_598 : decode bc_W_law 598 = .ok (.iaload, 1) := by decide +kernel
theorem dc_W_law_599 : decode bc_W_law 599 = .ok (.aload_n 0, 1) := by decide +kernel
theorem dc_W_law_600 : decode bc_W_law 600 = .ok (.iload_n 3, 1) := by decide +kernel
theorem dc_W_law_601 : decode bc_W_law 601 = .ok (.iconst 2, 1) := by decide +kernel
theorem dc_W_law_602 : decode bc_W_law 602 = .ok (.iadd, 1) := by decide +kernel
theorem dc_W_law_603 : decode bc_W_law 603 = .ok (.iaload, 1) := by decide +kernel
theorem dc_W_law_604 : decode bc_W_law 604 = .ok (.aload_n 0, 1) := by decide +kernel
theorem dc_W_law_605 : decode bc_W_law 605 = .ok (.iload_n 3, 1) := by decide +kernel
theorem dc_W_law_606 : decode bc_W_law 606 = .ok (.iconst 3, 1) := by decide +kernel
theorem dc_W_law_607 : decode bc_W_law 607 = .ok (.iadd, 1) := by decide +kernel
theorem dc_W_law_608 : decode bc_W_law 608 = .ok (.iaload, 1) := by decide +kernel
theorem dc_W_law_609 : decode bc_W_law 609 = .ok (.aload_n 0, 1) := by decide +kernel
theorem dc_W_law_610 : decode bc_W_law 610 = .ok (.iload_n 3, 1) := by decide +kernel
theorem dc_W_law_611 : decode bc_W_law 611 = .ok (.iconst 4, 1) := by decide +kernel
theorem dc_W_law_612 : decode bc_W_law 612 = .ok (.iadd, 1) := by decide +kernel
theorem dc_W_law_613 : decode bc_W_law 613 = .ok (.iaload, 1) := by decide +kernel
theorem dc_W_law_614 : decode bc_W_law 614 = .ok (.i2l, 1) := by decide +kernel
theorem dc_W_law_615 : decode bc_W_law 615 = .ok (.bipush 32, 2) := by decide +kernel
theorem dc_W_law_617 : decode bc_W_law 617 = .ok (.lshl, 1) := by decide +kernel
theorem dc_W_law_618 : decode bc_W_law 618 = .ok (.aload_n 0, 1) := by decide +kernel
theorem dc_W_law_619 : decode bc_W_law 619 = .ok (.iload_n 3, 1) := by decide +kernel
theorem dc_W_law_620 : decode bc_W_law 620 = .ok (.iconst 5, 1) := by decide +kernel
theorem dc_W_law_621 : decode bc_W_law 621 = .ok (.iadd, 1) := by decide +kernel
theorem dc_W_law_622 : decode bc_W_law 622 = .ok (.iaload, 1) := by decide +kernel
theorem dc_W_law_623 : decode bc_W_law 623 = .ok (.i2l, 1) := by decide +kernel
theorem dc_W_law_624 : decode bc_W_law 624 = .ok (.ldc2_w 13, 3) := by decide +kernel
theorem dc_W_law_627 : decode bc_W_law 627 = .ok (.land, 1) := by decide +kernel
theorem dc_W_law_628 : decode bc_W_law 628 = .ok (.lor, 1) := by decide +kernel
theorem dc_W_law_629 : decode bc_W_law 629 = .ok (.invokevirtual 59, 3) := by decide +kernel
theorem dc_W_law_632 : decode bc_W_law 632 = .ok (.aload_n 2, 1) := by decide +kernel
theorem dc_W_law_633 : decode bc_W_law 633 = .ok (.aload_n 0, 1) := by decide +kernel
theorem dc_W_law_634 : decode bc_W_law 634 = .ok (.iload_n 3, 1) := by decide +kernel
theorem dc_W_law_635 : decode bc_W_law 635 = .ok (.iconst 1, 1) := by decide +kernel
theorem dc_W_law_636 : decode bc_W_law 636 = .ok (.iadd, 1) := by decide +kernel
theorem dc_W_law_637 : decode bc_W_law 637 = .ok (.iaload, 1) := by decide +kernel
theorem dc_W_law_638 : decode bc_W_law 638 = .ok (.aload_n 0, 1) := by decide +kernel
theorem dc_W_law_639 : decode bc_W_law 639 = .ok (.iload_n 3, 1) := by decide +kernel
theorem dc_W_law_640 : decode bc_W_law 640 = .ok (.iconst 2, 1) := by decide +kernel
theorem dc_W_law_641 : decode bc_W_law 641 = .ok (.iadd, 1) := by decide +kernel
theorem dc_W_law_642 : decode bc_W_law 642 = .ok (.iaload, 1) := by decide +kernel
theorem dc_W_law_643 : decode bc_W_law 643 = .ok (.aload_n 0, 1) := by decide +kernel
theorem dc_W_law_644 : decode bc_W_law 644 = .ok (.iload_n 3, 1) := by decide +kernel
theorem dc_W_law_645 : decode bc_W_law 645 = .ok (.iconst 3, 1) := by decide +kernel
theorem dc_W_law_646 : decode bc_W_law 646 = .ok (.iadd, 1) := by decide +kernel
theorem dc_W_law_647 : decode bc_W_law 647 = .ok (.iaload, 1) := by decide +kernel
theorem dc_W_law_648 : decode bc_W_law 648 = .ok (.aload_n 0, 1) := by decide +kernel
theorem dc_W_law_649 : decode bc_W_law 649 = .ok (.iload_n 3, 1) := by decide +kernel
theorem dc_W_law_650 : decode bc_W_law 650 = .ok (.iconst 4, 1) := by decide +kernel
theorem dc_W_law_651 : decode bc_W_law 651 = .ok (.iadd, 1) := by decide +kernel
theorem dc_W_law_652 : decode bc_W_law 652 = .ok (.iaload, 1) := by decide +kernel
theorem dc_W_law_653 : decode bc_W_law 653 = .ok (.i2l, 1) := by decide +kernel
theorem dc_W_law_654 : decode bc_W_law 654 = .ok (.bipush 32, 2) := by decide +kernel
theorem dc_W_law_656 : decode bc_W_law 656 = .ok (.lshl, 1) := by decide +kernel
theorem dc_W_law_657 : decode bc_W_law 657 = .ok (.aload_n 0, 1) := by decide +kernel
theorem dc_W_law_658 : decode bc_W_law 658 = .ok (.iload_n 3, 1) := by decide +kernel
theorem dc_W_law_659 : decode bc_W_law 659 = .ok (.iconst 5, 1) := by decide +kernel
theorem dc_W_law_660 : decode bc_W_law 660 = .ok (.iadd, 1) := by decide +kernel
theorem dc_W_law_661 : decode bc_W_law 661 = .ok (.iaload, 1) := by decide +kernel
theorem dc_W_law_662 : decode bc_W_law 662 = .ok (.i2l, 1) := by decide +kernel
theorem dc_W_law_663 : decode bc_W_law 663 = .ok (.ldc2_w 13, 3) := by decide +kernel
theorem dc_W_law_666 : decode bc_W_law 666 = .ok (.land, 1) := by decide +kernel
theorem dc_W_law_667 : decode bc_W_law 667 = .ok (.lor, 1) := by decide +kernel
theorem dc_W_law_668 : decode bc_W_law 668 = .ok (.invokevirtual 63, 3) := by decide +kernel
theorem dc_W_law_671 : decode bc_W_law 671 = .ok (.if_icmp .eq 684, 3) := by decide +kernel
theorem dc_W_law_674 : decode bc_W_law 674 = .ok (.iconst 0, 1) := by decide +kernel
theorem dc_W_law_675 : decode bc_W_law 675 = .ok (.ireturn, 1) := by decide +kernel
theorem dc_W_law_676 : decode bc_W_law 676 = .ok (.aload_n 1, 1) := by decide +kernel
theorem dc_W_law_677 : decode bc_W_law 677 = .ok (.aload_n 0, 1) := by decide +kernel
theorem dc_W_law_678 : decode bc_W_law 678 = .ok (.iload_n 3, 1) := by decide +kernel
theorem dc_W_law_679 : decode bc_W_law 679 = .ok (.iconst 1, 1) := by decide +kernel
theorem dc_W_law_680 : decode bc_W_law 680 = .ok (.iadd, 1) := by decide +kernel
theorem dc_W_law_681 : decode bc_W_law 681 = .ok (.iaload, 1) := by decide +kernel
theorem dc_W_law_682 : decode bc_W_law 682 = .ok (.aload_n 0, 1) := by decide +kernel
theorem dc_W_law_683 : decode bc_W_law 683 = .ok (.iload_n 3, 1) := by decide +kernel
theorem dc_W_law_684 : decode bc_W_law 684 = .ok (.iconst 2, 1) := by decide +kernel
theorem dc_W_law_685 : decode bc_W_law 685 = .ok (.iadd, 1) := by decide +kernel
theorem dc_W_law_686 : decode bc_W_law 686 = .ok (.iaload, 1) := by decide +kernel
theorem dc_W_law_687 : decode bc_W_law 687 = .ok (.aload_n 0, 1) := by decide +kernel
theorem dc_W_law_688 : decode bc_W_law 688 = .ok (.iload_n 3, 1) := by decide +kernel
theorem dc_W_law_689 : decode bc_W_law 689 = .ok (.iconst 3, 1) := by decide +kernel
theorem dc_W_law_690 : decode bc_W_law 690 = .ok (.iadd, 1) := by decide +kernel
theorem dc_W_law_691 : decode bc_W_law 691 = .ok (.iaload, 1) := by decide +kernel
theorem dc_W_law_692 : decode bc_W_law 692 = .ok (.aload_n 0, 1) := by decide +kernel
theorem dc_W_law_693 : decode bc_W_law 693 = .ok (.iload_n 3, 1) := by decide +kernel
theorem dc_W_law_694 : decode bc_W_law 694 = .ok (.iconst 4, 1) := by decide +kernel
theorem dc_W_law_695 : decode bc_W_law 695 = .ok (.iadd, 1) := by decide +kernel
theorem dc_W_law_696 : decode bc_W_law 696 = .ok (.iaload, 1) := by decide +kernel
theorem dc_W_law_697 : decode bc_W_law 697 = .ok (.aload_n 0, 1) := by decide +kernel
theorem dc_W_law_698 : decode bc_W_law 698 = .ok (.iload_n 3, 1) := by decide +kernel
theorem dc_W_law_699 : decode bc_W_law 699 = .ok (.iconst 5, 1) := by decide +kernel
theorem dc_W_law_700 : decode bc_W_law 700 = .ok (.iadd, 1) := by decide +kernel
theorem dc_W_law_701 : decode bc_W_law 701 = .ok (.iaload, 1) := by decide +kernel
theorem dc_W_law_702 : decode bc_W_law 702 = .ok (.aload_n 0, 1) := by decide +kernel
theorem dc_W_law_703 : decode bc_W_law 703 = .ok (.iload_n 3, 1) := by decide +kernel
theorem dc_W_law_704 : decode bc_W_law 704 = .ok (.bipush 6, 2) := by decide +kernel
theorem dc_W_law_706 : decode bc_W_law 706 = .ok (.iadd, 1) := by decide +kernel
theorem dc_W_law_707 : decode bc_W_law 707 = .ok (.iaload, 1) := by decide +kernel
theorem dc_W_law_708 : decode bc_W_law 708 = .ok (.i2l, 1) := by decide +kernel
theorem dc_W_law_709 : decode bc_W_law 709 = .ok (.bipush 32, 2) := by decide +kernel
theorem dc_W_law_711 : decode bc_W_law 711 = .ok (.lshl, 1) := by decide +kernel
theorem dc_W_law_712 : decode bc_W_law 712 = .ok (.aload_n 0, 1) := by decide +kernel
theorem dc_W_law_713 : decode bc_W_law 713 = .ok (.iload_n 3, 1) := by decide +kernel
theorem dc_W_law_714 : decode bc_W_law 714 = .ok (.bipush 7, 2) := by decide +kernel
theorem dc_W_law_716 : decode bc_W_law 716 = .ok (.iadd, 1) := by decide +kernel
theorem dc_W_law_717 : decode bc_W_law 717 = .ok (.iaload, 1) := by decide +kernel
theorem dc_W_law_718 : decode bc_W_law 718 = .ok (.i2l, 1) := by decide +kernel
theorem dc_W_law_719 : decode bc_W_law 719 = .ok (.ldc2_w 13, 3) := by decide +kernel
theorem dc_W_law_722 : decode bc_W_law 722 = .ok (.land, 1) := by decide +kernel
theorem dc_W_law_723 : decode bc_W_law 723 = .ok (.lor, 1) := by decide +kernel
theorem dc_W_law_724 : decode bc_W_law 724 = .ok (.invokevirtual 64, 3) := by decide +kernel
theorem dc_W_law_727 : decode bc_W_law 727 = .ok (.aload_n 2, 1) := by decide +kernel
theorem dc_W_law_728 : decode bc_W_law 728 = .ok (.aload_n 0, 1) := by decide +kernel
theorem dc_W_law_729 : decode bc_W_law 729 = .ok (.iload_n 3, 1) := by decide +kernel
theorem dc_W_law_730 : decode bc_W_law 730 = .ok (.iconst 1, 1) := by decide +kernel
theorem dc_W_law_731 : decode bc_W_law 731 = .ok (.iadd, 1) := by decide +kernel
theorem dc_W_law_732 : decode bc_W_law 732 = .ok (.iaload, 1) := by decide +kernel
theorem dc_W_law_733 : decode bc_W_law 733 = .ok (.aload_n 0, 1) := by decide +kernel
theorem dc_W_law_734 : decode bc_W_law 734 = .ok (.iload_n 3, 1) := by decide +kernel
theorem dc_W_law_735 : decode bc_W_law 735 = .ok (.iconst 2, 1) := by decide +kernel
theorem dc_W_law_736 : decode bc_W_law 736 = .ok (.iadd, 1) := by decide +kernel
theorem dc_W_law_737 : decode bc_W_law 737 = .ok (.iaload, 1) := by decide +kernel
theorem dc_W_law_738 : decode bc_W_law 738 = .ok (.aload_n 0, 1) := by decide +kernel
theorem dc_W_law_739 : decode bc_W_law 739 = .ok (.iload_n 3, 1) := by decide +kernel
theorem dc_W_law_740 : decode bc_W_law 740 = .ok (.iconst 3, 1) := by decide +kernel
theorem dc_W_law_741 : decode bc_W_law 741 = .ok (.iadd, 1) := by decide +kernel
theorem dc_W_law_742 : decode bc_W_law 742 = .ok (.iaload, 1) := by decide +kernel
theorem dc_W_law_743 : decode bc_W_law 743 = .ok (.aload_n 0, 1) := by decide +kernel
theorem dc_W_law_744 : decode bc_W_law 744 = .ok (.iload_n 3, 1) := by decide +kernel
theorem dc_W_law_745 : decode bc_W_law 745 = .ok (.iconst 4, 1) := by decide +kernel
theorem dc_W_law_746 : decode bc_W_law 746 = .ok (.iadd, 1) := by decide +kernel
theorem dc_W_law_747 : decode bc_W_law 747 = .ok (.iaload, 1) := by decide +kernel
theorem dc_W_law_748 : decode bc_W_law 748 = .ok (.aload_n 0, 1) := by decide +kernel

theorem d_La_law_451 : decode b_La_law 451 = .ok (.ireturn, 1) := by decide +kernel
theorem d_La_law_452 : decode b_La_law 452 = .ok (.goto 435, 3) := by decide +kernel
theorem d_La_law_455 : decode b_La_law 455 = .ok (.aload_n 1, 1) := by decide +kernel
theorem d_La_law_456 : decode b_La_law 456 = .ok (.aload_n 0, 1) := by decide +kernel
theorem d_La_law_457 : decode b_La_law 457 = .ok (.iload 4, 2) := by decide +kernel
theorem d_La_law_459 : decode b_La_law 459 = .ok (.iconst 1, 1) := by decide +kernel
theorem d_La_law_460 : decode b_La_law 460 = .ok (.iadd, 1) := by decide +kernel
theorem d_La_law_461 : decode b_La_law 461 = .ok (.iaload, 1) := by decide +kernel
theorem d_La_law_462 : decode b_La_law 462 = .ok (.aload_n 0, 1) := by decide +kernel
theorem d_La_law_463 : decode b_La_law 463 = .ok (.iload 4, 2) := by decide +kernel
theorem d_La_law_465 : decode b_La_law 465 = .ok (.iconst 2, 1) := by decide +kernel
theorem d_La_law_466 : decode b_La_law 466 = .ok (.iadd, 1) := by decide +kernel
theorem d_La_law_467 : decode b_La_law 467 = .ok (.iaload, 1) := by decide +kernel
theorem d_La_law_468 : decode b_La_law 468 = .ok (.invokestatic 97, 3) := by decide +kernel
theorem d_La_law_471 : decode b_La_law 471 = .ok (.istore 5, 2) := by decide +kernel
theorem d_La_law_473 : decode b_La_law 473 = .ok (.aload_n 2, 1) := by decide +kernel
theorem d_La_law_474 : decode b_La_law 474 = .ok (.aload_n 0, 1) := by decide +kernel
theorem d_La_law_475 : decode b_La_law 475 = .ok (.iload 4, 2) := by decide +kernel
theorem d_La_law_477 : decode b_La_law 477 = .ok (.iconst 1, 1) := by decide +kernel
theorem d_La_law_478 : decode b_La_law 478 = .ok (.iadd, 1) := by decide +kernel
theorem d_La_law_479 : decode b_La_law 479 = .ok (.iaload, 1) := by decide +kernel
theorem d_La_law_480 : decode b_La_law 480 = .ok (.aload_n 0, 1) := by decide +kernel
theorem d_La_law_481 : decode b_La_law 481 = .ok (.iload 4, 2) := by decide +kernel
theorem d_La_law_483 : decode b_La_law 483 = .ok (.iconst 2, 1) := by decide +kernel
theorem d_La_law_484 : decode b_La_law 484 = .ok (.iadd, 1) := by decide +kernel
theorem d_La_law_485 : decode b_La_law 485 = .ok (.iaload, 1) := by decide +kernel
theorem d_La_law_486 : decode b_La_law 486 = .ok (.invokevirtual 99, 3) := by decide +kernel
theorem d_La_law_489 : decode b_La_law 489 = .ok (.aload_n 2, 1) := by decide +kernel
theorem d_La_law_490 : decode b_La_law 490 = .ok (.invokevirtual 73, 3) := by decide +kernel
theorem d_La_law_493 : decode b_La_law 493 = .ok (.iload 5, 2) := by decide +kernel
theorem d_La_law_495 : decode b_La_law 495 = .ok (.if_icmp .eq 5, 3) := by decide +kernel
theorem d_La_law_498 : decode b_La_law 498 = .ok (.iconst 0, 1) := by decide +kernel
theorem d_La_law_499 : decode b_La_law 499 = .ok (.ireturn, 1) := by decide +kernel
theorem d_La_law_500 : decode b_La_law 500 = .ok (.goto 387, 3) := by decide +kernel
theorem d_La_law_503 : decode b_La_law 503 = .ok (.aload_n 1, 1) := by decide +kernel
theorem d_La_law_504 : decode b_La_law 504 = .ok (.aload_n 0, 1) := by decide +kernel
theorem d_La_law_505 : decode b_La_law 505 = .ok (.iload 4, 2) := by decide +kernel
theorem d_La_law_507 : decode b_La_law 507 = .ok (.iconst 1, 1) := by decide +kernel
theorem d_La_law_508 : decode b_La_law 508 = .ok (.iadd, 1) := by decide +kernel
theorem d_La_law_509 : decode b_La_law 509 = .ok (.iaload, 1) := by decide +kernel
theorem d_La_law_510 : decode b_La_law 510 = .ok (.invokestatic 100, 3) := by decide +kernel
theorem d_La_law_513 : decode b_La_law 513 = .ok (.istore 5, 2) := by decide +kernel
theorem d_La_law_515 : decode b_La_law 515 = .ok (.aload_n 2, 1) := by decide +kernel
theorem d_La_law_516 : decode b_La_law 516 = .ok (.aload_n 0, 1) := by decide +kernel
theorem d_La_law_517 : decode b_La_law 517 = .ok (.iload 4, 2) := by decide +kernel
theorem d_La_law_519 : decode b_La_law 519 = .ok (.iconst 1, 1) := by decide +kernel
theorem d_La_law_520 : decode b_La_law 520 = .ok (.iadd, 1) := by decide +kernel
theorem d_La_law_521 : decode b_La_law 521 = .ok (.iaload, 1) := by decide +kernel
theorem d_La_law_522 : decode b_La_law 522 = .ok (.invokevirtual 103, 3) := by decide +kernel
theorem d_La_law_525 : decode b_La_law 525 = .ok (.aload_n 2, 1) := by decide +kernel
theorem d_La_law_526 : decode b_La_law 526 = .ok (.invokevirtual 73, 3) := by decide +kernel
theorem d_La_law_529 : decode b_La_law 529 = .ok (.iload 5, 2) := by decide +kernel
theorem d_La_law_531 : decode b_La_law 531 = .ok (.if_icmp .eq 5, 3) := by decide +kernel
theorem d_La_law_534 : decode b_La_law 534 = .ok (.iconst 0, 1) := by decide +kernel
theorem d_La_law_535 : decode b_La_law 535 = .ok (.ireturn, 1) := by decide +kernel
theorem d_La_law_536 : decode b_La_law 536 = .ok (.goto 351, 3) := by decide +kernel
theorem d_La_law_539 : decode b_La_law 539 = .ok (.aload_n 1, 1) := by decide +kernel
theorem d_La_law_540 : decode b_La_law 540 = .ok (.aload_n 0, 1) := by decide +kernel
theorem d_La_law_541 : decode b_La_law 541 = .ok (.iload 4, 2) := by decide +kernel
theorem d_La_law_543 : decode b_La_law 543 = .ok (.iconst 1, 1) := by decide +kernel
theorem d_La_law_544 : decode b_La_law 544 = .ok (.iadd, 1) := by decide +kernel
theorem d_La_law_545 : decode b_La_law 545 = .ok (.iaload, 1) := by decide +kernel
theorem d_La_law_546 : decode b_La_law 546 = .ok (.aload_n 0, 1) := by decide +kernel
theorem d_La_law_547 : decode b_La_law 547 = .ok (.iload 4, 2) := by decide +kernel
theorem d_La_law_549 : decode b_La_law 549 = .ok (.iconst 2, 1) := by decide +kernel
theorem d_La_law_550 : decode b_La_law 550 = .ok (.iadd, 1) := by decide +kernel
theorem d_La_law_551 : decode b_La_law 551 = .ok (.iaload, 1) := by decide +kernel
theorem d_La_law_552 : decode b_La_law 552 = .ok (.invokestatic 104, 3) := by decide +kernel
theorem d_La_law_555 : decode b_La_law 555 = .ok (.istore 5, 2) := by decide +kernel
theorem d_La_law_557 : decode b_La_law 557 = .ok (.aload_n 2, 1) := by decide +kernel
theorem d_La_law_558 : decode b_La_law 558 = .ok (.aload_n 0, 1) := by decide +kernel
theorem d_La_law_559 : decode b_La_law 559 = .ok (.iload 4, 2) := by decide +kernel
theorem d_La_law_561 : decode b_La_law 561 = .ok (.iconst 1, 1) := by decide +kernel
theorem d_La_law_562 : decode b_La_law 562 = .ok (.iadd, 1) := by decide +kernel
theorem d_La_law_563 : decode b_La_law 563 = .ok (.iaload, 1) := by decide +kernel
theorem d_La_law_564 : decode b_La_law 564 = .ok (.aload_n 0, 1) := by decide +kernel
theorem d_La_law_565 : decode b_La_law 565 = .ok (.iload 4, 2) := by decide +kernel
theorem d_La_law_567 : decode b_La_law 567 = .ok (.iconst 2, 1) := by decide +kernel
theorem d_La_law_568 : decode b_La_law 568 = .ok (.iadd, 1) := by decide +kernel
theorem d_La_law_569 : decode b_La_law 569 = .ok (.iaload, 1) := by decide +kernel
theorem d_La_law_570 : decode b_La_law 570 = .ok (.invokevirtual 106, 3) := by decide +kernel
theorem d_La_law_573 : decode b_La_law 573 = .ok (.aload_n 2, 1) := by decide +kernel
theorem d_La_law_574 : decode b_La_law 574 = .ok (.invokevirtual 73, 3) := by decide +kernel
theorem d_La_law_577 : decode b_La_law 577 = .ok (.iload 5, 2) := by decide +kernel
theorem d_La_law_579 : decode b_La_law 579 = .ok (.if_icmp .eq 5, 3) := by decide +kernel
theorem d_La_law_582 : decode b_La_law 582 = .ok (.iconst 0, 1) := by decide +kernel
theorem d_La_law_583 : decode b_La_law 583 = .ok (.ireturn, 1) := by decide +kernel
theorem d_La_law_584 : decode b_La_law 584 = .ok (.goto 303, 3) := by decide +kernel
theorem d_La_law_587 : decode b_La_law 587 = .ok (.aload_n 1, 1) := by decide +kernel
theorem d_La_law_588 : decode b_La_law 588 = .ok (.aload_n 0, 1) := by decide +kernel
theorem d_La_law_589 : decode b_La_law 589 = .ok (.iload 4, 2) := by decide +kernel
theorem d_La_law_591 : decode b_La_law 591 = .ok (.iconst 1, 1) := by decide +kernel
theorem d_La_law_592 : decode b_La_law 592 = .ok (.iadd, 1) := by decide +kernel
theorem d_La_law_593 : decode b_La_law 593 = .ok (.iaload, 1) := by decide +kernel
theorem d_La_law_594 : decode b_La_law 594 = .ok (.aload_n 0, 1) := by decide +kernel
theorem d_La_law_595 : decode b_La_law 595 = .ok (.iload 4, 2) := by decide +kernel
theorem d_La_law_597 : decode b_La_law 597 = .ok (.iconst 2, 1) := by decide +kernel
theorem d_La_law_598 : decode b_La_law 598 = .ok (.iadd, 1) := by decide +kernel
theorem d_La_law_599 : decode b_La_law 599 = .ok (.iaload, 1) := by decide +kernel
theorem d_La_law_600 : decode b_La_law 600 = .ok (.invokestatic 107, 3) := by decide +kernel
theorem d_La_law_603 : decode b_La_law 603 = .ok (.istore 5, 2) := by decide +kernel
theorem d_La_law_605 : decode b_La_law 605 = .ok (.aload_n 2, 1) := by decide +kernel
theorem d_La_law_606 : decode b_La_law 606 = .ok (.aload_n 0, 1) := by decide +kernel
theorem d_La_law_607 : decode b_La_law 607 = .ok (.iload 4, 2) := by decide +kernel
theorem d_La_law_609 : decode b_La_law 609 = .ok (.iconst 1, 1) := by decide +kernel
theorem d_La_law_610 : decode b_La_law 610 = .ok (.iadd, 1) := by decide +kernel
theorem d_La_law_611 : decode b_La_law 611 = .ok (.iaload, 1) := by decide +kernel
theorem d_La_law_612 : decode b_La_law 612 = .ok (.aload_n 0, 1) := by decide +kernel
theorem d_La_law_613 : decode b_La_law 613 = .ok (.iload 4, 2) := by decide +kernel
theorem d_La_law_615 : decode b_La_law 615 = .ok (.iconst 2, 1) := by decide +kernel
theorem d_La_law_616 : decode b_La_law 616 = .ok (.iadd, 1) := by decide +kernel
theorem d_La_law_617 : decode b_La_law 617 = .ok (.iaload, 1) := by decide +kernel
theorem d_La_law_618 : decode b_La_law 618 = .ok (.invokevirtual 109, 3) := by decide +kernel
theorem d_La_law_621 : decode b_La_law 621 = .ok (.aload_n 2, 1) := by decide +kernel
theorem d_La_law_622 : decode b_La_law 622 = .ok (.invokevirtual 73, 3) := by decide +kernel
theorem d_La_law_625 : decode b_La_law 625 = .ok (.iload 5, 2) := by decide +kernel
theorem d_La_law_627 : decode b_La_law 627 = .ok (.if_icmp .eq 5, 3) := by decide +kernel
theorem d_La_law_630 : decode b_La_law 630 = .ok (.iconst 0, 1) := by decide +kernel
theorem d_La_law_631 : decode b_La_law 631 = .ok (.ireturn, 1) := by decide +kernel
theorem d_La_law_632 : decode b_La_law 632 = .ok (.goto 255, 3) := by decide +kernel
theorem d_La_law_635 : decode b_La_law 635 = .ok (.aload_n 1, 1) := by decide +kernel
theorem d_La_law_636 : decode b_La_law 636 = .ok (.invokevirtual 110, 3) := by decide +kernel
theorem d_La_law_639 : decode b_La_law 639 = .ok (.aload_n 2, 1) := by decide +kernel
theorem d_La_law_640 : decode b_La_law 640 = .ok (.invokevirtual 113, 3) := by decide +kernel
theorem d_La_law_643 : decode b_La_law 643 = .ok (.if_icmp .eq 244, 3) := by decide +kernel
theorem d_La_law_646 : decode b_La_law 646 = .ok (.iconst 0, 1) := by decide +kernel
theorem d_La_law_647 : decode b_La_law 647 = .ok (.ireturn, 1) := by decide +kernel
theorem d_La_law_648 : decode b_La_law 648 = .ok (.aload_n 1, 1) := by decide +kernel
theorem d_La_law_649 : decode b_La_law 649 = .ok (.invokevirtual 114, 3) := by decide +kernel
theorem d_La_law_652 : decode b_La_law 652 = .ok (.aload_n 2, 1) := by decide +kernel
theorem d_La_law_653 : decode b_La_law 653 = .ok (.invokevirtual 117, 3) := by decide +kernel
theorem d_La_law_656 : decode b_La_law 656 = .ok (.if_icmp .eq 231, 3) := by decide +kernel
theorem d_La_law_659 : decode b_La_law 659 = .ok (.iconst 0, 1) := by decide +kernel
theorem d_La_law_660 : decode b_La_law 660 = .ok (.ireturn, 1) := by decide +kernel
theorem d_La_law_661 : decode b_La_law 661 = .ok (.aload_n 1, 1) := by decide +kernel
theorem d_La_law_662 : decode b_La_law 662 = .ok (.aload_n 0, 1) := by decide +kernel
theorem d_La_law_663 : decode b_La_law 663 = .ok (.iload 4, 2) := by decide +kernel
theorem d_La_law_665 : decode b_La_law 665 = .ok (.iconst 1, 1) := by decide +kernel
theorem d_La_law_666 : decode b_La_law 666 = .ok (.iadd, 1) := by decide +kernel
theorem d_La_law_667 : decode b_La_law 667 = .ok (.iaload, 1) := by decide +kernel
theorem d_La_law_668 : decode b_La_law 668 = .ok (.aload_n 3, 1) := by decide +kernel
theorem d_La_law_669 : decode b_La_law 669 = .ok (.invokestatic 118, 3) := by decide +kernel
theorem d_La_law_672 : decode b_La_law 672 = .ok (.istore 5, 2) := by decide +kernel
theorem d_La_law_674 : decode b_La_law 674 = .ok (.aload_n 2, 1) := by decide +kernel
theorem d_La_law_675 : decode b_La_law 675 = .ok (.aload_n 0, 1) := by decide +kernel
theorem d_La_law_676 : decode b_La_law 676 = .ok (.iload 4, 2) := by decide +kernel
theorem d_La_law_678 : decode b_La_law 678 = .ok (.iconst 1, 1) := by decide +kernel
theorem d_La_law_679 : decode b_La_law 679 = .ok (.iadd, 1) := by decide +kernel
theorem d_La_law_680 : decode b_La_law 680 = .ok (.iaload, 1) := by decide +kernel
theorem d_La_law_681 : decode b_La_law 681 = .ok (.invokevirtual 120, 3) := by decide +kernel
theorem d_La_law_684 : decode b_La_law 684 = .ok (.istore 6, 2) := by decide +kernel
theorem d_La_law_686 : decode b_La_law 686 = .ok (.aload_n 2, 1) := by decide +kernel
theorem d_La_law_687 : decode b_La_law 687 = .ok (.invokevirtual 73, 3) := by decide +kernel
theorem d_La_law_690 : decode b_La_law 690 = .ok (.iload 5, 2) := by decide +kernel
theorem d_La_law_692 : decode b_La_law 692 = .ok (.if_icmp .eq 5, 3) := by decide +kernel
theorem d_La_law_695 : decode b_La_law 695 = .ok (.iconst 0, 1) := by decide +kernel
theorem d_La_law_696 : decode b_La_law 696 = .ok (.ireturn, 1) := by decide +kernel
theorem d_La_law_697 : decode b_La_law 697 = .ok (.iload 5, 2) := by decide +kernel
theorem d_La_law_699 : decode b_La_law 699 = .ok (.ifCond .ne 15, 3) := by decide +kernel
theorem d_La_law_702 : decode b_La_law 702 = .ok (.aload_n 3, 1) := by decide +kernel
theorem d_La_law_703 : decode b_La_law 703 = .ok (.iconst 0, 1) := by decide +kernel
theorem d_La_law_704 : decode b_La_law 704 = .ok (.laload, 1) := by decide +kernel
theorem d_La_law_705 : decode b_La_law 705 = .ok (.iload 6, 2) := by decide +kernel
theorem d_La_law_707 : decode b_La_law 707 = .ok (.i2l, 1) := by decide +kernel
theorem d_La_law_708 : decode b_La_law 708 = .ok (.lcmp, 1) := by decide +kernel
theorem d_La_law_709 : decode b_La_law 709 = .ok (.ifCond .eq 5, 3) := by decide +kernel
theorem d_La_law_712 : decode b_La_law 712 = .ok (.iconst 0, 1) := by decide +kernel
theorem d_La_law_713 : decode b_La_law 713 = .ok (.ireturn, 1) := by decide +kernel
theorem d_La_law_714 : decode b_La_law 714 = .ok (.goto 173, 3) := by decide +kernel
theorem d_La_law_717 : decode b_La_law 717 = .ok (.aload_n 1, 1) := by decide +kernel
theorem d_La_law_718 : decode b_La_law 718 = .ok (.invokevirtual 121, 3) := by decide +kernel
theorem d_La_law_721 : decode b_La_law 721 = .ok (.aload_n 2, 1) := by decide +kernel
theorem d_La_law_722 : decode b_La_law 722 = .ok (.invokevirtual 124, 3) := by decide +kernel
theorem d_La_law_725 : decode b_La_law 725 = .ok (.if_icmp .eq 162, 3) := by decide +kernel
theorem d_La_law_728 : decode b_La_law 728 = .ok (.iconst 0, 1) := by decide +kernel
theorem d_La_law_729 : decode b_La_law 729 = .ok (.ireturn, 1) := by decide +kernel
theorem d_La_law_730 : decode b_La_law 730 = .ok (.aload_n 1, 1) := by decide +kernel
theorem d_La_law_731 : decode b_La_law 731 = .ok (.invokevirtual 125, 3) := by decide +kernel
theorem d_La_law_734 : decode b_La_law 734 = .ok (.aload_n 2, 1) := by decide +kernel
theorem d_La_law_735 : decode b_La_law 735 = .ok (.invokevirtual 128, 3) := by decide +kernel
theorem d_La_law_738 : decode b_La_law 738 = .ok (.if_icmp .eq 149, 3) := by decide +kernel
theorem d_La_law_741 : decode b_La_law 741 = .ok (.iconst 0, 1) := by decide +kernel
theorem d_La_law_742 : decode b_La_law 742 = .ok (.ireturn, 1) := by decide +kernel
theorem d_La_law_743 : decode b_La_law 743 = .ok (.aload_n 1, 1) := by decide +kernel
theorem d_La_law_744 : decode b_La_law 744 = .ok (.aload_n 0, 1) := by decide +kernel
theorem d_La_law_745 : decode b_La_law 745 = .ok (.iload 4, 2) := by decide +kernel
theorem d_La_law_747 : decode b_La_law 747 = .ok (.iconst 1, 1) := by decide +kernel
theorem d_La_law_748 : decode b_La_law 748 = .ok (.iadd, 1) := by decide +kernel
theorem d_La_law_749 : decode b_La_law 749 = .ok (.iaload, 1) := by decide +kernel
theorem d_La_law_750 : decode b_La_law 750 = .ok (.aload_n 0, 1) := by decide +kernel
theorem d_La_law_751 : decode b_La_law 751 = .ok (.iload 4, 2) := by decide +kernel
theorem d_La_law_753 : decode b_La_law 753 = .ok (.iconst 2, 1) := by decide +kernel
theorem d_La_law_754 : decode b_La_law 754 = .ok (.iadd, 1) := by decide +kernel
theorem d_La_law_755 : decode b_La_law 755 = .ok (.iaload, 1) := by decide +kernel
theorem d_La_law_756 : decode b_La_law 756 = .ok (.aload_n 3, 1) := by decide +kernel
theorem d_La_law_757 : decode b_La_law 757 = .ok (.invokestatic 129, 3) := by decide +kernel
theorem d_La_law_760 : decode b_La_law 760 = .ok (.istore 5, 2) := by decide +kernel
theorem d_La_law_762 : decode b_La_law 762 = .ok (.aload_n 2, 1) := by decide +kernel
theorem d_La_law_763 : decode b_La_law 763 = .ok (.aload_n 0, 1) := by decide +kernel
theorem d_La_law_764 : decode b_La_law 764 = .ok (.iload 4, 2) := by decide +kernel
theorem d_La_law_766 : decode b_La_law 766 = .ok (.iconst 1, 1) := by decide +kernel
theorem d_La_law_767 : decode b_La_law 767 = .ok (.iadd, 1) := by decide +kernel
theorem d_La_law_768 : decode b_La_law 768 = .ok (.iaload, 1) := by decide +kernel
theorem d_La_law_769 : decode b_La_law 769 = .ok (.aload_n 0, 1) := by decide +kernel
theorem d_La_law_770 : decode b_La_law 770 = .ok (.iload 4, 2) := by decide +kernel
theorem d_La_law_772 : decode b_La_law 772 = .ok (.iconst 2, 1) := by decide +kernel
theorem d_La_law_773 : decode b_La_law 773 = .ok (.iadd, 1) := by decide +kernel
theorem d_La_law_774 : decode b_La_law 774 = .ok (.iaload, 1) := by decide +kernel
theorem d_La_law_775 : decode b_La_law 775 = .ok (.invokevirtual 132, 3) := by decide +kernel
theorem d_La_law_778 : decode b_La_law 778 = .ok (.istore 6, 2) := by decide +kernel
theorem d_La_law_780 : decode b_La_law 780 = .ok (.aload_n 2, 1) := by decide +kernel
theorem d_La_law_781 : decode b_La_law 781 = .ok (.invokevirtual 73, 3) := by decide +kernel
theorem d_La_law_784 : decode b_La_law 784 = .ok (.iload 5, 2) := by decide +kernel
theorem d_La_law_786 : decode b_La_law 786 = .ok (.if_icmp .eq 5, 3) := by decide +kernel
theorem d_La_law_789 : decode b_La_law 789 = .ok (.iconst 0, 1) := by decide +kernel
theorem d_La_law_790 : decode b_La_law 790 = .ok (.ireturn, 1) := by decide +kernel
theorem d_La_law_791 : decode b_La_law 791 = .ok (.iload 5, 2) := by decide +kernel
theorem d_La_law_793 : decode b_La_law 793 = .ok (.ifCond .ne 15, 3) := by decide +kernel
theorem d_La_law_796 : decode b_La_law 796 = .ok (.aload_n 3, 1) := by decide +kernel
theorem d_La_law_797 : decode b_La_law 797 = .ok (.iconst 0, 1) := by decide +kernel
theorem d_La_law_798 : decode b_La_law 798 = .ok (.laload, 1) := by decide +kernel
theorem d_La_law_799 : decode b_La_law 799 = .ok (.iload 6, 2) := by decide +kernel
theorem d_La_law_801 : decode b_La_law 801 = .ok (.i2l, 1) := by decide +kernel
theorem d_La_law_802 : decode b_La_law 802 = .ok (.lcmp, 1) := by decide +kernel
theorem d_La_law_803 : decode b_La_law 803 = .ok (.ifCond .eq 5, 3) := by decide +kernel
theorem d_La_law_806 : decode b_La_law 806 = .ok (.iconst 0, 1) := by decide +kernel
theorem d_La_law_807 : decode b_La_law 807 = .ok (.ireturn, 1) := by decide +kernel
theorem d_La_law_808 : decode b_La_law 808 = .ok (.goto 79, 3) := by decide +kernel
theorem d_La_law_811 : decode b_La_law 811 = .ok (.aload_n 1, 1) := by decide +kernel
theorem d_La_law_812 : decode b_La_law 812 = .ok (.invokevirtual 133, 3) := by decide +kernel
theorem d_La_law_815 : decode b_La_law 815 = .ok (.aload_n 2, 1) := by decide +kernel
theorem d_La_law_816 : decode b_La_law 816 = .ok (.invokevirtual 136, 3) := by decide +kernel
theorem d_La_law_819 : decode b_La_law 819 = .ok (.if_icmp .eq 68, 3) := by decide +kernel
theorem d_La_law_822 : decode b_La_law 822 = .ok (.iconst 0, 1) := by decide +kernel
theorem d_La_law_823 : decode b_La_law 823 = .ok (.ireturn, 1) := by decide +kernel
theorem d_La_law_824 : decode b_La_law 824 = .ok (.aload_n 1, 1) := by decide +kernel
theorem d_La_law_825 : decode b_La_law 825 = .ok (.aload_n 0, 1) := by decide +kernel
theorem d_La_law_826 : decode b_La_law 826 = .ok (.iload 4, 2) := by decide +kernel
theorem d_La_law_828 : decode b_La_law 828 = .ok (.iconst 1, 1) := by decide +kernel
theorem d_La_law_829 : decode b_La_law 829 = .ok (.iadd, 1) := by decide +kernel
theorem d_La_law_830 : decode b_La_law 830 = .ok (.iaload, 1) := by decide +kernel
theorem d_La_law_831 : decode b_La_law 831 = .ok (.aload_n 3, 1) := by decide +kernel
theorem d_La_law_832 : decode b_La_law 832 = .ok (.invokestatic 137, 3) := by decide +kernel
theorem d_La_law_835 : decode b_La_law 835 = .ok (.istore 5, 2) := by decide +kernel
theorem d_La_law_837 : decode b_La_law 837 = .ok (.aload_n 2, 1) := by decide +kernel
theorem d_La_law_838 : decode b_La_law 838 = .ok (.aload_n 0, 1) := by decide +kernel
theorem d_La_law_839 : decode b_La_law 839 = .ok (.iload 4, 2) := by decide +kernel
theorem d_La_law_841 : decode b_La_law 841 = .ok (.iconst 1, 1) := by decide +kernel
theorem d_La_law_842 : decode b_La_law 842 = .ok (.iadd, 1) := by decide +kernel
theorem d_La_law_843 : decode b_La_law 843 = .ok (.iaload, 1) := by decide +kernel
theorem d_La_law_844 : decode b_La_law 844 = .ok (.invokevirtual 139, 3) := by decide +kernel
theorem d_La_law_847 : decode b_La_law 847 = .ok (.istore 6, 2) := by decide +kernel
theorem d_La_law_849 : decode b_La_law 849 = .ok (.aload_n 2, 1) := by decide +kernel
theorem d_La_law_850 : decode b_La_law 850 = .ok (.invokevirtual 73, 3) := by decide +kernel
theorem d_La_law_853 : decode b_La_law 853 = .ok (.iload 5, 2) := by decide +kernel
theorem d_La_law_855 : decode b_La_law 855 = .ok (.if_icmp .eq 5, 3) := by decide +kernel
theorem d_La_law_858 : decode b_La_law 858 = .ok (.iconst 0, 1) := by decide +kernel
theorem d_La_law_859 : decode b_La_law 859 = .ok (.ireturn, 1) := by decide +kernel
theorem d_La_law_860 : decode b_La_law 860 = .ok (.iload 5, 2) := by decide +kernel
theorem d_La_law_862 : decode b_La_law 862 = .ok (.ifCond .ne 22, 3) := by decide +kernel
theorem d_La_law_865 : decode b_La_law 865 = .ok (.aload_n 3, 1) := by decide +kernel
theorem d_La_law_866 : decode b_La_law 866 = .ok (.iconst 0, 1) := by decide +kernel
theorem d_La_law_867 : decode b_La_law 867 = .ok (.laload, 1) := by decide +kernel
theorem d_La_law_868 : decode b_La_law 868 = .ok (.iload 6, 2) := by decide +kernel
theorem d_La_law_870 : decode b_La_law 870 = .ok (.ifCond .eq 7, 3) := by decide +kernel
theorem d_La_law_873 : decode b_La_law 873 = .ok (.lconst 1, 1) := by decide +kernel
theorem d_La_law_874 : decode b_La_law 874 = .ok (.goto 4, 3) := by decide +kernel
theorem d_La_law_877 : decode b_La_law 877 = .ok (.lconst 0, 1) := by decide +kernel
theorem d_La_law_878 : decode b_La_law 878 = .ok (.lcmp, 1) := by decide +kernel
theorem d_La_law_879 : decode b_La_law 879 = .ok (.ifCond .eq 5, 3) := by decide +kernel
theorem d_La_law_882 : decode b_La_law 882 = .ok (.iconst 0, 1) := by decide +kernel
theorem d_La_law_883 : decode b_La_law 883 = .ok (.ireturn, 1) := by decide +kernel
theorem d_La_law_884 : decode b_La_law 884 = .ok (.goto 3, 3) := by decide +kernel
theorem d_La_law_887 : decode b_La_law 887 = .ok (.iinc 4 3, 3) := by decide +kernel
theorem d_La_law_890 : decode b_La_law 890 = .ok (.goto (-867), 3) := by decide +kernel
theorem d_La_law_893 : decode b_La_law 893 = .ok (.iconst 1, 1) := by decide +kernel
theorem d_La_law_894 : decode b_La_law 894 = .ok (.ireturn, 1) := by decide +kernel

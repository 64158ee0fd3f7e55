theorem dX4_init_516 : decode cX4_init 516 = .ok (.bipush 30, 2) := by decide +kernel
theorem dX4_init_518 : decode cX4_init 518 = .ok (.sipush 180, 3) := by decide +kernel
theorem dX4_init_521 : decode cX4_init 521 = .ok (.iastore, 1) := by decide +kernel
theorem dX4_init_522 : decode cX4_init 522 = .ok (.dup, 1) := by decide +kernel
theorem dX4_init_523 : decode cX4_init 523 = .ok (.bipush 31, 2) := by decide +kernel
theorem dX4_init_525 : decode cX4_init 525 = .ok (.sipush 180, 3) := by decide +kernel
theorem dX4_init_528 : decode cX4_init 528 = .ok (.iastore, 1) := by decide +kernel
theorem dX4_init_529 : decode cX4_init 529 = .ok (.dup, 1) := by decide +kernel
theorem dX4_init_530 : decode cX4_init 530 = .ok (.bipush 32, 2) := by decide +kernel
theorem dX4_init_532 : decode cX4_init 532 = .ok (.sipush 180, 3) := by decide +kernel
theorem dX4_init_535 : decode cX4_init 535 = .ok (.iastore, 1) := by decide +kernel
theorem dX4_init_536 : decode cX4_init 536 = .ok (.dup, 1) := by decide +kernel
theorem dX4_init_537 : decode cX4_init 537 = .ok (.bipush 33, 2) := by decide +kernel
theorem dX4_init_539 : decode cX4_init 539 = .ok (.sipush 180, 3) := by decide +kernel
theorem dX4_init_542 : decode cX4_init 542 = .ok (.iastore, 1) := by decide +kernel
theorem dX4_init_543 : decode cX4_init 543 = .ok (.dup, 1) := by decide +kernel
theorem dX4_init_544 : decode cX4_init 544 = .ok (.bipush 34, 2) := by decide +kernel
theorem dX4_init_546 : decode cX4_init 546 = .ok (.sipush 180, 3) := by decide +kernel
theorem dX4_init_549 : decode cX4_init 549 = .ok (.iastore, 1) := by decide +kernel
theorem dX4_init_550 : decode cX4_init 550 = .ok (.dup, 1) := by decide +kernel
theorem dX4_init_551 : decode cX4_init 551 = .ok (.bipush 35, 2) := by decide +kernel
theorem dX4_init_553 : decode cX4_init 553 = .ok (.sipush 180, 3) := by decide +kernel
theorem dX4_init_556 : decode cX4_init 556 = .ok (.iastore, 1) := by decide +kernel
theorem dX4_init_557 : decode cX4_init 557 = .ok (.dup, 1) := by decide +kernel
theorem dX4_init_558 : decode cX4_init 558 = .ok (.bipush 36, 2) := by decide +kernel
theorem dX4_init_560 : decode cX4_init 560 = .ok (.sipush 180, 3) := by decide +kernel
theorem dX4_init_563 : decode cX4_init 563 = .ok (.iastore, 1) := by decide +kernel
theorem dX4_init_564 : decode cX4_init 564 = .ok (.dup, 1) := by decide +kernel
theorem dX4_init_565 : decode cX4_init 565 = .ok (.bipush 37, 2) := by decide +kernel
theorem dX4_init_567 : decode cX4_init 567 = .ok (.sipush 180, 3) := by decide +kernel
theorem dX4_init_570 : decode cX4_init 570 = .ok (.iastore, 1) := by decide +kernel
theorem dX4_init_571 : decode cX4_init 571 = .ok (.dup, 1) := by decide +kernel
theorem dX4_init_572 : decode cX4_init 572 = .ok (.bipush 38, 2) := by decide +kernel
theorem dX4_init_574 : decode cX4_init 574 = .ok (.sipush 180, 3) := by decide +kernel
theorem dX4_init_577 : decode cX4_init 577 = .ok (.iastore, 1) := by decide +kernel
theorem dX4_init_578 : decode cX4_init 578 = .ok (.dup, 1) := by decide +kernel
theorem dX4_init_579 : decode cX4_init 579 = .ok (.bipush 39, 2) := by decide +kernel
theorem dX4_init_581 : decode cX4_init 581 = .ok (.sipush 180, 3) := by decide +kernel
theorem dX4_init_584 : decode cX4_init 584 = .ok (.iastore, 1) := by decide +kernel
theorem dX4_init_585 : decode cX4_init 585 = .ok (.dup, 1) := by decide +kernel
theorem dX4_init_586 : decode cX4_init 586 = .ok (.bipush 40, 2) := by decide +kernel
theorem dX4_init_588 : decode cX4_init 588 = .ok (.sipush 180, 3) := by decide +kernel
theorem dX4_init_591 : decode cX4_init 591 = .ok (.iastore, 1) := by decide +kernel
theorem dX4_init_592 : decode cX4_init 592 = .ok (.dup, 1) := by decide +kernel
theorem dX4_init_593 : decode cX4_init 593 = .ok (.bipush 41, 2) := by decide +kernel
theorem dX4_init_595 : decode cX4_init 595 = .ok (.sipush 180, 3) := by decide +kernel
theorem dX4_init_598 : decode cX4_init 598 = .ok (.iastore, 1) := by decide +kernel
theorem dX4_init_599 : decode cX4_init 599 = .ok (.dup, 1) := by decide +kernel
theorem dX4_init_600 : decode cX4_init 600 = .ok (.bipush 42, 2) := by decide +kernel
theorem dX4_init_602 : decode cX4_init 602 = .ok (.sipush 180, 3) := by decide +kernel
theorem dX4_init_605 : decode cX4_init 605 = .ok (.iastore, 1) := by decide +kernel
theorem dX4_init_606 : decode cX4_init 606 = .ok (.dup, 1) := by decide +kernel
theorem dX4_init_607 : decode cX4_init 607 = .ok (.bipush 43, 2) := by decide +kernel
theorem dX4_init_609 : decode cX4_init 609 = .ok (.sipush 180, 3) := by decide +kernel
theorem dX4_init_612 : decode cX4_init 612 = .ok (.iastore, 1) := by decide +kernel
theorem dX4_init_613 : decode cX4_init 613 = .ok (.dup, 1) := by decide +kernel
theorem dX4_init_614 : decode cX4_init 614 = .ok (.bipush 44, 2) := by decide +kernel
theorem dX4_init_616 : decode cX4_init 616 = .ok (.sipush 180, 3) := by decide +kernel
theorem dX4_init_619 : decode cX4_init 619 = .ok (.iastore, 1) := by decide +kernel
theorem dX4_init_620 : decode cX4_init 620 = .ok (.dup, 1) := by decide +kernel
theorem dX4_init_621 : decode cX4_init 621 = .ok (.bipush 45, 2) := by decide +kernel
theorem dX4_init_623 : decode cX4_init 623 = .ok (.sipush 180, 3) := by decide +kernel
theorem dX4_init_626 : decode cX4_init 626 = .ok (.iastore, 1) := by decide +kernel
theorem dX4_init_627 : decode cX4_init 627 = .ok (.dup, 1) := by decide +kernel
theorem dX4_init_628 : decode cX4_init 628 = .ok (.bipush 46, 2) := by decide +kernel
theorem dX4_init_630 : decode cX4_init 630 = .ok (.sipush 180, 3) := by decide +kernel
theorem dX4_init_633 : decode cX4_init 633 = .ok (.iastore, 1) := by decide +kernel
theorem dX4_init_634 : decode cX4_init 634 = .ok (.dup, 1) := by decide +kernel
theorem dX4_init_635 : decode cX4_init 635 = .ok (.bipush 47, 2) := by decide +kernel
theorem dX4_init_637 : decode cX4_init 637 = .ok (.sipush 180, 3) := by decide +kernel
theorem dX4_init_640 : decode cX4_init 640 = .ok (.iastore, 1) := by decide +kernel
theorem dX4_init_641 : decode cX4_init 641 = .ok (.dup, 1) := by decide +kernel
theorem dX4_init_642 : decode cX4_init 642 = .ok (.bipush 48, 2) := by decide +kernel
theorem dX4_init_644 : decode cX4_init 644 = .ok (.sipush 180, 3) := by decide +kernel
theorem dX4_init_647 : decode cX4_init 647 = .ok (.iastore, 1) := by decide +kernel
theorem dX4_init_648 : decode cX4_init 648 = .ok (.dup, 1) := by decide +kernel
theorem dX4_init_649 : decode cX4_init 649 = .ok (.bipush 49, 2) := by decide +kernel
theorem dX4_init_651 : decode cX4_init 651 = .ok (.sipush 180, 3) := by decide +kernel
theorem dX4_init_654 : decode cX4_init 654 = .ok (.iastore, 1) := by decide +kernel
theorem dX4_init_655 : decode cX4_init 655 = .ok (.putfield 13, 3) := by decide +kernel
theorem dX4_init_658 : decode cX4_init 658 = .ok (.aload_n 0, 1) := by decide +kernel
theorem dX4_init_659 : decode cX4_init 659 = .ok (.bipush 50, 2) := by decide +kernel
theorem dX4_init_661 : decode cX4_init 661 = .ok (.newarray .int, 2) := by decide +kernel
theorem dX4_init_663 : decode cX4_init 663 = .ok (.dup, 1) := by decide +kernel
theorem dX4_init_664 : decode cX4_init 664 = .ok (.iconst 0, 1) := by decide +kernel
theorem dX4_init_665 : decode cX4_init 665 = .ok (.bipush 10, 2) := by decide +kernel
theorem dX4_init_667 : decode cX4_init 667 = .ok (.iastore, 1) := by decide +kernel
theorem dX4_init_668 : decode cX4_init 668 = .ok (.dup, 1) := by decide +kernel
theorem dX4_init_669 : decode cX4_init 669 = .ok (.iconst 1, 1) := by decide +kernel
theorem dX4_init_670 : decode cX4_init 670 = .ok (.bipush 10, 2) := by decide +kernel
theorem dX4_init_672 : decode cX4_init 672 = .ok (.iastore, 1) := by decide +kernel
theorem dX4_init_673 : decode cX4_init 673 = .ok (.dup, 1) := by decide +kernel
theorem dX4_init_674 : decode cX4_init 674 = .ok (.iconst 2, 1) := by decide +kernel
theorem dX4_init_675 : decode cX4_init 675 = .ok (.bipush 10, 2) := by decide +kernel
theorem dX4_init_677 : decode cX4_init 677 = .ok (.iastore, 1) := by decide +kernel
theorem dX4_init_678 : decode cX4_init 678 = .ok (.dup, 1) := by decide +kernel
theorem dX4_init_679 : decode cX4_init 679 = .ok (.iconst 3, 1) := by decide +kernel
theorem dX4_init_680 : decode cX4_init 680 = .ok (.bipush 10, 2) := by decide +kernel
theorem dX4_init_682 : decode cX4_init 682 = .ok (.iastore, 1) := by decide +kernel
theorem dX4_init_683 : decode cX4_init 683 = .ok (.dup, 1) := by decide +kernel
theorem dX4_init_684 : decode cX4_init 684 = .ok (.iconst 4, 1) := by decide +kernel
theorem dX4_init_685 : decode cX4_init 685 = .ok (.bipush 10, 2) := by decide +kernel
theorem dX4_init_687 : decode cX4_init 687 = .ok (.iastore, 1) := by decide +kernel
theorem dX4_init_688 : decode cX4_init 688 = .ok (.dup, 1) := by decide +kernel
theorem dX4_init_689 : decode cX4_init 689 = .ok (.iconst 5, 1) := by decide +kernel
theorem dX4_init_690 : decode cX4_init 690 = .ok (.bipush 10, 2) := by decide +kernel
theorem dX4_init_692 : decode cX4_init 692 = .ok (.iastore, 1) := by decide +kernel
theorem dX4_init_693 : decode cX4_init 693 = .ok (.dup, 1) := by decide +kernel
theorem dX4_init_694 : decode cX4_init 694 = .ok (.bipush 6, 2) := by decide +kernel
theorem dX4_init_696 : decode cX4_init 696 = .ok (.bipush 10, 2) := by decide +kernel

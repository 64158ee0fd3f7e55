theorem dL_act_579 : decode cL_act 579 = .ok (.iconst 5, 1) := by decide +kernel
theorem dL_act_580 : decode cL_act 580 = .ok (.ishr, 1) := by decide +kernel
theorem dL_act_581 : decode cL_act 581 = .ok (.goto 11, 3) := by decide +kernel
theorem dL_act_584 : decode cL_act 584 = .ok (.sipush 1000, 3) := by decide +kernel
theorem dL_act_587 : decode cL_act 587 = .ok (.bipush 50, 2) := by decide +kernel
theorem dL_act_589 : decode cL_act 589 = .ok (.iload_n 3, 1) := by decide +kernel
theorem dL_act_590 : decode cL_act 590 = .ok (.imul, 1) := by decide +kernel
theorem dL_act_591 : decode cL_act 591 = .ok (.iadd, 1) := by decide +kernel
theorem dL_act_592 : decode cL_act 592 = .ok (.invokestatic 119, 3) := by decide +kernel
theorem dL_act_595 : decode cL_act 595 = .ok (.ireturn, 1) := by decide +kernel
theorem dL_act_596 : decode cL_act 596 = .ok (.aload_n 0, 1) := by decide +kernel
theorem dL_act_597 : decode cL_act 597 = .ok (.iload_n 2, 1) := by decide +kernel
theorem dL_act_598 : decode cL_act 598 = .ok (.ifCond .eq 8, 3) := by decide +kernel
theorem dL_act_601 : decode cL_act 601 = .ok (.iload 4, 2) := by decide +kernel
theorem dL_act_603 : decode cL_act 603 = .ok (.goto 11, 3) := by decide +kernel
theorem dL_act_606 : decode cL_act 606 = .ok (.iload_n 1, 1) := by decide +kernel
theorem dL_act_607 : decode cL_act 607 = .ok (.iconst 3, 1) := by decide +kernel
theorem dL_act_608 : decode cL_act 608 = .ok (.ishr, 1) := by decide +kernel
theorem dL_act_609 : decode cL_act 609 = .ok (.bipush 6, 2) := by decide +kernel
theorem dL_act_611 : decode cL_act 611 = .ok (.invokestatic 89, 3) := by decide +kernel
theorem dL_act_614 : decode cL_act 614 = .ok (.iload_n 1, 1) := by decide +kernel
theorem dL_act_615 : decode cL_act 615 = .ok (.bipush 12, 2) := by decide +kernel
theorem dL_act_617 : decode cL_act 617 = .ok (.ishr, 1) := by decide +kernel
theorem dL_act_618 : decode cL_act 618 = .ok (.bipush 6, 2) := by decide +kernel
theorem dL_act_620 : decode cL_act 620 = .ok (.invokestatic 89, 3) := by decide +kernel
theorem dL_act_623 : decode cL_act 623 = .ok (.ifCond .ne 7, 3) := by decide +kernel
theorem dL_act_626 : decode cL_act 626 = .ok (.iconst 1, 1) := by decide +kernel
theorem dL_act_627 : decode cL_act 627 = .ok (.goto 4, 3) := by decide +kernel
theorem dL_act_630 : decode cL_act 630 = .ok (.iconst 0, 1) := by decide +kernel
theorem dL_act_631 : decode cL_act 631 = .ok (.invokestatic 121, 3) := by decide +kernel
theorem dL_act_634 : decode cL_act 634 = .ok (.ireturn, 1) := by decide +kernel
theorem dL_act_635 : decode cL_act 635 = .ok (.aload_n 0, 1) := by decide +kernel
theorem dL_act_636 : decode cL_act 636 = .ok (.iload_n 2, 1) := by decide +kernel
theorem dL_act_637 : decode cL_act 637 = .ok (.ifCond .eq 7, 3) := by decide +kernel
theorem dL_act_640 : decode cL_act 640 = .ok (.iload_n 3, 1) := by decide +kernel
theorem dL_act_641 : decode cL_act 641 = .ok (.goto 12, 3) := by decide +kernel
theorem dL_act_644 : decode cL_act 644 = .ok (.iload_n 1, 1) := by decide +kernel
theorem dL_act_645 : decode cL_act 645 = .ok (.bipush 9, 2) := by decide +kernel
theorem dL_act_647 : decode cL_act 647 = .ok (.ishr, 1) := by decide +kernel
theorem dL_act_648 : decode cL_act 648 = .ok (.bipush 6, 2) := by decide +kernel
theorem dL_act_650 : decode cL_act 650 = .ok (.invokestatic 89, 3) := by decide +kernel
theorem dL_act_653 : decode cL_act 653 = .ok (.invokestatic 124, 3) := by decide +kernel
theorem dL_act_656 : decode cL_act 656 = .ok (.ireturn, 1) := by decide +kernel
theorem dL_act_657 : decode cL_act 657 = .ok (.aload_n 0, 1) := by decide +kernel
theorem dL_act_658 : decode cL_act 658 = .ok (.iload_n 2, 1) := by decide +kernel
theorem dL_act_659 : decode cL_act 659 = .ok (.ifCond .eq 7, 3) := by decide +kernel
theorem dL_act_662 : decode cL_act 662 = .ok (.iload_n 3, 1) := by decide +kernel
theorem dL_act_663 : decode cL_act 663 = .ok (.goto 12, 3) := by decide +kernel
theorem dL_act_666 : decode cL_act 666 = .ok (.iload_n 1, 1) := by decide +kernel
theorem dL_act_667 : decode cL_act 667 = .ok (.bipush 9, 2) := by decide +kernel
theorem dL_act_669 : decode cL_act 669 = .ok (.ishr, 1) := by decide +kernel
theorem dL_act_670 : decode cL_act 670 = .ok (.bipush 12, 2) := by decide +kernel
theorem dL_act_672 : decode cL_act 672 = .ok (.invokestatic 89, 3) := by decide +kernel
theorem dL_act_675 : decode cL_act 675 = .ok (.invokestatic 126, 3) := by decide +kernel
theorem dL_act_678 : decode cL_act 678 = .ok (.ldc2_w 129, 3) := by decide +kernel
theorem dL_act_681 : decode cL_act 681 = .ok (.lrem, 1) := by decide +kernel
theorem dL_act_682 : decode cL_act 682 = .ok (.l2i, 1) := by decide +kernel
theorem dL_act_683 : decode cL_act 683 = .ok (.ireturn, 1) := by decide +kernel
theorem dL_act_684 : decode cL_act 684 = .ok (.aload_n 0, 1) := by decide +kernel
theorem dL_act_685 : decode cL_act 685 = .ok (.invokevirtual 131, 3) := by decide +kernel
theorem dL_act_688 : decode cL_act 688 = .ok (.ireturn, 1) := by decide +kernel
theorem dL_act_689 : decode cL_act 689 = .ok (.aload_n 0, 1) := by decide +kernel
theorem dL_act_690 : decode cL_act 690 = .ok (.invokevirtual 116, 3) := by decide +kernel
theorem dL_act_693 : decode cL_act 693 = .ok (.ireturn, 1) := by decide +kernel
theorem dL_act_694 : decode cL_act 694 = .ok (.aload_n 0, 1) := by decide +kernel
theorem dL_act_695 : decode cL_act 695 = .ok (.iload_n 2, 1) := by decide +kernel
theorem dL_act_696 : decode cL_act 696 = .ok (.ifCond .eq 7, 3) := by decide +kernel
theorem dL_act_699 : decode cL_act 699 = .ok (.iload_n 3, 1) := by decide +kernel
theorem dL_act_700 : decode cL_act 700 = .ok (.goto 11, 3) := by decide +kernel
theorem dL_act_703 : decode cL_act 703 = .ok (.iload_n 1, 1) := by decide +kernel
theorem dL_act_704 : decode cL_act 704 = .ok (.bipush 9, 2) := by decide +kernel
theorem dL_act_706 : decode cL_act 706 = .ok (.ishr, 1) := by decide +kernel
theorem dL_act_707 : decode cL_act 707 = .ok (.iconst 3, 1) := by decide +kernel
theorem dL_act_708 : decode cL_act 708 = .ok (.invokestatic 89, 3) := by decide +kernel
theorem dL_act_711 : decode cL_act 711 = .ok (.iload_n 2, 1) := by decide +kernel
theorem dL_act_712 : decode cL_act 712 = .ok (.ifCond .eq 8, 3) := by decide +kernel
theorem dL_act_715 : decode cL_act 715 = .ok (.iload 4, 2) := by decide +kernel
theorem dL_act_717 : decode cL_act 717 = .ok (.goto 10, 3) := by decide +kernel
theorem dL_act_720 : decode cL_act 720 = .ok (.iload_n 1, 1) := by decide +kernel
theorem dL_act_721 : decode cL_act 721 = .ok (.iconst 3, 1) := by decide +kernel
theorem dL_act_722 : decode cL_act 722 = .ok (.ishr, 1) := by decide +kernel
theorem dL_act_723 : decode cL_act 723 = .ok (.iconst 4, 1) := by decide +kernel
theorem dL_act_724 : decode cL_act 724 = .ok (.invokestatic 89, 3) := by decide +kernel
theorem dL_act_727 : decode cL_act 727 = .ok (.invokestatic 134, 3) := by decide +kernel
theorem dL_act_730 : decode cL_act 730 = .ok (.ireturn, 1) := by decide +kernel
theorem dL_act_731 : decode cL_act 731 = .ok (.aload_n 0, 1) := by decide +kernel
theorem dL_act_732 : decode cL_act 732 = .ok (.invokestatic 136, 3) := by decide +kernel
theorem dL_act_735 : decode cL_act 735 = .ok (.ireturn, 1) := by decide +kernel
theorem dL_act_736 : decode cL_act 736 = .ok (.aload_n 0, 1) := by decide +kernel
theorem dL_act_737 : decode cL_act 737 = .ok (.iload_n 2, 1) := by decide +kernel
theorem dL_act_738 : decode cL_act 738 = .ok (.ifCond .eq 10, 3) := by decide +kernel
theorem dL_act_741 : decode cL_act 741 = .ok (.iload_n 1, 1) := by decide +kernel
theorem dL_act_742 : decode cL_act 742 = .ok (.bipush 6, 2) := by decide +kernel
theorem dL_act_744 : decode cL_act 744 = .ok (.ishr, 1) := by decide +kernel
theorem dL_act_745 : decode cL_act 745 = .ok (.goto 7, 3) := by decide +kernel
theorem dL_act_748 : decode cL_act 748 = .ok (.bipush 10, 2) := by decide +kernel
theorem dL_act_750 : decode cL_act 750 = .ok (.iload_n 3, 1) := by decide +kernel
theorem dL_act_751 : decode cL_act 751 = .ok (.imul, 1) := by decide +kernel
theorem dL_act_752 : decode cL_act 752 = .ok (.iload_n 2, 1) := by decide +kernel
theorem dL_act_753 : decode cL_act 753 = .ok (.ifCond .eq 9, 3) := by decide +kernel
theorem dL_act_756 : decode cL_act 756 = .ok (.iload_n 1, 1) := by decide +kernel
theorem dL_act_757 : decode cL_act 757 = .ok (.iconst 4, 1) := by decide +kernel
theorem dL_act_758 : decode cL_act 758 = .ok (.ishr, 1) := by decide +kernel
theorem dL_act_759 : decode cL_act 759 = .ok (.goto 19, 3) := by decide +kernel
theorem dL_act_762 : decode cL_act 762 = .ok (.bipush 10, 2) := by decide +kernel
theorem dL_act_764 : decode cL_act 764 = .ok (.iload_n 3, 1) := by decide +kernel
theorem dL_act_765 : decode cL_act 765 = .ok (.imul, 1) := by decide +kernel
theorem dL_act_766 : decode cL_act 766 = .ok (.iconst 1, 1) := by decide +kernel
theorem dL_act_767 : decode cL_act 767 = .ok (.iadd, 1) := by decide +kernel
theorem dL_act_768 : decode cL_act 768 = .ok (.iload_n 1, 1) := by decide +kernel

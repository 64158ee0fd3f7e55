theorem dX4_init_698 : decode cX4_init 698 = .ok (.iastore, 1) := by decide +kernel
theorem dX4_init_699 : decode cX4_init 699 = .ok (.dup, 1) := by decide +kernel
theorem dX4_init_700 : decode cX4_init 700 = .ok (.bipush 7, 2) := by decide +kernel
theorem dX4_init_702 : decode cX4_init 702 = .ok (.bipush 10, 2) := by decide +kernel
theorem dX4_init_704 : decode cX4_init 704 = .ok (.iastore, 1) := by decide +kernel
theorem dX4_init_705 : decode cX4_init 705 = .ok (.dup, 1) := by decide +kernel
theorem dX4_init_706 : decode cX4_init 706 = .ok (.bipush 8, 2) := by decide +kernel
theorem dX4_init_708 : decode cX4_init 708 = .ok (.bipush 10, 2) := by decide +kernel
theorem dX4_init_710 : decode cX4_init 710 = .ok (.iastore, 1) := by decide +kernel
theorem dX4_init_711 : decode cX4_init 711 = .ok (.dup, 1) := by decide +kernel
theorem dX4_init_712 : decode cX4_init 712 = .ok (.bipush 9, 2) := by decide +kernel
theorem dX4_init_714 : decode cX4_init 714 = .ok (.bipush 10, 2) := by decide +kernel
theorem dX4_init_716 : decode cX4_init 716 = .ok (.iastore, 1) := by decide +kernel
theorem dX4_init_717 : decode cX4_init 717 = .ok (.dup, 1) := by decide +kernel
theorem dX4_init_718 : decode cX4_init 718 = .ok (.bipush 10, 2) := by decide +kernel
theorem dX4_init_720 : decode cX4_init 720 = .ok (.bipush 10, 2) := by decide +kernel
theorem dX4_init_722 : decode cX4_init 722 = .ok (.iastore, 1) := by decide +kernel
theorem dX4_init_723 : decode cX4_init 723 = .ok (.dup, 1) := by decide +kernel
theorem dX4_init_724 : decode cX4_init 724 = .ok (.bipush 11, 2) := by decide +kernel
theorem dX4_init_726 : decode cX4_init 726 = .ok (.bipush 10, 2) := by decide +kernel
theorem dX4_init_728 : decode cX4_init 728 = .ok (.iastore, 1) := by decide +kernel
theorem dX4_init_729 : decode cX4_init 729 = .ok (.dup, 1) := by decide +kernel
theorem dX4_init_730 : decode cX4_init 730 = .ok (.bipush 12, 2) := by decide +kernel
theorem dX4_init_732 : decode cX4_init 732 = .ok (.bipush 10, 2) := by decide +kernel
theorem dX4_init_734 : decode cX4_init 734 = .ok (.iastore, 1) := by decide +kernel
theorem dX4_init_735 : decode cX4_init 735 = .ok (.dup, 1) := by decide +kernel
theorem dX4_init_736 : decode cX4_init 736 = .ok (.bipush 13, 2) := by decide +kernel
theorem dX4_init_738 : decode cX4_init 738 = .ok (.bipush 10, 2) := by decide +kernel
theorem dX4_init_740 : decode cX4_init 740 = .ok (.iastore, 1) := by decide +kernel
theorem dX4_init_741 : decode cX4_init 741 = .ok (.dup, 1) := by decide +kernel
theorem dX4_init_742 : decode cX4_init 742 = .ok (.bipush 14, 2) := by decide +kernel
theorem dX4_init_744 : decode cX4_init 744 = .ok (.bipush 10, 2) := by decide +kernel
theorem dX4_init_746 : decode cX4_init 746 = .ok (.iastore, 1) := by decide +kernel
theorem dX4_init_747 : decode cX4_init 747 = .ok (.dup, 1) := by decide +kernel
theorem dX4_init_748 : decode cX4_init 748 = .ok (.bipush 15, 2) := by decide +kernel
theorem dX4_init_750 : decode cX4_init 750 = .ok (.bipush 10, 2) := by decide +kernel
theorem dX4_init_752 : decode cX4_init 752 = .ok (.iastore, 1) := by decide +kernel
theorem dX4_init_753 : decode cX4_init 753 = .ok (.dup, 1) := by decide +kernel
theorem dX4_init_754 : decode cX4_init 754 = .ok (.bipush 16, 2) := by decide +kernel
theorem dX4_init_756 : decode cX4_init 756 = .ok (.bipush 10, 2) := by decide +kernel
theorem dX4_init_758 : decode cX4_init 758 = .ok (.iastore, 1) := by decide +kernel
theorem dX4_init_759 : decode cX4_init 759 = .ok (.dup, 1) := by decide +kernel
theorem dX4_init_760 : decode cX4_init 760 = .ok (.bipush 17, 2) := by decide +kernel
theorem dX4_init_762 : decode cX4_init 762 = .ok (.bipush 10, 2) := by decide +kernel
theorem dX4_init_764 : decode cX4_init 764 = .ok (.iastore, 1) := by decide +kernel
theorem dX4_init_765 : decode cX4_init 765 = .ok (.dup, 1) := by decide +kernel
theorem dX4_init_766 : decode cX4_init 766 = .ok (.bipush 18, 2) := by decide +kernel
theorem dX4_init_768 : decode cX4_init 768 = .ok (.bipush 10, 2) := by decide +kernel
theorem dX4_init_770 : decode cX4_init 770 = .ok (.iastore, 1) := by decide +kernel
theorem dX4_init_771 : decode cX4_init 771 = .ok (.dup, 1) := by decide +kernel
theorem dX4_init_772 : decode cX4_init 772 = .ok (.bipush 19, 2) := by decide +kernel
theorem dX4_init_774 : decode cX4_init 774 = .ok (.bipush 10, 2) := by decide +kernel
theorem dX4_init_776 : decode cX4_init 776 = .ok (.iastore, 1) := by decide +kernel
theorem dX4_init_777 : decode cX4_init 777 = .ok (.dup, 1) := by decide +kernel
theorem dX4_init_778 : decode cX4_init 778 = .ok (.bipush 20, 2) := by decide +kernel
theorem dX4_init_780 : decode cX4_init 780 = .ok (.bipush 10, 2) := by decide +kernel
theorem dX4_init_782 : decode cX4_init 782 = .ok (.iastore, 1) := by decide +kernel
theorem dX4_init_783 : decode cX4_init 783 = .ok (.dup, 1) := by decide +kernel
theorem dX4_init_784 : decode cX4_init 784 = .ok (.bipush 21, 2) := by decide +kernel
theorem dX4_init_786 : decode cX4_init 786 = .ok (.bipush 10, 2) := by decide +kernel
theorem dX4_init_788 : decode cX4_init 788 = .ok (.iastore, 1) := by decide +kernel
theorem dX4_init_789 : decode cX4_init 789 = .ok (.dup, 1) := by decide +kernel
theorem dX4_init_790 : decode cX4_init 790 = .ok (.bipush 22, 2) := by decide +kernel
theorem dX4_init_792 : decode cX4_init 792 = .ok (.bipush 10, 2) := by decide +kernel
theorem dX4_init_794 : decode cX4_init 794 = .ok (.iastore, 1) := by decide +kernel
theorem dX4_init_795 : decode cX4_init 795 = .ok (.dup, 1) := by decide +kernel
theorem dX4_init_796 : decode cX4_init 796 = .ok (.bipush 23, 2) := by decide +kernel
theorem dX4_init_798 : decode cX4_init 798 = .ok (.bipush 10, 2) := by decide +kernel
theorem dX4_init_800 : decode cX4_init 800 = .ok (.iastore, 1) := by decide +kernel
theorem dX4_init_801 : decode cX4_init 801 = .ok (.dup, 1) := by decide +kernel
theorem dX4_init_802 : decode cX4_init 802 = .ok (.bipush 24, 2) := by decide +kernel
theorem dX4_init_804 : decode cX4_init 804 = .ok (.bipush 10, 2) := by decide +kernel
theorem dX4_init_806 : decode cX4_init 806 = .ok (.iastore, 1) := by decide +kernel
theorem dX4_init_807 : decode cX4_init 807 = .ok (.dup, 1) := by decide +kernel
theorem dX4_init_808 : decode cX4_init 808 = .ok (.bipush 25, 2) := by decide +kernel
theorem dX4_init_810 : decode cX4_init 810 = .ok (.bipush 10, 2) := by decide +kernel
theorem dX4_init_812 : decode cX4_init 812 = .ok (.iastore, 1) := by decide +kernel
theorem dX4_init_813 : decode cX4_init 813 = .ok (.dup, 1) := by decide +kernel
theorem dX4_init_814 : decode cX4_init 814 = .ok (.bipush 26, 2) := by decide +kernel
theorem dX4_init_816 : decode cX4_init 816 = .ok (.bipush 10, 2) := by decide +kernel
theorem dX4_init_818 : decode cX4_init 818 = .ok (.iastore, 1) := by decide +kernel
theorem dX4_init_819 : decode cX4_init 819 = .ok (.dup, 1) := by decide +kernel
theorem dX4_init_820 : decode cX4_init 820 = .ok (.bipush 27, 2) := by decide +kernel
theorem dX4_init_822 : decode cX4_init 822 = .ok (.bipush 10, 2) := by decide +kernel
theorem dX4_init_824 : decode cX4_init 824 = .ok (.iastore, 1) := by decide +kernel
theorem dX4_init_825 : decode cX4_init 825 = .ok (.dup, 1) := by decide +kernel
theorem dX4_init_826 : decode cX4_init 826 = .ok (.bipush 28, 2) := by decide +kernel
theorem dX4_init_828 : decode cX4_init 828 = .ok (.bipush 10, 2) := by decide +kernel
theorem dX4_init_830 : decode cX4_init 830 = .ok (.iastore, 1) := by decide +kernel
theorem dX4_init_831 : decode cX4_init 831 = .ok (.dup, 1) := by decide +kernel
theorem dX4_init_832 : decode cX4_init 832 = .ok (.bipush 29, 2) := by decide +kernel
theorem dX4_init_834 : decode cX4_init 834 = .ok (.bipush 10, 2) := by decide +kernel
theorem dX4_init_836 : decode cX4_init 836 = .ok (.iastore, 1) := by decide +kernel
theorem dX4_init_837 : decode cX4_init 837 = .ok (.dup, 1) := by decide +kernel
theorem dX4_init_838 : decode cX4_init 838 = .ok (.bipush 30, 2) := by decide +kernel
theorem dX4_init_840 : decode cX4_init 840 = .ok (.bipush 10, 2) := by decide +kernel
theorem dX4_init_842 : decode cX4_init 842 = .ok (.iastore, 1) := by decide +kernel
theorem dX4_init_843 : decode cX4_init 843 = .ok (.dup, 1) := by decide +kernel
theorem dX4_init_844 : decode cX4_init 844 = .ok (.bipush 31, 2) := by decide +kernel
theorem dX4_init_846 : decode cX4_init 846 = .ok (.bipush 10, 2) := by decide +kernel
theorem dX4_init_848 : decode cX4_init 848 = .ok (.iastore, 1) := by decide +kernel
theorem dX4_init_849 : decode cX4_init 849 = .ok (.dup, 1) := by decide +kernel
theorem dX4_init_850 : decode cX4_init 850 = .ok (.bipush 32, 2) := by decide +kernel
theorem dX4_init_852 : decode cX4_init 852 = .ok (.bipush 10, 2) := by decide +kernel
theorem dX4_init_854 : decode cX4_init 854 = .ok (.iastore, 1) := by decide +kernel
theorem dX4_init_855 : decode cX4_init 855 = .ok (.dup, 1) := by decide +kernel
theorem dX4_init_856 : decode cX4_init 856 = .ok (.bipush 33, 2) := by decide +kernel
theorem dX4_init_858 : decode cX4_init 858 = .ok (.bipush 10, 2) := by decide +kernel
theorem dX4_init_860 : decode cX4_init 860 = .ok (.iastore, 1) := by decide +kernel
theorem dX4_init_861 : decode cX4_init 861 = .ok (.dup, 1) := by decide +kernel

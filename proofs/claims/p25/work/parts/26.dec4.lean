theorem dL_act_769 : decode cL_act 769 = .ok (.iconst 3, 1) := by decide +kernel
theorem dL_act_770 : decode cL_act 770 = .ok (.ishr, 1) := by decide +kernel
theorem dL_act_771 : decode cL_act 771 = .ok (.sipush 900, 3) := by decide +kernel
theorem dL_act_774 : decode cL_act 774 = .ok (.invokestatic 89, 3) := by decide +kernel
theorem dL_act_777 : decode cL_act 777 = .ok (.iadd, 1) := by decide +kernel
theorem dL_act_778 : decode cL_act 778 = .ok (.iload 5, 2) := by decide +kernel
theorem dL_act_780 : decode cL_act 780 = .ok (.invokestatic 138, 3) := by decide +kernel
theorem dL_act_783 : decode cL_act 783 = .ok (.ireturn, 1) := by decide +kernel
theorem dL_act_784 : decode cL_act 784 = .ok (.aload_n 0, 1) := by decide +kernel
theorem dL_act_785 : decode cL_act 785 = .ok (.iload_n 2, 1) := by decide +kernel
theorem dL_act_786 : decode cL_act 786 = .ok (.ifCond .eq 9, 3) := by decide +kernel
theorem dL_act_789 : decode cL_act 789 = .ok (.iload_n 1, 1) := by decide +kernel
theorem dL_act_790 : decode cL_act 790 = .ok (.iconst 4, 1) := by decide +kernel
theorem dL_act_791 : decode cL_act 791 = .ok (.ishr, 1) := by decide +kernel
theorem dL_act_792 : decode cL_act 792 = .ok (.goto 14, 3) := by decide +kernel
theorem dL_act_795 : decode cL_act 795 = .ok (.iconst 1, 1) := by decide +kernel
theorem dL_act_796 : decode cL_act 796 = .ok (.iload_n 1, 1) := by decide +kernel
theorem dL_act_797 : decode cL_act 797 = .ok (.iconst 4, 1) := by decide +kernel
theorem dL_act_798 : decode cL_act 798 = .ok (.ishr, 1) := by decide +kernel
theorem dL_act_799 : decode cL_act 799 = .ok (.sipush 1500, 3) := by decide +kernel
theorem dL_act_802 : decode cL_act 802 = .ok (.invokestatic 89, 3) := by decide +kernel
theorem dL_act_805 : decode cL_act 805 = .ok (.iadd, 1) := by decide +kernel
theorem dL_act_806 : decode cL_act 806 = .ok (.invokestatic 141, 3) := by decide +kernel
theorem dL_act_809 : decode cL_act 809 = .ok (.ireturn, 1) := by decide +kernel
theorem dL_act_810 : decode cL_act 810 = .ok (.aload_n 0, 1) := by decide +kernel
theorem dL_act_811 : decode cL_act 811 = .ok (.iload_n 2, 1) := by decide +kernel
theorem dL_act_812 : decode cL_act 812 = .ok (.ifCond .eq 9, 3) := by decide +kernel
theorem dL_act_815 : decode cL_act 815 = .ok (.iload_n 1, 1) := by decide +kernel
theorem dL_act_816 : decode cL_act 816 = .ok (.iconst 4, 1) := by decide +kernel
theorem dL_act_817 : decode cL_act 817 = .ok (.ishr, 1) := by decide +kernel
theorem dL_act_818 : decode cL_act 818 = .ok (.goto 14, 3) := by decide +kernel
theorem dL_act_821 : decode cL_act 821 = .ok (.iconst 1, 1) := by decide +kernel
theorem dL_act_822 : decode cL_act 822 = .ok (.iload_n 1, 1) := by decide +kernel
theorem dL_act_823 : decode cL_act 823 = .ok (.iconst 4, 1) := by decide +kernel
theorem dL_act_824 : decode cL_act 824 = .ok (.ishr, 1) := by decide +kernel
theorem dL_act_825 : decode cL_act 825 = .ok (.sipush 1500, 3) := by decide +kernel
theorem dL_act_828 : decode cL_act 828 = .ok (.invokestatic 89, 3) := by decide +kernel
theorem dL_act_831 : decode cL_act 831 = .ok (.iadd, 1) := by decide +kernel
theorem dL_act_832 : decode cL_act 832 = .ok (.invokestatic 143, 3) := by decide +kernel
theorem dL_act_835 : decode cL_act 835 = .ok (.ireturn, 1) := by decide +kernel
theorem dL_act_836 : decode cL_act 836 = .ok (.aload_n 0, 1) := by decide +kernel
theorem dL_act_837 : decode cL_act 837 = .ok (.invokestatic 145, 3) := by decide +kernel
theorem dL_act_840 : decode cL_act 840 = .ok (.ireturn, 1) := by decide +kernel
theorem dL_act_841 : decode cL_act 841 = .ok (.aload_n 0, 1) := by decide +kernel
theorem dL_act_842 : decode cL_act 842 = .ok (.iload_n 2, 1) := by decide +kernel
theorem dL_act_843 : decode cL_act 843 = .ok (.ifCond .eq 7, 3) := by decide +kernel
theorem dL_act_846 : decode cL_act 846 = .ok (.iload_n 3, 1) := by decide +kernel
theorem dL_act_847 : decode cL_act 847 = .ok (.goto 14, 3) := by decide +kernel
theorem dL_act_850 : decode cL_act 850 = .ok (.iconst 1, 1) := by decide +kernel
theorem dL_act_851 : decode cL_act 851 = .ok (.iload_n 1, 1) := by decide +kernel
theorem dL_act_852 : decode cL_act 852 = .ok (.bipush 9, 2) := by decide +kernel
theorem dL_act_854 : decode cL_act 854 = .ok (.ishr, 1) := by decide +kernel
theorem dL_act_855 : decode cL_act 855 = .ok (.bipush 100, 2) := by decide +kernel
theorem dL_act_857 : decode cL_act 857 = .ok (.invokestatic 89, 3) := by decide +kernel
theorem dL_act_860 : decode cL_act 860 = .ok (.iadd, 1) := by decide +kernel
theorem dL_act_861 : decode cL_act 861 = .ok (.invokestatic 147, 3) := by decide +kernel
theorem dL_act_864 : decode cL_act 864 = .ok (.ireturn, 1) := by decide +kernel

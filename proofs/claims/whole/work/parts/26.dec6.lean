theorem dX4_init_862 : decode cX4_init 862 = .ok (.bipush 34, 2) := by decide +kernel
theorem dX4_init_864 : decode cX4_init 864 = .ok (.bipush 10, 2) := by decide +kernel
theorem dX4_init_866 : decode cX4_init 866 = .ok (.iastore, 1) := by decide +kernel
theorem dX4_init_867 : decode cX4_init 867 = .ok (.dup, 1) := by decide +kernel
theorem dX4_init_868 : decode cX4_init 868 = .ok (.bipush 35, 2) := by decide +kernel
theorem dX4_init_870 : decode cX4_init 870 = .ok (.bipush 10, 2) := by decide +kernel
theorem dX4_init_872 : decode cX4_init 872 = .ok (.iastore, 1) := by decide +kernel
theorem dX4_init_873 : decode cX4_init 873 = .ok (.dup, 1) := by decide +kernel
theorem dX4_init_874 : decode cX4_init 874 = .ok (.bipush 36, 2) := by decide +kernel
theorem dX4_init_876 : decode cX4_init 876 = .ok (.bipush 10, 2) := by decide +kernel
theorem dX4_init_878 : decode cX4_init 878 = .ok (.iastore, 1) := by decide +kernel
theorem dX4_init_879 : decode cX4_init 879 = .ok (.dup, 1) := by decide +kernel
theorem dX4_init_880 : decode cX4_init 880 = .ok (.bipush 37, 2) := by decide +kernel
theorem dX4_init_882 : decode cX4_init 882 = .ok (.bipush 10, 2) := by decide +kernel
theorem dX4_init_884 : decode cX4_init 884 = .ok (.iastore, 1) := by decide +kernel
theorem dX4_init_885 : decode cX4_init 885 = .ok (.dup, 1) := by decide +kernel
theorem dX4_init_886 : decode cX4_init 886 = .ok (.bipush 38, 2) := by decide +kernel
theorem dX4_init_888 : decode cX4_init 888 = .ok (.bipush 10, 2) := by decide +kernel
theorem dX4_init_890 : decode cX4_init 890 = .ok (.iastore, 1) := by decide +kernel
theorem dX4_init_891 : decode cX4_init 891 = .ok (.dup, 1) := by decide +kernel
theorem dX4_init_892 : decode cX4_init 892 = .ok (.bipush 39, 2) := by decide +kernel
theorem dX4_init_894 : decode cX4_init 894 = .ok (.bipush 10, 2) := by decide +kernel
theorem dX4_init_896 : decode cX4_init 896 = .ok (.iastore, 1) := by decide +kernel
theorem dX4_init_897 : decode cX4_init 897 = .ok (.dup, 1) := by decide +kernel
theorem dX4_init_898 : decode cX4_init 898 = .ok (.bipush 40, 2) := by decide +kernel
theorem dX4_init_900 : decode cX4_init 900 = .ok (.bipush 10, 2) := by decide +kernel
theorem dX4_init_902 : decode cX4_init 902 = .ok (.iastore, 1) := by decide +kernel
theorem dX4_init_903 : decode cX4_init 903 = .ok (.dup, 1) := by decide +kernel
theorem dX4_init_904 : decode cX4_init 904 = .ok (.bipush 41, 2) := by decide +kernel
theorem dX4_init_906 : decode cX4_init 906 = .ok (.bipush 10, 2) := by decide +kernel
theorem dX4_init_908 : decode cX4_init 908 = .ok (.iastore, 1) := by decide +kernel
theorem dX4_init_909 : decode cX4_init 909 = .ok (.dup, 1) := by decide +kernel
theorem dX4_init_910 : decode cX4_init 910 = .ok (.bipush 42, 2) := by decide +kernel
theorem dX4_init_912 : decode cX4_init 912 = .ok (.bipush 10, 2) := by decide +kernel
theorem dX4_init_914 : decode cX4_init 914 = .ok (.iastore, 1) := by decide +kernel
theorem dX4_init_915 : decode cX4_init 915 = .ok (.dup, 1) := by decide +kernel
theorem dX4_init_916 : decode cX4_init 916 = .ok (.bipush 43, 2) := by decide +kernel
theorem dX4_init_918 : decode cX4_init 918 = .ok (.bipush 10, 2) := by decide +kernel
theorem dX4_init_920 : decode cX4_init 920 = .ok (.iastore, 1) := by decide +kernel
theorem dX4_init_921 : decode cX4_init 921 = .ok (.dup, 1) := by decide +kernel
theorem dX4_init_922 : decode cX4_init 922 = .ok (.bipush 44, 2) := by decide +kernel
theorem dX4_init_924 : decode cX4_init 924 = .ok (.bipush 10, 2) := by decide +kernel
theorem dX4_init_926 : decode cX4_init 926 = .ok (.iastore, 1) := by decide +kernel
theorem dX4_init_927 : decode cX4_init 927 = .ok (.dup, 1) := by decide +kernel
theorem dX4_init_928 : decode cX4_init 928 = .ok (.bipush 45, 2) := by decide +kernel
theorem dX4_init_930 : decode cX4_init 930 = .ok (.bipush 10, 2) := by decide +kernel
theorem dX4_init_932 : decode cX4_init 932 = .ok (.iastore, 1) := by decide +kernel
theorem dX4_init_933 : decode cX4_init 933 = .ok (.dup, 1) := by decide +kernel
theorem dX4_init_934 : decode cX4_init 934 = .ok (.bipush 46, 2) := by decide +kernel
theorem dX4_init_936 : decode cX4_init 936 = .ok (.bipush 10, 2) := by decide +kernel
theorem dX4_init_938 : decode cX4_init 938 = .ok (.iastore, 1) := by decide +kernel
theorem dX4_init_939 : decode cX4_init 939 = .ok (.dup, 1) := by decide +kernel
theorem dX4_init_940 : decode cX4_init 940 = .ok (.bipush 47, 2) := by decide +kernel
theorem dX4_init_942 : decode cX4_init 942 = .ok (.bipush 10, 2) := by decide +kernel
theorem dX4_init_944 : decode cX4_init 944 = .ok (.iastore, 1) := by decide +kernel
theorem dX4_init_945 : decode cX4_init 945 = .ok (.dup, 1) := by decide +kernel
theorem dX4_init_946 : decode cX4_init 946 = .ok (.bipush 48, 2) := by decide +kernel
theorem dX4_init_948 : decode cX4_init 948 = .ok (.bipush 10, 2) := by decide +kernel
theorem dX4_init_950 : decode cX4_init 950 = .ok (.iastore, 1) := by decide +kernel
theorem dX4_init_951 : decode cX4_init 951 = .ok (.dup, 1) := by decide +kernel
theorem dX4_init_952 : decode cX4_init 952 = .ok (.bipush 49, 2) := by decide +kernel
theorem dX4_init_954 : decode cX4_init 954 = .ok (.bipush 10, 2) := by decide +kernel
theorem dX4_init_956 : decode cX4_init 956 = .ok (.iastore, 1) := by decide +kernel
theorem dX4_init_957 : decode cX4_init 957 = .ok (.putfield 16, 3) := by decide +kernel
theorem dX4_init_960 : decode cX4_init 960 = .ok (.aload_n 0, 1) := by decide +kernel
theorem dX4_init_961 : decode cX4_init 961 = .ok (.bipush 50, 2) := by decide +kernel
theorem dX4_init_963 : decode cX4_init 963 = .ok (.newarray .boolean, 2) := by decide +kernel
theorem dX4_init_965 : decode cX4_init 965 = .ok (.putfield 19, 3) := by decide +kernel
theorem dX4_init_968 : decode cX4_init 968 = .ok (.aload_n 0, 1) := by decide +kernel
theorem dX4_init_969 : decode cX4_init 969 = .ok (.bipush 110, 2) := by decide +kernel
theorem dX4_init_971 : decode cX4_init 971 = .ok (.putfield 23, 3) := by decide +kernel
theorem dX4_init_974 : decode cX4_init 974 = .ok (.aload_n 0, 1) := by decide +kernel
theorem dX4_init_975 : decode cX4_init 975 = .ok (.iconst (-1), 1) := by decide +kernel
theorem dX4_init_976 : decode cX4_init 976 = .ok (.putfield 27, 3) := by decide +kernel
theorem dX4_init_979 : decode cX4_init 979 = .ok (.aload_n 0, 1) := by decide +kernel
theorem dX4_init_980 : decode cX4_init 980 = .ok (.sipush 10000, 3) := by decide +kernel
theorem dX4_init_983 : decode cX4_init 983 = .ok (.putfield 30, 3) := by decide +kernel
theorem dX4_init_986 : decode cX4_init 986 = .ok (.aload_n 0, 1) := by decide +kernel
theorem dX4_init_987 : decode cX4_init 987 = .ok (.bipush 16, 2) := by decide +kernel
theorem dX4_init_989 : decode cX4_init 989 = .ok (.newarray .long, 2) := by decide +kernel
theorem dX4_init_991 : decode cX4_init 991 = .ok (.putfield 33, 3) := by decide +kernel
theorem dX4_init_994 : decode cX4_init 994 = .ok (.aload_n 0, 1) := by decide +kernel
theorem dX4_init_995 : decode cX4_init 995 = .ok (.bipush 60, 2) := by decide +kernel
theorem dX4_init_997 : decode cX4_init 997 = .ok (.newarray .int, 2) := by decide +kernel
theorem dX4_init_999 : decode cX4_init 999 = .ok (.putfield 37, 3) := by decide +kernel
theorem dX4_init_1002 : decode cX4_init 1002 = .ok (.aload_n 0, 1) := by decide +kernel
theorem dX4_init_1003 : decode cX4_init 1003 = .ok (.bipush 60, 2) := by decide +kernel
theorem dX4_init_1005 : decode cX4_init 1005 = .ok (.newarray .int, 2) := by decide +kernel
theorem dX4_init_1007 : decode cX4_init 1007 = .ok (.putfield 40, 3) := by decide +kernel
theorem dX4_init_1010 : decode cX4_init 1010 = .ok (.aload_n 0, 1) := by decide +kernel
theorem dX4_init_1011 : decode cX4_init 1011 = .ok (.bipush 60, 2) := by decide +kernel
theorem dX4_init_1013 : decode cX4_init 1013 = .ok (.newarray .boolean, 2) := by decide +kernel
theorem dX4_init_1015 : decode cX4_init 1015 = .ok (.putfield 43, 3) := by decide +kernel
theorem dX4_init_1018 : decode cX4_init 1018 = .ok (.aload_n 0, 1) := by decide +kernel
theorem dX4_init_1019 : decode cX4_init 1019 = .ok (.bipush 60, 2) := by decide +kernel
theorem dX4_init_1021 : decode cX4_init 1021 = .ok (.newarray .int, 2) := by decide +kernel
theorem dX4_init_1023 : decode cX4_init 1023 = .ok (.putfield 46, 3) := by decide +kernel
theorem dX4_init_1026 : decode cX4_init 1026 = .ok (.aload_n 0, 1) := by decide +kernel
theorem dX4_init_1027 : decode cX4_init 1027 = .ok (.bipush 6, 2) := by decide +kernel
theorem dX4_init_1029 : decode cX4_init 1029 = .ok (.newarray .boolean, 2) := by decide +kernel
theorem dX4_init_1031 : decode cX4_init 1031 = .ok (.putfield 49, 3) := by decide +kernel
theorem dX4_init_1034 : decode cX4_init 1034 = .ok (.return_, 1) := by decide +kernel

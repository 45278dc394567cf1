theorem dL_known_900 : decode cL_known 900 = .ok (.invokevirtual 67, 3) := by decide +kernel
theorem dL_known_903 : decode cL_known 903 = .ok (.sipush 174, 3) := by decide +kernel
theorem dL_known_906 : decode cL_known 906 = .ok (.if_icmp .ne 136, 3) := by decide +kernel
theorem dL_known_909 : decode cL_known 909 = .ok (.aload_n 0, 1) := by decide +kernel
theorem dL_known_910 : decode cL_known 910 = .ok (.iconst 1, 1) := by decide +kernel
theorem dL_known_911 : decode cL_known 911 = .ok (.iconst 2, 1) := by decide +kernel
theorem dL_known_912 : decode cL_known 912 = .ok (.iconst 1, 1) := by decide +kernel
theorem dL_known_913 : decode cL_known 913 = .ok (.invokevirtual 67, 3) := by decide +kernel
theorem dL_known_916 : decode cL_known 916 = .ok (.bipush 7, 2) := by decide +kernel
theorem dL_known_918 : decode cL_known 918 = .ok (.if_icmp .ne 124, 3) := by decide +kernel
theorem dL_known_921 : decode cL_known 921 = .ok (.aload_n 0, 1) := by decide +kernel
theorem dL_known_922 : decode cL_known 922 = .ok (.iconst 1, 1) := by decide +kernel
theorem dL_known_923 : decode cL_known 923 = .ok (.iconst 2, 1) := by decide +kernel
theorem dL_known_924 : decode cL_known 924 = .ok (.iconst 2, 1) := by decide +kernel
theorem dL_known_925 : decode cL_known 925 = .ok (.invokevirtual 67, 3) := by decide +kernel
theorem dL_known_928 : decode cL_known 928 = .ok (.iconst 5, 1) := by decide +kernel
theorem dL_known_929 : decode cL_known 929 = .ok (.if_icmp .ne 113, 3) := by decide +kernel
theorem dL_known_932 : decode cL_known 932 = .ok (.aload_n 0, 1) := by decide +kernel
theorem dL_known_933 : decode cL_known 933 = .ok (.iconst 2, 1) := by decide +kernel
theorem dL_known_934 : decode cL_known 934 = .ok (.iconst 1, 1) := by decide +kernel
theorem dL_known_935 : decode cL_known 935 = .ok (.iconst 1, 1) := by decide +kernel
theorem dL_known_936 : decode cL_known 936 = .ok (.invokevirtual 67, 3) := by decide +kernel
theorem dL_known_939 : decode cL_known 939 = .ok (.iconst 5, 1) := by decide +kernel
theorem dL_known_940 : decode cL_known 940 = .ok (.if_icmp .ne 102, 3) := by decide +kernel
theorem dL_known_943 : decode cL_known 943 = .ok (.aload_n 0, 1) := by decide +kernel
theorem dL_known_944 : decode cL_known 944 = .ok (.iconst 0, 1) := by decide +kernel
theorem dL_known_945 : decode cL_known 945 = .ok (.iconst 1, 1) := by decide +kernel
theorem dL_known_946 : decode cL_known 946 = .ok (.iconst 0, 1) := by decide +kernel
theorem dL_known_947 : decode cL_known 947 = .ok (.invokevirtual 67, 3) := by decide +kernel
theorem dL_known_950 : decode cL_known 950 = .ok (.bipush (-4), 2) := by decide +kernel
theorem dL_known_952 : decode cL_known 952 = .ok (.if_icmp .ne 90, 3) := by decide +kernel
theorem dL_known_955 : decode cL_known 955 = .ok (.aload_n 0, 1) := by decide +kernel
theorem dL_known_956 : decode cL_known 956 = .ok (.iconst 2, 1) := by decide +kernel
theorem dL_known_957 : decode cL_known 957 = .ok (.ldc 194, 2) := by decide +kernel
theorem dL_known_959 : decode cL_known 959 = .ok (.invokevirtual 39, 3) := by decide +kernel
theorem dL_known_962 : decode cL_known 962 = .ok (.ldc 195, 2) := by decide +kernel
theorem dL_known_964 : decode cL_known 964 = .ok (.if_icmp .ne 78, 3) := by decide +kernel
theorem dL_known_967 : decode cL_known 967 = .ok (.aload_n 0, 1) := by decide +kernel
theorem dL_known_968 : decode cL_known 968 = .ok (.iconst 1, 1) := by decide +kernel
theorem dL_known_969 : decode cL_known 969 = .ok (.iconst 1, 1) := by decide +kernel
theorem dL_known_970 : decode cL_known 970 = .ok (.iconst 2, 1) := by decide +kernel
theorem dL_known_971 : decode cL_known 971 = .ok (.iconst 1, 1) := by decide +kernel
theorem dL_known_972 : decode cL_known 972 = .ok (.invokevirtual 63, 3) := by decide +kernel
theorem dL_known_975 : decode cL_known 975 = .ok (.bipush (-4), 2) := by decide +kernel
theorem dL_known_977 : decode cL_known 977 = .ok (.if_icmp .ne 65, 3) := by decide +kernel
theorem dL_known_980 : decode cL_known 980 = .ok (.aload_n 0, 1) := by decide +kernel
theorem dL_known_981 : decode cL_known 981 = .ok (.iconst 1, 1) := by decide +kernel
theorem dL_known_982 : decode cL_known 982 = .ok (.iconst 2, 1) := by decide +kernel
theorem dL_known_983 : decode cL_known 983 = .ok (.invokevirtual 60, 3) := by decide +kernel
theorem dL_known_986 : decode cL_known 986 = .ok (.ifCond .ne 56, 3) := by decide +kernel
theorem dL_known_989 : decode cL_known 989 = .ok (.aload_n 0, 1) := by decide +kernel
theorem dL_known_990 : decode cL_known 990 = .ok (.iconst 1, 1) := by decide +kernel
theorem dL_known_991 : decode cL_known 991 = .ok (.invokevirtual 51, 3) := by decide +kernel
theorem dL_known_994 : decode cL_known 994 = .ok (.bipush 6, 2) := by decide +kernel
theorem dL_known_996 : decode cL_known 996 = .ok (.if_icmp .ne 46, 3) := by decide +kernel
theorem dL_known_999 : decode cL_known 999 = .ok (.aload_n 0, 1) := by decide +kernel
theorem dL_known_1000 : decode cL_known 1000 = .ok (.iconst 1, 1) := by decide +kernel
theorem dL_known_1001 : decode cL_known 1001 = .ok (.bipush 7, 2) := by decide +kernel
theorem dL_known_1003 : decode cL_known 1003 = .ok (.invokevirtual 29, 3) := by decide +kernel
theorem dL_known_1006 : decode cL_known 1006 = .ok (.ifCond .ne 36, 3) := by decide +kernel
theorem dL_known_1009 : decode cL_known 1009 = .ok (.aload_n 0, 1) := by decide +kernel
theorem dL_known_1010 : decode cL_known 1010 = .ok (.iconst 1, 1) := by decide +kernel
theorem dL_known_1011 : decode cL_known 1011 = .ok (.invokevirtual 51, 3) := by decide +kernel
theorem dL_known_1014 : decode cL_known 1014 = .ok (.ifCond .ne 28, 3) := by decide +kernel
theorem dL_known_1017 : decode cL_known 1017 = .ok (.aload_n 0, 1) := by decide +kernel
theorem dL_known_1018 : decode cL_known 1018 = .ok (.iconst 1, 1) := by decide +kernel
theorem dL_known_1019 : decode cL_known 1019 = .ok (.bipush 8, 2) := by decide +kernel
theorem dL_known_1021 : decode cL_known 1021 = .ok (.invokevirtual 29, 3) := by decide +kernel
theorem dL_known_1024 : decode cL_known 1024 = .ok (.iconst 1, 1) := by decide +kernel
theorem dL_known_1025 : decode cL_known 1025 = .ok (.if_icmp .ne 17, 3) := by decide +kernel
theorem dL_known_1028 : decode cL_known 1028 = .ok (.aload_n 0, 1) := by decide +kernel
theorem dL_known_1029 : decode cL_known 1029 = .ok (.iconst 2, 1) := by decide +kernel
theorem dL_known_1030 : decode cL_known 1030 = .ok (.invokevirtual 13, 3) := by decide +kernel
theorem dL_known_1033 : decode cL_known 1033 = .ok (.bipush 6, 2) := by decide +kernel
theorem dL_known_1035 : decode cL_known 1035 = .ok (.if_icmp .ne 7, 3) := by decide +kernel
theorem dL_known_1038 : decode cL_known 1038 = .ok (.iconst 1, 1) := by decide +kernel
theorem dL_known_1039 : decode cL_known 1039 = .ok (.goto 4, 3) := by decide +kernel
theorem dL_known_1042 : decode cL_known 1042 = .ok (.iconst 0, 1) := by decide +kernel
theorem dL_known_1043 : decode cL_known 1043 = .ok (.ireturn, 1) := by decide +kernel

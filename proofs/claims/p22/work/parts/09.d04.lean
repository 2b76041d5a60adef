theorem dL_pays_851 : decode cL_pays 851 = .ok (.iconst 2, 1) := by decide +kernel
theorem dL_pays_852 : decode cL_pays 852 = .ok (.invokevirtual 57, 3) := by decide +kernel
theorem dL_pays_855 : decode cL_pays 855 = .ok (.sipush 19310, 3) := by decide +kernel
theorem dL_pays_858 : decode cL_pays 858 = .ok (.if_icmp .ne 42, 3) := by decide +kernel
theorem dL_pays_861 : decode cL_pays 861 = .ok (.aload_n 0, 1) := by decide +kernel
theorem dL_pays_862 : decode cL_pays 862 = .ok (.iconst 4, 1) := by decide +kernel
theorem dL_pays_863 : decode cL_pays 863 = .ok (.invokevirtual 64, 3) := by decide +kernel
theorem dL_pays_866 : decode cL_pays 866 = .ok (.sipush 1996, 3) := by decide +kernel
theorem dL_pays_869 : decode cL_pays 869 = .ok (.if_icmp .ne 31, 3) := by decide +kernel
theorem dL_pays_872 : decode cL_pays 872 = .ok (.aload_n 0, 1) := by decide +kernel
theorem dL_pays_873 : decode cL_pays 873 = .ok (.iconst 2, 1) := by decide +kernel
theorem dL_pays_874 : decode cL_pays 874 = .ok (.iconst 1, 1) := by decide +kernel
theorem dL_pays_875 : decode cL_pays 875 = .ok (.invokevirtual 42, 3) := by decide +kernel
theorem dL_pays_878 : decode cL_pays 878 = .ok (.ifCond .ne 22, 3) := by decide +kernel
theorem dL_pays_881 : decode cL_pays 881 = .ok (.aload_n 0, 1) := by decide +kernel
theorem dL_pays_882 : decode cL_pays 882 = .ok (.iconst 2, 1) := by decide +kernel
theorem dL_pays_883 : decode cL_pays 883 = .ok (.invokevirtual 54, 3) := by decide +kernel
theorem dL_pays_886 : decode cL_pays 886 = .ok (.iconst 1, 1) := by decide +kernel
theorem dL_pays_887 : decode cL_pays 887 = .ok (.if_icmp .ne 13, 3) := by decide +kernel
theorem dL_pays_890 : decode cL_pays 890 = .ok (.aload_n 0, 1) := by decide +kernel
theorem dL_pays_891 : decode cL_pays 891 = .ok (.bipush 6, 2) := by decide +kernel
theorem dL_pays_893 : decode cL_pays 893 = .ok (.iconst 2, 1) := by decide +kernel
theorem dL_pays_894 : decode cL_pays 894 = .ok (.invokestatic 90, 3) := by decide +kernel
theorem dL_pays_897 : decode cL_pays 897 = .ok (.ifCond .ne 5, 3) := by decide +kernel
theorem dL_pays_900 : decode cL_pays 900 = .ok (.iconst 0, 1) := by decide +kernel
theorem dL_pays_901 : decode cL_pays 901 = .ok (.ireturn, 1) := by decide +kernel
theorem dL_pays_902 : decode cL_pays 902 = .ok (.aload_n 0, 1) := by decide +kernel
theorem dL_pays_903 : decode cL_pays 903 = .ok (.iconst 1, 1) := by decide +kernel
theorem dL_pays_904 : decode cL_pays 904 = .ok (.invokevirtual 39, 3) := by decide +kernel
theorem dL_pays_907 : decode cL_pays 907 = .ok (.sipush 14250, 3) := by decide +kernel
theorem dL_pays_910 : decode cL_pays 910 = .ok (.if_icmp .ne 144, 3) := by decide +kernel
theorem dL_pays_913 : decode cL_pays 913 = .ok (.aload_n 0, 1) := by decide +kernel
theorem dL_pays_914 : decode cL_pays 914 = .ok (.bipush 6, 2) := by decide +kernel
theorem dL_pays_916 : decode cL_pays 916 = .ok (.iconst 1, 1) := by decide +kernel
theorem dL_pays_917 : decode cL_pays 917 = .ok (.iconst 0, 1) := by decide +kernel
theorem dL_pays_918 : decode cL_pays 918 = .ok (.iconst 0, 1) := by decide +kernel
theorem dL_pays_919 : decode cL_pays 919 = .ok (.iconst 0, 1) := by decide +kernel
theorem dL_pays_920 : decode cL_pays 920 = .ok (.invokestatic 80, 3) := by decide +kernel
theorem dL_pays_923 : decode cL_pays 923 = .ok (.bipush (-73), 2) := by decide +kernel
theorem dL_pays_925 : decode cL_pays 925 = .ok (.if_icmp .ne 129, 3) := by decide +kernel
theorem dL_pays_928 : decode cL_pays 928 = .ok (.aload_n 0, 1) := by decide +kernel
theorem dL_pays_929 : decode cL_pays 929 = .ok (.bipush 7, 2) := by decide +kernel
theorem dL_pays_931 : decode cL_pays 931 = .ok (.iconst 1, 1) := by decide +kernel
theorem dL_pays_932 : decode cL_pays 932 = .ok (.iconst 1, 1) := by decide +kernel
theorem dL_pays_933 : decode cL_pays 933 = .ok (.iconst 0, 1) := by decide +kernel
theorem dL_pays_934 : decode cL_pays 934 = .ok (.iconst 0, 1) := by decide +kernel
theorem dL_pays_935 : decode cL_pays 935 = .ok (.invokestatic 80, 3) := by decide +kernel
theorem dL_pays_938 : decode cL_pays 938 = .ok (.bipush (-73), 2) := by decide +kernel
theorem dL_pays_940 : decode cL_pays 940 = .ok (.if_icmp .ne 114, 3) := by decide +kernel
theorem dL_pays_943 : decode cL_pays 943 = .ok (.aload_n 0, 1) := by decide +kernel
theorem dL_pays_944 : decode cL_pays 944 = .ok (.bipush 7, 2) := by decide +kernel
theorem dL_pays_946 : decode cL_pays 946 = .ok (.iconst 1, 1) := by decide +kernel
theorem dL_pays_947 : decode cL_pays 947 = .ok (.bipush 6, 2) := by decide +kernel
theorem dL_pays_949 : decode cL_pays 949 = .ok (.iconst 0, 1) := by decide +kernel
theorem dL_pays_950 : decode cL_pays 950 = .ok (.iconst 0, 1) := by decide +kernel
theorem dL_pays_951 : decode cL_pays 951 = .ok (.invokestatic 80, 3) := by decide +kernel
theorem dL_pays_954 : decode cL_pays 954 = .ok (.bipush (-72), 2) := by decide +kernel
theorem dL_pays_956 : decode cL_pays 956 = .ok (.if_icmp .ne 98, 3) := by decide +kernel
theorem dL_pays_959 : decode cL_pays 959 = .ok (.aload_n 0, 1) := by decide +kernel
theorem dL_pays_960 : decode cL_pays 960 = .ok (.iconst 1, 1) := by decide +kernel
theorem dL_pays_961 : decode cL_pays 961 = .ok (.invokevirtual 45, 3) := by decide +kernel
theorem dL_pays_964 : decode cL_pays 964 = .ok (.ifCond .ne 90, 3) := by decide +kernel
theorem dL_pays_967 : decode cL_pays 967 = .ok (.aload_n 0, 1) := by decide +kernel
theorem dL_pays_968 : decode cL_pays 968 = .ok (.bipush 9, 2) := by decide +kernel
theorem dL_pays_970 : decode cL_pays 970 = .ok (.iconst 1, 1) := by decide +kernel
theorem dL_pays_971 : decode cL_pays 971 = .ok (.iconst 0, 1) := by decide +kernel
theorem dL_pays_972 : decode cL_pays 972 = .ok (.iconst 0, 1) := by decide +kernel
theorem dL_pays_973 : decode cL_pays 973 = .ok (.iconst 0, 1) := by decide +kernel
theorem dL_pays_974 : decode cL_pays 974 = .ok (.invokestatic 80, 3) := by decide +kernel
theorem dL_pays_977 : decode cL_pays 977 = .ok (.bipush (-71), 2) := by decide +kernel
theorem dL_pays_979 : decode cL_pays 979 = .ok (.if_icmp .ne 75, 3) := by decide +kernel
theorem dL_pays_982 : decode cL_pays 982 = .ok (.aload_n 0, 1) := by decide +kernel
theorem dL_pays_983 : decode cL_pays 983 = .ok (.iconst 1, 1) := by decide +kernel
theorem dL_pays_984 : decode cL_pays 984 = .ok (.invokevirtual 54, 3) := by decide +kernel
theorem dL_pays_987 : decode cL_pays 987 = .ok (.ifCond .ne 67, 3) := by decide +kernel
theorem dL_pays_990 : decode cL_pays 990 = .ok (.aload_n 0, 1) := by decide +kernel
theorem dL_pays_991 : decode cL_pays 991 = .ok (.iconst 1, 1) := by decide +kernel
theorem dL_pays_992 : decode cL_pays 992 = .ok (.invokevirtual 57, 3) := by decide +kernel
theorem dL_pays_995 : decode cL_pays 995 = .ok (.ifCond .ne 59, 3) := by decide +kernel
theorem dL_pays_998 : decode cL_pays 998 = .ok (.aload_n 0, 1) := by decide +kernel
theorem dL_pays_999 : decode cL_pays 999 = .ok (.iconst 0, 1) := by decide +kernel
theorem dL_pays_1000 : decode cL_pays 1000 = .ok (.iconst 0, 1) := by decide +kernel
theorem dL_pays_1001 : decode cL_pays 1001 = .ok (.invokevirtual 67, 3) := by decide +kernel
theorem dL_pays_1004 : decode cL_pays 1004 = .ok (.bipush 8, 2) := by decide +kernel
theorem dL_pays_1006 : decode cL_pays 1006 = .ok (.if_icmp .ne 48, 3) := by decide +kernel
theorem dL_pays_1009 : decode cL_pays 1009 = .ok (.aload_n 0, 1) := by decide +kernel
theorem dL_pays_1010 : decode cL_pays 1010 = .ok (.iconst 0, 1) := by decide +kernel
theorem dL_pays_1011 : decode cL_pays 1011 = .ok (.invokevirtual 64, 3) := by decide +kernel
theorem dL_pays_1014 : decode cL_pays 1014 = .ok (.ifCond .ne 40, 3) := by decide +kernel
theorem dL_pays_1017 : decode cL_pays 1017 = .ok (.aload_n 0, 1) := by decide +kernel
theorem dL_pays_1018 : decode cL_pays 1018 = .ok (.iconst 0, 1) := by decide +kernel
theorem dL_pays_1019 : decode cL_pays 1019 = .ok (.iconst 0, 1) := by decide +kernel
theorem dL_pays_1020 : decode cL_pays 1020 = .ok (.sipush 363, 3) := by decide +kernel
theorem dL_pays_1023 : decode cL_pays 1023 = .ok (.invokevirtual 60, 3) := by decide +kernel
theorem dL_pays_1026 : decode cL_pays 1026 = .ok (.sipush 7000, 3) := by decide +kernel
theorem dL_pays_1029 : decode cL_pays 1029 = .ok (.if_icmp .ne 25, 3) := by decide +kernel
theorem dL_pays_1032 : decode cL_pays 1032 = .ok (.aload_n 0, 1) := by decide +kernel
theorem dL_pays_1033 : decode cL_pays 1033 = .ok (.invokevirtual 75, 3) := by decide +kernel
theorem dL_pays_1036 : decode cL_pays 1036 = .ok (.iconst 3, 1) := by decide +kernel
theorem dL_pays_1037 : decode cL_pays 1037 = .ok (.if_icmp .ne 17, 3) := by decide +kernel
theorem dL_pays_1040 : decode cL_pays 1040 = .ok (.aload_n 0, 1) := by decide +kernel
theorem dL_pays_1041 : decode cL_pays 1041 = .ok (.bipush 6, 2) := by decide +kernel
theorem dL_pays_1043 : decode cL_pays 1043 = .ok (.iconst 2, 1) := by decide +kernel
theorem dL_pays_1044 : decode cL_pays 1044 = .ok (.invokestatic 90, 3) := by decide +kernel
theorem dL_pays_1047 : decode cL_pays 1047 = .ok (.ifCond .eq 7, 3) := by decide +kernel
theorem dL_pays_1050 : decode cL_pays 1050 = .ok (.iconst 1, 1) := by decide +kernel
theorem dL_pays_1051 : decode cL_pays 1051 = .ok (.goto 4, 3) := by decide +kernel
theorem dL_pays_1054 : decode cL_pays 1054 = .ok (.iconst 0, 1) := by decide +kernel
theorem dL_pays_1055 : decode cL_pays 1055 = .ok (.ireturn, 1) := by decide +kernel

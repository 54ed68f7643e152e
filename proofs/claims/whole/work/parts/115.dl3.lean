theorem dl_803 : decode code 803 = .ok (.aload_n 1, 1) := by decide +kernel
theorem dl_804 : decode code 804 = .ok (.invokevirtual 106, 3) := by decide +kernel
theorem dl_807 : decode code 807 = .ok (.aload_n 2, 1) := by decide +kernel
theorem dl_808 : decode code 808 = .ok (.invokevirtual 109, 3) := by decide +kernel
theorem dl_811 : decode code 811 = .ok (.if_icmp .eq 544, 3) := by decide +kernel
theorem dl_814 : decode code 814 = .ok (.iconst 0, 1) := by decide +kernel
theorem dl_815 : decode code 815 = .ok (.ireturn, 1) := by decide +kernel
theorem dl_816 : decode code 816 = .ok (.aload_n 1, 1) := by decide +kernel
theorem dl_817 : decode code 817 = .ok (.invokevirtual 110, 3) := by decide +kernel
theorem dl_820 : decode code 820 = .ok (.aload_n 2, 1) := by decide +kernel
theorem dl_821 : decode code 821 = .ok (.invokevirtual 113, 3) := by decide +kernel
theorem dl_824 : decode code 824 = .ok (.if_icmp .eq 531, 3) := by decide +kernel
theorem dl_827 : decode code 827 = .ok (.iconst 0, 1) := by decide +kernel
theorem dl_828 : decode code 828 = .ok (.ireturn, 1) := by decide +kernel
theorem dl_829 : decode code 829 = .ok (.aload_n 1, 1) := by decide +kernel
theorem dl_830 : decode code 830 = .ok (.aload_n 0, 1) := by decide +kernel
theorem dl_831 : decode code 831 = .ok (.iload 4, 2) := by decide +kernel
theorem dl_833 : decode code 833 = .ok (.iconst 1, 1) := by decide +kernel
theorem dl_834 : decode code 834 = .ok (.iadd, 1) := by decide +kernel
theorem dl_835 : decode code 835 = .ok (.iaload, 1) := by decide +kernel
theorem dl_836 : decode code 836 = .ok (.aload_n 0, 1) := by decide +kernel
theorem dl_837 : decode code 837 = .ok (.iload 4, 2) := by decide +kernel
theorem dl_839 : decode code 839 = .ok (.iconst 2, 1) := by decide +kernel
theorem dl_840 : decode code 840 = .ok (.iadd, 1) := by decide +kernel
theorem dl_841 : decode code 841 = .ok (.iaload, 1) := by decide +kernel
theorem dl_842 : decode code 842 = .ok (.ifCond .eq 7, 3) := by decide +kernel
theorem dl_845 : decode code 845 = .ok (.iconst 1, 1) := by decide +kernel
theorem dl_846 : decode code 846 = .ok (.goto 4, 3) := by decide +kernel
theorem dl_849 : decode code 849 = .ok (.iconst 0, 1) := by decide +kernel
theorem dl_850 : decode code 850 = .ok (.aload_n 3, 1) := by decide +kernel
theorem dl_851 : decode code 851 = .ok (.invokestatic 114, 3) := by decide +kernel
theorem dl_854 : decode code 854 = .ok (.istore 5, 2) := by decide +kernel
theorem dl_856 : decode code 856 = .ok (.aload_n 2, 1) := by decide +kernel
theorem dl_857 : decode code 857 = .ok (.aload_n 0, 1) := by decide +kernel
theorem dl_858 : decode code 858 = .ok (.iload 4, 2) := by decide +kernel
theorem dl_860 : decode code 860 = .ok (.iconst 1, 1) := by decide +kernel
theorem dl_861 : decode code 861 = .ok (.iadd, 1) := by decide +kernel
theorem dl_862 : decode code 862 = .ok (.iaload, 1) := by decide +kernel
theorem dl_863 : decode code 863 = .ok (.aload_n 0, 1) := by decide +kernel
theorem dl_864 : decode code 864 = .ok (.iload 4, 2) := by decide +kernel
theorem dl_866 : decode code 866 = .ok (.iconst 2, 1) := by decide +kernel
theorem dl_867 : decode code 867 = .ok (.iadd, 1) := by decide +kernel
theorem dl_868 : decode code 868 = .ok (.iaload, 1) := by decide +kernel
theorem dl_869 : decode code 869 = .ok (.ifCond .eq 7, 3) := by decide +kernel
theorem dl_872 : decode code 872 = .ok (.iconst 1, 1) := by decide +kernel
theorem dl_873 : decode code 873 = .ok (.goto 4, 3) := by decide +kernel
theorem dl_876 : decode code 876 = .ok (.iconst 0, 1) := by decide +kernel
theorem dl_877 : decode code 877 = .ok (.invokevirtual 117, 3) := by decide +kernel
theorem dl_880 : decode code 880 = .ok (.lstore 6, 2) := by decide +kernel
theorem dl_882 : decode code 882 = .ok (.aload_n 2, 1) := by decide +kernel
theorem dl_883 : decode code 883 = .ok (.invokevirtual 79, 3) := by decide +kernel
theorem dl_886 : decode code 886 = .ok (.iload 5, 2) := by decide +kernel
theorem dl_888 : decode code 888 = .ok (.if_icmp .eq 5, 3) := by decide +kernel
theorem dl_891 : decode code 891 = .ok (.iconst 0, 1) := by decide +kernel
theorem dl_892 : decode code 892 = .ok (.ireturn, 1) := by decide +kernel
theorem dl_893 : decode code 893 = .ok (.iload 5, 2) := by decide +kernel
theorem dl_895 : decode code 895 = .ok (.ifCond .ne 14, 3) := by decide +kernel
theorem dl_898 : decode code 898 = .ok (.aload_n 3, 1) := by decide +kernel
theorem dl_899 : decode code 899 = .ok (.iconst 0, 1) := by decide +kernel
theorem dl_900 : decode code 900 = .ok (.laload, 1) := by decide +kernel
theorem dl_901 : decode code 901 = .ok (.lload 6, 2) := by decide +kernel
theorem dl_903 : decode code 903 = .ok (.lcmp, 1) := by decide +kernel
theorem dl_904 : decode code 904 = .ok (.ifCond .eq 5, 3) := by decide +kernel
theorem dl_907 : decode code 907 = .ok (.iconst 0, 1) := by decide +kernel
theorem dl_908 : decode code 908 = .ok (.ireturn, 1) := by decide +kernel
theorem dl_909 : decode code 909 = .ok (.goto 446, 3) := by decide +kernel
theorem dl_912 : decode code 912 = .ok (.aload_n 1, 1) := by decide +kernel
theorem dl_913 : decode code 913 = .ok (.aload_n 0, 1) := by decide +kernel
theorem dl_914 : decode code 914 = .ok (.iload 4, 2) := by decide +kernel
theorem dl_916 : decode code 916 = .ok (.iconst 1, 1) := by decide +kernel
theorem dl_917 : decode code 917 = .ok (.iadd, 1) := by decide +kernel
theorem dl_918 : decode code 918 = .ok (.iaload, 1) := by decide +kernel
theorem dl_919 : decode code 919 = .ok (.aload_n 0, 1) := by decide +kernel
theorem dl_920 : decode code 920 = .ok (.iload 4, 2) := by decide +kernel
theorem dl_922 : decode code 922 = .ok (.iconst 2, 1) := by decide +kernel
theorem dl_923 : decode code 923 = .ok (.iadd, 1) := by decide +kernel
theorem dl_924 : decode code 924 = .ok (.iaload, 1) := by decide +kernel
theorem dl_925 : decode code 925 = .ok (.aload_n 0, 1) := by decide +kernel
theorem dl_926 : decode code 926 = .ok (.iload 4, 2) := by decide +kernel
theorem dl_928 : decode code 928 = .ok (.iconst 3, 1) := by decide +kernel
theorem dl_929 : decode code 929 = .ok (.iadd, 1) := by decide +kernel
theorem dl_930 : decode code 930 = .ok (.iaload, 1) := by decide +kernel
theorem dl_931 : decode code 931 = .ok (.ifCond .eq 7, 3) := by decide +kernel
theorem dl_934 : decode code 934 = .ok (.iconst 1, 1) := by decide +kernel
theorem dl_935 : decode code 935 = .ok (.goto 4, 3) := by decide +kernel
theorem dl_938 : decode code 938 = .ok (.iconst 0, 1) := by decide +kernel
theorem dl_939 : decode code 939 = .ok (.aload_n 3, 1) := by decide +kernel
theorem dl_940 : decode code 940 = .ok (.invokestatic 118, 3) := by decide +kernel
theorem dl_943 : decode code 943 = .ok (.istore 5, 2) := by decide +kernel
theorem dl_945 : decode code 945 = .ok (.aload_n 2, 1) := by decide +kernel
theorem dl_946 : decode code 946 = .ok (.aload_n 0, 1) := by decide +kernel
theorem dl_947 : decode code 947 = .ok (.iload 4, 2) := by decide +kernel
theorem dl_949 : decode code 949 = .ok (.iconst 1, 1) := by decide +kernel
theorem dl_950 : decode code 950 = .ok (.iadd, 1) := by decide +kernel
theorem dl_951 : decode code 951 = .ok (.iaload, 1) := by decide +kernel
theorem dl_952 : decode code 952 = .ok (.aload_n 0, 1) := by decide +kernel
theorem dl_953 : decode code 953 = .ok (.iload 4, 2) := by decide +kernel
theorem dl_955 : decode code 955 = .ok (.iconst 2, 1) := by decide +kernel
theorem dl_956 : decode code 956 = .ok (.iadd, 1) := by decide +kernel
theorem dl_957 : decode code 957 = .ok (.iaload, 1) := by decide +kernel
theorem dl_958 : decode code 958 = .ok (.aload_n 0, 1) := by decide +kernel
theorem dl_959 : decode code 959 = .ok (.iload 4, 2) := by decide +kernel
theorem dl_961 : decode code 961 = .ok (.iconst 3, 1) := by decide +kernel
theorem dl_962 : decode code 962 = .ok (.iadd, 1) := by decide +kernel
theorem dl_963 : decode code 963 = .ok (.iaload, 1) := by decide +kernel
theorem dl_964 : decode code 964 = .ok (.ifCond .eq 7, 3) := by decide +kernel
theorem dl_967 : decode code 967 = .ok (.iconst 1, 1) := by decide +kernel
theorem dl_968 : decode code 968 = .ok (.goto 4, 3) := by decide +kernel
theorem dl_971 : decode code 971 = .ok (.iconst 0, 1) := by decide +kernel
theorem dl_972 : decode code 972 = .ok (.invokevirtual 121, 3) := by decide +kernel
theorem dl_975 : decode code 975 = .ok (.lstore 6, 2) := by decide +kernel
theorem dl_977 : decode code 977 = .ok (.aload_n 2, 1) := by decide +kernel
theorem dl_978 : decode code 978 = .ok (.invokevirtual 79, 3) := by decide +kernel
theorem dl_981 : decode code 981 = .ok (.iload 5, 2) := by decide +kernel
theorem dl_983 : decode code 983 = .ok (.if_icmp .eq 5, 3) := by decide +kernel
theorem dl_986 : decode code 986 = .ok (.iconst 0, 1) := by decide +kernel
theorem dl_987 : decode code 987 = .ok (.ireturn, 1) := by decide +kernel
theorem dl_988 : decode code 988 = .ok (.iload 5, 2) := by decide +kernel
theorem dl_990 : decode code 990 = .ok (.ifCond .ne 14, 3) := by decide +kernel
theorem dl_993 : decode code 993 = .ok (.aload_n 3, 1) := by decide +kernel
theorem dl_994 : decode code 994 = .ok (.iconst 0, 1) := by decide +kernel
theorem dl_995 : decode code 995 = .ok (.laload, 1) := by decide +kernel
theorem dl_996 : decode code 996 = .ok (.lload 6, 2) := by decide +kernel
theorem dl_998 : decode code 998 = .ok (.lcmp, 1) := by decide +kernel
theorem dl_999 : decode code 999 = .ok (.ifCond .eq 5, 3) := by decide +kernel
theorem dl_1002 : decode code 1002 = .ok (.iconst 0, 1) := by decide +kernel
theorem dl_1003 : decode code 1003 = .ok (.ireturn, 1) := by decide +kernel
theorem dl_1004 : decode code 1004 = .ok (.goto 351, 3) := by decide +kernel
theorem dl_1007 : decode code 1007 = .ok (.aload_n 1, 1) := by decide +kernel
theorem dl_1008 : decode code 1008 = .ok (.aload_n 0, 1) := by decide +kernel
theorem dl_1009 : decode code 1009 = .ok (.iload 4, 2) := by decide +kernel
theorem dl_1011 : decode code 1011 = .ok (.iconst 1, 1) := by decide +kernel
theorem dl_1012 : decode code 1012 = .ok (.iadd, 1) := by decide +kernel
theorem dl_1013 : decode code 1013 = .ok (.iaload, 1) := by decide +kernel
theorem dl_1014 : decode code 1014 = .ok (.aload_n 0, 1) := by decide +kernel
theorem dl_1015 : decode code 1015 = .ok (.iload 4, 2) := by decide +kernel
theorem dl_1017 : decode code 1017 = .ok (.iconst 2, 1) := by decide +kernel
theorem dl_1018 : decode code 1018 = .ok (.iadd, 1) := by decide +kernel
theorem dl_1019 : decode code 1019 = .ok (.iaload, 1) := by decide +kernel
theorem dl_1020 : decode code 1020 = .ok (.i2l, 1) := by decide +kernel
theorem dl_1021 : decode code 1021 = .ok (.bipush 32, 2) := by decide +kernel
theorem dl_1023 : decode code 1023 = .ok (.lshl, 1) := by decide +kernel
theorem dl_1024 : decode code 1024 = .ok (.aload_n 0, 1) := by decide +kernel
theorem dl_1025 : decode code 1025 = .ok (.iload 4, 2) := by decide +kernel
theorem dl_1027 : decode code 1027 = .ok (.iconst 3, 1) := by decide +kernel
theorem dl_1028 : decode code 1028 = .ok (.iadd, 1) := by decide +kernel
theorem dl_1029 : decode code 1029 = .ok (.iaload, 1) := by decide +kernel
theorem dl_1030 : decode code 1030 = .ok (.i2l, 1) := by decide +kernel
theorem dl_1031 : decode code 1031 = .ok (.ldc2_w 71, 3) := by decide +kernel
theorem dl_1034 : decode code 1034 = .ok (.land, 1) := by decide +kernel
theorem dl_1035 : decode code 1035 = .ok (.lor, 1) := by decide +kernel
theorem dl_1036 : decode code 1036 = .ok (.aload_n 0, 1) := by decide +kernel
theorem dl_1037 : decode code 1037 = .ok (.iload 4, 2) := by decide +kernel
theorem dl_1039 : decode code 1039 = .ok (.iconst 4, 1) := by decide +kernel
theorem dl_1040 : decode code 1040 = .ok (.iadd, 1) := by decide +kernel
theorem dl_1041 : decode code 1041 = .ok (.iaload, 1) := by decide +kernel
theorem dl_1042 : decode code 1042 = .ok (.i2l, 1) := by decide +kernel
theorem dl_1043 : decode code 1043 = .ok (.bipush 32, 2) := by decide +kernel
theorem dl_1045 : decode code 1045 = .ok (.lshl, 1) := by decide +kernel
theorem dl_1046 : decode code 1046 = .ok (.aload_n 0, 1) := by decide +kernel

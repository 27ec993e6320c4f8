theorem dl_862 : decode code 862 = .ok (.iload_n 3, 1) := by decide +kernel
theorem dl_863 : decode code 863 = .ok (.iconst 2, 1) := by decide +kernel
theorem dl_864 : decode code 864 = .ok (.iadd, 1) := by decide +kernel
theorem dl_865 : decode code 865 = .ok (.iaload, 1) := by decide +kernel
theorem dl_866 : decode code 866 = .ok (.aload_n 0, 1) := by decide +kernel
theorem dl_867 : decode code 867 = .ok (.iload_n 3, 1) := by decide +kernel
theorem dl_868 : decode code 868 = .ok (.iconst 3, 1) := by decide +kernel
theorem dl_869 : decode code 869 = .ok (.iadd, 1) := by decide +kernel
theorem dl_870 : decode code 870 = .ok (.iaload, 1) := by decide +kernel
theorem dl_871 : decode code 871 = .ok (.invokevirtual 111, 3) := by decide +kernel
theorem dl_874 : decode code 874 = .ok (.aload_n 2, 1) := by decide +kernel
theorem dl_875 : decode code 875 = .ok (.aload_n 0, 1) := by decide +kernel
theorem dl_876 : decode code 876 = .ok (.iload_n 3, 1) := by decide +kernel
theorem dl_877 : decode code 877 = .ok (.iconst 1, 1) := by decide +kernel
theorem dl_878 : decode code 878 = .ok (.iadd, 1) := by decide +kernel
theorem dl_879 : decode code 879 = .ok (.iaload, 1) := by decide +kernel
theorem dl_880 : decode code 880 = .ok (.aload_n 0, 1) := by decide +kernel
theorem dl_881 : decode code 881 = .ok (.iload_n 3, 1) := by decide +kernel
theorem dl_882 : decode code 882 = .ok (.iconst 2, 1) := by decide +kernel
theorem dl_883 : decode code 883 = .ok (.iadd, 1) := by decide +kernel
theorem dl_884 : decode code 884 = .ok (.iaload, 1) := by decide +kernel
theorem dl_885 : decode code 885 = .ok (.aload_n 0, 1) := by decide +kernel
theorem dl_886 : decode code 886 = .ok (.iload_n 3, 1) := by decide +kernel
theorem dl_887 : decode code 887 = .ok (.iconst 3, 1) := by decide +kernel
theorem dl_888 : decode code 888 = .ok (.iadd, 1) := by decide +kernel
theorem dl_889 : decode code 889 = .ok (.iaload, 1) := by decide +kernel
theorem dl_890 : decode code 890 = .ok (.invokevirtual 114, 3) := by decide +kernel
theorem dl_893 : decode code 893 = .ok (.if_icmp .eq 199, 3) := by decide +kernel
theorem dl_896 : decode code 896 = .ok (.iconst 0, 1) := by decide +kernel
theorem dl_897 : decode code 897 = .ok (.ireturn, 1) := by decide +kernel
theorem dl_898 : decode code 898 = .ok (.aload_n 1, 1) := by decide +kernel
theorem dl_899 : decode code 899 = .ok (.aload_n 0, 1) := by decide +kernel
theorem dl_900 : decode code 900 = .ok (.iload_n 3, 1) := by decide +kernel
theorem dl_901 : decode code 901 = .ok (.iconst 1, 1) := by decide +kernel
theorem dl_902 : decode code 902 = .ok (.iadd, 1) := by decide +kernel
theorem dl_903 : decode code 903 = .ok (.iaload, 1) := by decide +kernel
theorem dl_904 : decode code 904 = .ok (.invokevirtual 115, 3) := by decide +kernel
theorem dl_907 : decode code 907 = .ok (.aload_n 2, 1) := by decide +kernel
theorem dl_908 : decode code 908 = .ok (.aload_n 0, 1) := by decide +kernel
theorem dl_909 : decode code 909 = .ok (.iload_n 3, 1) := by decide +kernel
theorem dl_910 : decode code 910 = .ok (.iconst 1, 1) := by decide +kernel
theorem dl_911 : decode code 911 = .ok (.iadd, 1) := by decide +kernel
theorem dl_912 : decode code 912 = .ok (.iaload, 1) := by decide +kernel
theorem dl_913 : decode code 913 = .ok (.invokevirtual 118, 3) := by decide +kernel
theorem dl_916 : decode code 916 = .ok (.if_icmp .eq 176, 3) := by decide +kernel
theorem dl_919 : decode code 919 = .ok (.iconst 0, 1) := by decide +kernel
theorem dl_920 : decode code 920 = .ok (.ireturn, 1) := by decide +kernel
theorem dl_921 : decode code 921 = .ok (.aload_n 1, 1) := by decide +kernel
theorem dl_922 : decode code 922 = .ok (.aload_n 0, 1) := by decide +kernel
theorem dl_923 : decode code 923 = .ok (.iload_n 3, 1) := by decide +kernel
theorem dl_924 : decode code 924 = .ok (.iconst 1, 1) := by decide +kernel
theorem dl_925 : decode code 925 = .ok (.iadd, 1) := by decide +kernel
theorem dl_926 : decode code 926 = .ok (.iaload, 1) := by decide +kernel
theorem dl_927 : decode code 927 = .ok (.invokevirtual 119, 3) := by decide +kernel
theorem dl_930 : decode code 930 = .ok (.aload_n 2, 1) := by decide +kernel
theorem dl_931 : decode code 931 = .ok (.aload_n 0, 1) := by decide +kernel
theorem dl_932 : decode code 932 = .ok (.iload_n 3, 1) := by decide +kernel
theorem dl_933 : decode code 933 = .ok (.iconst 1, 1) := by decide +kernel
theorem dl_934 : decode code 934 = .ok (.iadd, 1) := by decide +kernel
theorem dl_935 : decode code 935 = .ok (.iaload, 1) := by decide +kernel
theorem dl_936 : decode code 936 = .ok (.invokevirtual 122, 3) := by decide +kernel
theorem dl_939 : decode code 939 = .ok (.if_icmp .eq 153, 3) := by decide +kernel
theorem dl_942 : decode code 942 = .ok (.iconst 0, 1) := by decide +kernel
theorem dl_943 : decode code 943 = .ok (.ireturn, 1) := by decide +kernel
theorem dl_944 : decode code 944 = .ok (.aload_n 1, 1) := by decide +kernel
theorem dl_945 : decode code 945 = .ok (.aload_n 0, 1) := by decide +kernel
theorem dl_946 : decode code 946 = .ok (.iload_n 3, 1) := by decide +kernel
theorem dl_947 : decode code 947 = .ok (.iconst 1, 1) := by decide +kernel
theorem dl_948 : decode code 948 = .ok (.iadd, 1) := by decide +kernel
theorem dl_949 : decode code 949 = .ok (.iaload, 1) := by decide +kernel
theorem dl_950 : decode code 950 = .ok (.invokevirtual 123, 3) := by decide +kernel
theorem dl_953 : decode code 953 = .ok (.aload_n 2, 1) := by decide +kernel
theorem dl_954 : decode code 954 = .ok (.aload_n 0, 1) := by decide +kernel
theorem dl_955 : decode code 955 = .ok (.iload_n 3, 1) := by decide +kernel
theorem dl_956 : decode code 956 = .ok (.iconst 1, 1) := by decide +kernel
theorem dl_957 : decode code 957 = .ok (.iadd, 1) := by decide +kernel
theorem dl_958 : decode code 958 = .ok (.iaload, 1) := by decide +kernel
theorem dl_959 : decode code 959 = .ok (.invokevirtual 126, 3) := by decide +kernel
theorem dl_962 : decode code 962 = .ok (.if_icmp .eq 130, 3) := by decide +kernel
theorem dl_965 : decode code 965 = .ok (.iconst 0, 1) := by decide +kernel
theorem dl_966 : decode code 966 = .ok (.ireturn, 1) := by decide +kernel
theorem dl_967 : decode code 967 = .ok (.aload_n 1, 1) := by decide +kernel
theorem dl_968 : decode code 968 = .ok (.aload_n 0, 1) := by decide +kernel
theorem dl_969 : decode code 969 = .ok (.iload_n 3, 1) := by decide +kernel
theorem dl_970 : decode code 970 = .ok (.iconst 1, 1) := by decide +kernel
theorem dl_971 : decode code 971 = .ok (.iadd, 1) := by decide +kernel
theorem dl_972 : decode code 972 = .ok (.iaload, 1) := by decide +kernel
theorem dl_973 : decode code 973 = .ok (.aload_n 0, 1) := by decide +kernel
theorem dl_974 : decode code 974 = .ok (.iload_n 3, 1) := by decide +kernel
theorem dl_975 : decode code 975 = .ok (.iconst 2, 1) := by decide +kernel
theorem dl_976 : decode code 976 = .ok (.iadd, 1) := by decide +kernel
theorem dl_977 : decode code 977 = .ok (.iaload, 1) := by decide +kernel
theorem dl_978 : decode code 978 = .ok (.invokevirtual 127, 3) := by decide +kernel
theorem dl_981 : decode code 981 = .ok (.aload_n 2, 1) := by decide +kernel
theorem dl_982 : decode code 982 = .ok (.aload_n 0, 1) := by decide +kernel
theorem dl_983 : decode code 983 = .ok (.iload_n 3, 1) := by decide +kernel
theorem dl_984 : decode code 984 = .ok (.iconst 1, 1) := by decide +kernel
theorem dl_985 : decode code 985 = .ok (.iadd, 1) := by decide +kernel
theorem dl_986 : decode code 986 = .ok (.iaload, 1) := by decide +kernel
theorem dl_987 : decode code 987 = .ok (.aload_n 0, 1) := by decide +kernel
theorem dl_988 : decode code 988 = .ok (.iload_n 3, 1) := by decide +kernel
theorem dl_989 : decode code 989 = .ok (.iconst 2, 1) := by decide +kernel
theorem dl_990 : decode code 990 = .ok (.iadd, 1) := by decide +kernel
theorem dl_991 : decode code 991 = .ok (.iaload, 1) := by decide +kernel
theorem dl_992 : decode code 992 = .ok (.invokevirtual 130, 3) := by decide +kernel
theorem dl_995 : decode code 995 = .ok (.if_icmp .eq 97, 3) := by decide +kernel
theorem dl_998 : decode code 998 = .ok (.iconst 0, 1) := by decide +kernel
theorem dl_999 : decode code 999 = .ok (.ireturn, 1) := by decide +kernel
theorem dl_1000 : decode code 1000 = .ok (.aload_n 1, 1) := by decide +kernel
theorem dl_1001 : decode code 1001 = .ok (.aload_n 0, 1) := by decide +kernel
theorem dl_1002 : decode code 1002 = .ok (.iload_n 3, 1) := by decide +kernel
theorem dl_1003 : decode code 1003 = .ok (.iconst 1, 1) := by decide +kernel
theorem dl_1004 : decode code 1004 = .ok (.iadd, 1) := by decide +kernel
theorem dl_1005 : decode code 1005 = .ok (.iaload, 1) := by decide +kernel
theorem dl_1006 : decode code 1006 = .ok (.aload_n 0, 1) := by decide +kernel
theorem dl_1007 : decode code 1007 = .ok (.iload_n 3, 1) := by decide +kernel
theorem dl_1008 : decode code 1008 = .ok (.iconst 2, 1) := by decide +kernel
theorem dl_1009 : decode code 1009 = .ok (.iadd, 1) := by decide +kernel
theorem dl_1010 : decode code 1010 = .ok (.iaload, 1) := by decide +kernel
theorem dl_1011 : decode code 1011 = .ok (.invokevirtual 131, 3) := by decide +kernel
theorem dl_1014 : decode code 1014 = .ok (.aload_n 2, 1) := by decide +kernel
theorem dl_1015 : decode code 1015 = .ok (.aload_n 0, 1) := by decide +kernel
theorem dl_1016 : decode code 1016 = .ok (.iload_n 3, 1) := by decide +kernel
theorem dl_1017 : decode code 1017 = .ok (.iconst 1, 1) := by decide +kernel
theorem dl_1018 : decode code 1018 = .ok (.iadd, 1) := by decide +kernel
theorem dl_1019 : decode code 1019 = .ok (.iaload, 1) := by decide +kernel
theorem dl_1020 : decode code 1020 = .ok (.aload_n 0, 1) := by decide +kernel
theorem dl_1021 : decode code 1021 = .ok (.iload_n 3, 1) := by decide +kernel
theorem dl_1022 : decode code 1022 = .ok (.iconst 2, 1) := by decide +kernel
theorem dl_1023 : decode code 1023 = .ok (.iadd, 1) := by decide +kernel
theorem dl_1024 : decode code 1024 = .ok (.iaload, 1) := by decide +kernel
theorem dl_1025 : decode code 1025 = .ok (.invokevirtual 134, 3) := by decide +kernel
theorem dl_1028 : decode code 1028 = .ok (.if_icmp .eq 64, 3) := by decide +kernel
theorem dl_1031 : decode code 1031 = .ok (.iconst 0, 1) := by decide +kernel
theorem dl_1032 : decode code 1032 = .ok (.ireturn, 1) := by decide +kernel
theorem dl_1033 : decode code 1033 = .ok (.aload_n 1, 1) := by decide +kernel
theorem dl_1034 : decode code 1034 = .ok (.aload_n 0, 1) := by decide +kernel
theorem dl_1035 : decode code 1035 = .ok (.iload_n 3, 1) := by decide +kernel
theorem dl_1036 : decode code 1036 = .ok (.iconst 1, 1) := by decide +kernel
theorem dl_1037 : decode code 1037 = .ok (.iadd, 1) := by decide +kernel
theorem dl_1038 : decode code 1038 = .ok (.iaload, 1) := by decide +kernel
theorem dl_1039 : decode code 1039 = .ok (.invokevirtual 135, 3) := by decide +kernel
theorem dl_1042 : decode code 1042 = .ok (.aload_n 2, 1) := by decide +kernel
theorem dl_1043 : decode code 1043 = .ok (.aload_n 0, 1) := by decide +kernel
theorem dl_1044 : decode code 1044 = .ok (.iload_n 3, 1) := by decide +kernel
theorem dl_1045 : decode code 1045 = .ok (.iconst 1, 1) := by decide +kernel
theorem dl_1046 : decode code 1046 = .ok (.iadd, 1) := by decide +kernel
theorem dl_1047 : decode code 1047 = .ok (.iaload, 1) := by decide +kernel
theorem dl_1048 : decode code 1048 = .ok (.invokevirtual 138, 3) := by decide +kernel
theorem dl_1051 : decode code 1051 = .ok (.if_icmp .eq 41, 3) := by decide +kernel
theorem dl_1054 : decode code 1054 = .ok (.iconst 0, 1) := by decide +kernel
theorem dl_1055 : decode code 1055 = .ok (.ireturn, 1) := by decide +kernel
theorem dl_1056 : decode code 1056 = .ok (.aload_n 1, 1) := by decide +kernel
theorem dl_1057 : decode code 1057 = .ok (.aload_n 0, 1) := by decide +kernel
theorem dl_1058 : decode code 1058 = .ok (.iload_n 3, 1) := by decide +kernel
theorem dl_1059 : decode code 1059 = .ok (.iconst 1, 1) := by decide +kernel
theorem dl_1060 : decode code 1060 = .ok (.iadd, 1) := by decide +kernel
theorem dl_1061 : decode code 1061 = .ok (.iaload, 1) := by decide +kernel
theorem dl_1062 : decode code 1062 = .ok (.invokevirtual 139, 3) := by decide +kernel
theorem dl_1065 : decode code 1065 = .ok (.aload_n 2, 1) := by decide +kernel
theorem dl_1066 : decode code 1066 = .ok (.aload_n 0, 1) := by decide +kernel
theorem dl_1067 : decode code 1067 = .ok (.iload_n 3, 1) := by decide +kernel
theorem dl_1068 : decode code 1068 = .ok (.iconst 1, 1) := by decide +kernel
theorem dl_1069 : decode code 1069 = .ok (.iadd, 1) := by decide +kernel
theorem dl_1070 : decode code 1070 = .ok (.iaload, 1) := by decide +kernel
theorem dl_1071 : decode code 1071 = .ok (.invokevirtual 142, 3) := by decide +kernel
theorem dl_1074 : decode code 1074 = .ok (.if_icmp .eq 18, 3) := by decide +kernel
theorem dl_1077 : decode code 1077 = .ok (.iconst 0, 1) := by decide +kernel
theorem dl_1078 : decode code 1078 = .ok (.ireturn, 1) := by decide +kernel
theorem dl_1079 : decode code 1079 = .ok (.aload_n 1, 1) := by decide +kernel
theorem dl_1080 : decode code 1080 = .ok (.invokevirtual 143, 3) := by decide +kernel
theorem dl_1083 : decode code 1083 = .ok (.aload_n 2, 1) := by decide +kernel
theorem dl_1084 : decode code 1084 = .ok (.invokevirtual 146, 3) := by decide +kernel
theorem dl_1087 : decode code 1087 = .ok (.if_icmp .eq 5, 3) := by decide +kernel
theorem dl_1090 : decode code 1090 = .ok (.iconst 0, 1) := by decide +kernel
theorem dl_1091 : decode code 1091 = .ok (.ireturn, 1) := by decide +kernel
theorem dl_1092 : decode code 1092 = .ok (.iinc 3 6, 3) := by decide +kernel
theorem dl_1095 : decode code 1095 = .ok (.goto (-1077), 3) := by decide +kernel
theorem dl_1098 : decode code 1098 = .ok (.iconst 1, 1) := by decide +kernel
theorem dl_1099 : decode code 1099 = .ok (.ireturn, 1) := by decide +kernel
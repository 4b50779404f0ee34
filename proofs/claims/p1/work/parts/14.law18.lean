theorem dL_law_866 : decode code 866 = .ok (.aload_n 1, 1) := by decide +kernel
theorem dL_law_867 : decode code 867 = .ok (.aload_n 0, 1) := by decide +kernel
theorem dL_law_868 : decode code 868 = .ok (.iload_n 3, 1) := by decide +kernel
theorem dL_law_869 : decode code 869 = .ok (.iconst 1, 1) := by decide +kernel
theorem dL_law_870 : decode code 870 = .ok (.iadd, 1) := by decide +kernel
theorem dL_law_871 : decode code 871 = .ok (.iaload, 1) := by decide +kernel
theorem dL_law_872 : decode code 872 = .ok (.aload_n 0, 1) := by decide +kernel
theorem dL_law_873 : decode code 873 = .ok (.iload_n 3, 1) := by decide +kernel
theorem dL_law_874 : decode code 874 = .ok (.iconst 2, 1) := by decide +kernel
theorem dL_law_875 : decode code 875 = .ok (.iadd, 1) := by decide +kernel
theorem dL_law_876 : decode code 876 = .ok (.iaload, 1) := by decide +kernel
theorem dL_law_877 : decode code 877 = .ok (.aload_n 0, 1) := by decide +kernel
theorem dL_law_878 : decode code 878 = .ok (.iload_n 3, 1) := by decide +kernel
theorem dL_law_879 : decode code 879 = .ok (.iconst 3, 1) := by decide +kernel
theorem dL_law_880 : decode code 880 = .ok (.iadd, 1) := by decide +kernel
theorem dL_law_881 : decode code 881 = .ok (.iaload, 1) := by decide +kernel
theorem dL_law_882 : decode code 882 = .ok (.aload_n 0, 1) := by decide +kernel
theorem dL_law_883 : decode code 883 = .ok (.iload_n 3, 1) := by decide +kernel
theorem dL_law_884 : decode code 884 = .ok (.iconst 4, 1) := by decide +kernel
theorem dL_law_885 : decode code 885 = .ok (.iadd, 1) := by decide +kernel
theorem dL_law_886 : decode code 886 = .ok (.iaload, 1) := by decide +kernel
theorem dL_law_887 : decode code 887 = .ok (.invokevirtual 90, 3) := by decide +kernel
theorem dL_law_890 : decode code 890 = .ok (.aload_n 2, 1) := by decide +kernel
theorem dL_law_891 : decode code 891 = .ok (.aload_n 0, 1) := by decide +kernel
theorem dL_law_892 : decode code 892 = .ok (.iload_n 3, 1) := by decide +kernel
theorem dL_law_893 : decode code 893 = .ok (.iconst 1, 1) := by decide +kernel
theorem dL_law_894 : decode code 894 = .ok (.iadd, 1) := by decide +kernel
theorem dL_law_895 : decode code 895 = .ok (.iaload, 1) := by decide +kernel
theorem dL_law_896 : decode code 896 = .ok (.aload_n 0, 1) := by decide +kernel
theorem dL_law_897 : decode code 897 = .ok (.iload_n 3, 1) := by decide +kernel
theorem dL_law_898 : decode code 898 = .ok (.iconst 2, 1) := by decide +kernel
theorem dL_law_899 : decode code 899 = .ok (.iadd, 1) := by decide +kernel
theorem dL_law_900 : decode code 900 = .ok (.iaload, 1) := by decide +kernel
theorem dL_law_901 : decode code 901 = .ok (.aload_n 0, 1) := by decide +kernel
theorem dL_law_902 : decode code 902 = .ok (.iload_n 3, 1) := by decide +kernel
theorem dL_law_903 : decode code 903 = .ok (.iconst 3, 1) := by decide +kernel
theorem dL_law_904 : decode code 904 = .ok (.iadd, 1) := by decide +kernel
theorem dL_law_905 : decode code 905 = .ok (.iaload, 1) := by decide +kernel
theorem dL_law_906 : decode code 906 = .ok (.aload_n 0, 1) := by decide +kernel
theorem dL_law_907 : decode code 907 = .ok (.iload_n 3, 1) := by decide +kernel
theorem dL_law_908 : decode code 908 = .ok (.iconst 4, 1) := by decide +kernel
theorem dL_law_909 : decode code 909 = .ok (.iadd, 1) := by decide +kernel
theorem dL_law_910 : decode code 910 = .ok (.iaload, 1) := by decide +kernel
theorem dL_law_911 : decode code 911 = .ok (.invokevirtual 93, 3) := by decide +kernel
theorem dL_law_914 : decode code 914 = .ok (.if_icmp .eq 866, 3) := by decide +kernel
theorem dL_law_919 : decode code 919 = .ok (.aload_n 1, 1) := by decide +kernel
theorem dL_law_920 : decode code 920 = .ok (.aload_n 0, 1) := by decide +kernel
theorem dL_law_921 : decode code 921 = .ok (.iload_n 3, 1) := by decide +kernel
theorem dL_law_922 : decode code 922 = .ok (.iconst 1, 1) := by decide +kernel
theorem dL_law_923 : decode code 923 = .ok (.iadd, 1) := by decide +kernel
theorem dL_law_924 : decode code 924 = .ok (.iaload, 1) := by decide +kernel
theorem dL_law_925 : decode code 925 = .ok (.aload_n 0, 1) := by decide +kernel
theorem dL_law_926 : decode code 926 = .ok (.iload_n 3, 1) := by decide +kernel
theorem dL_law_927 : decode code 927 = .ok (.iconst 2, 1) := by decide +kernel
theorem dL_law_928 : decode code 928 = .ok (.iadd, 1) := by decide +kernel
theorem dL_law_929 : decode code 929 = .ok (.iaload, 1) := by decide +kernel
theorem dL_law_930 : decode code 930 = .ok (.aload_n 0, 1) := by decide +kernel
theorem dL_law_931 : decode code 931 = .ok (.iload_n 3, 1) := by decide +kernel
theorem dL_law_932 : decode code 932 = .ok (.iconst 3, 1) := by decide +kernel
theorem dL_law_933 : decode code 933 = .ok (.iadd, 1) := by decide +kernel
theorem dL_law_934 : decode code 934 = .ok (.iaload, 1) := by decide +kernel
theorem dL_law_935 : decode code 935 = .ok (.aload_n 0, 1) := by decide +kernel
theorem dL_law_936 : decode code 936 = .ok (.iload_n 3, 1) := by decide +kernel
theorem dL_law_937 : decode code 937 = .ok (.iconst 4, 1) := by decide +kernel
theorem dL_law_938 : decode code 938 = .ok (.iadd, 1) := by decide +kernel
theorem dL_law_939 : decode code 939 = .ok (.iaload, 1) := by decide +kernel
theorem dL_law_940 : decode code 940 = .ok (.aload_n 0, 1) := by decide +kernel
theorem dL_law_941 : decode code 941 = .ok (.iload_n 3, 1) := by decide +kernel
theorem dL_law_942 : decode code 942 = .ok (.iconst 5, 1) := by decide +kernel
theorem dL_law_943 : decode code 943 = .ok (.iadd, 1) := by decide +kernel
theorem dL_law_944 : decode code 944 = .ok (.iaload, 1) := by decide +kernel
theorem dL_law_945 : decode code 945 = .ok (.aload_n 0, 1) := by decide +kernel
theorem dL_law_946 : decode code 946 = .ok (.iload_n 3, 1) := by decide +kernel
theorem dL_law_947 : decode code 947 = .ok (.bipush 6, 2) := by decide +kernel
theorem dL_law_949 : decode code 949 = .ok (.iadd, 1) := by decide +kernel
theorem dL_law_950 : decode code 950 = .ok (.iaload, 1) := by decide +kernel
theorem dL_law_951 : decode code 951 = .ok (.invokevirtual 94, 3) := by decide +kernel
theorem dL_law_954 : decode code 954 = .ok (.aload_n 2, 1) := by decide +kernel
theorem dL_law_955 : decode code 955 = .ok (.aload_n 0, 1) := by decide +kernel
theorem dL_law_956 : decode code 956 = .ok (.iload_n 3, 1) := by decide +kernel
theorem dL_law_957 : decode code 957 = .ok (.iconst 1, 1) := by decide +kernel
theorem dL_law_958 : decode code 958 = .ok (.iadd, 1) := by decide +kernel
theorem dL_law_959 : decode code 959 = .ok (.iaload, 1) := by decide +kernel
theorem dL_law_960 : decode code 960 = .ok (.aload_n 0, 1) := by decide +kernel
theorem dL_law_961 : decode code 961 = .ok (.iload_n 3, 1) := by decide +kernel
theorem dL_law_962 : decode code 962 = .ok (.iconst 2, 1) := by decide +kernel
theorem dL_law_963 : decode code 963 = .ok (.iadd, 1) := by decide +kernel
theorem dL_law_964 : decode code 964 = .ok (.iaload, 1) := by decide +kernel
theorem dL_law_965 : decode code 965 = .ok (.aload_n 0, 1) := by decide +kernel
theorem dL_law_966 : decode code 966 = .ok (.iload_n 3, 1) := by decide +kernel
theorem dL_law_967 : decode code 967 = .ok (.iconst 3, 1) := by decide +kernel
theorem dL_law_968 : decode code 968 = .ok (.iadd, 1) := by decide +kernel
theorem dL_law_969 : decode code 969 = .ok (.iaload, 1) := by decide +kernel
theorem dL_law_970 : decode code 970 = .ok (.aload_n 0, 1) := by decide +kernel
theorem dL_law_971 : decode code 971 = .ok (.iload_n 3, 1) := by decide +kernel
theorem dL_law_972 : decode code 972 = .ok (.iconst 4, 1) := by decide +kernel
theorem dL_law_973 : decode code 973 = .ok (.iadd, 1) := by decide +kernel
theorem dL_law_974 : decode code 974 = .ok (.iaload, 1) := by decide +kernel
theorem dL_law_975 : decode code 975 = .ok (.aload_n 0, 1) := by decide +kernel
theorem dL_law_976 : decode code 976 = .ok (.iload_n 3, 1) := by decide +kernel
theorem dL_law_977 : decode code 977 = .ok (.iconst 5, 1) := by decide +kernel
theorem dL_law_978 : decode code 978 = .ok (.iadd, 1) := by decide +kernel
theorem dL_law_979 : decode code 979 = .ok (.iaload, 1) := by decide +kernel
theorem dL_law_980 : decode code 980 = .ok (.aload_n 0, 1) := by decide +kernel
theorem dL_law_981 : decode code 981 = .ok (.iload_n 3, 1) := by decide +kernel
theorem dL_law_982 : decode code 982 = .ok (.bipush 6, 2) := by decide +kernel
theorem dL_law_984 : decode code 984 = .ok (.iadd, 1) := by decide +kernel
theorem dL_law_985 : decode code 985 = .ok (.iaload, 1) := by decide +kernel
theorem dL_law_986 : decode code 986 = .ok (.invokevirtual 98, 3) := by decide +kernel
theorem dL_law_989 : decode code 989 = .ok (.if_icmp .eq 791, 3) := by decide +kernel
theorem dL_law_994 : decode code 994 = .ok (.aload_n 1, 1) := by decide +kernel
theorem dL_law_995 : decode code 995 = .ok (.aload_n 0, 1) := by decide +kernel
theorem dL_law_996 : decode code 996 = .ok (.iload_n 3, 1) := by decide +kernel
theorem dL_law_997 : decode code 997 = .ok (.iconst 1, 1) := by decide +kernel
theorem dL_law_998 : decode code 998 = .ok (.iadd, 1) := by decide +kernel
theorem dL_law_999 : decode code 999 = .ok (.iaload, 1) := by decide +kernel
theorem dL_law_1000 : decode code 1000 = .ok (.i2l, 1) := by decide +kernel
theorem dL_law_1001 : decode code 1001 = .ok (.bipush 32, 2) := by decide +kernel
theorem dL_law_1003 : decode code 1003 = .ok (.lshl, 1) := by decide +kernel
theorem dL_law_1004 : decode code 1004 = .ok (.aload_n 0, 1) := by decide +kernel
theorem dL_law_1005 : decode code 1005 = .ok (.iload_n 3, 1) := by decide +kernel
theorem dL_law_1006 : decode code 1006 = .ok (.iconst 2, 1) := by decide +kernel
theorem dL_law_1007 : decode code 1007 = .ok (.iadd, 1) := by decide +kernel
theorem dL_law_1008 : decode code 1008 = .ok (.iaload, 1) := by decide +kernel
theorem dL_law_1009 : decode code 1009 = .ok (.i2l, 1) := by decide +kernel
theorem dL_law_1010 : decode code 1010 = .ok (.ldc2_w 99, 3) := by decide +kernel
theorem dL_law_1013 : decode code 1013 = .ok (.land, 1) := by decide +kernel
theorem dL_law_1014 : decode code 1014 = .ok (.lor, 1) := by decide +kernel
theorem dL_law_1015 : decode code 1015 = .ok (.aload_n 0, 1) := by decide +kernel
theorem dL_law_1016 : decode code 1016 = .ok (.iload_n 3, 1) := by decide +kernel
theorem dL_law_1017 : decode code 1017 = .ok (.iconst 3, 1) := by decide +kernel
theorem dL_law_1018 : decode code 1018 = .ok (.iadd, 1) := by decide +kernel
theorem dL_law_1019 : decode code 1019 = .ok (.iaload, 1) := by decide +kernel
theorem dL_law_1020 : decode code 1020 = .ok (.invokevirtual 101, 3) := by decide +kernel
theorem dL_law_1023 : decode code 1023 = .ok (.aload_n 2, 1) := by decide +kernel
theorem dL_law_1024 : decode code 1024 = .ok (.aload_n 0, 1) := by decide +kernel
theorem dL_law_1025 : decode code 1025 = .ok (.iload_n 3, 1) := by decide +kernel
theorem dL_law_1026 : decode code 1026 = .ok (.iconst 1, 1) := by decide +kernel
theorem dL_law_1027 : decode code 1027 = .ok (.iadd, 1) := by decide +kernel
theorem dL_law_1028 : decode code 1028 = .ok (.iaload, 1) := by decide +kernel
theorem dL_law_1029 : decode code 1029 = .ok (.i2l, 1) := by decide +kernel
theorem dL_law_1030 : decode code 1030 = .ok (.bipush 32, 2) := by decide +kernel
theorem dL_law_1032 : decode code 1032 = .ok (.lshl, 1) := by decide +kernel
theorem dL_law_1033 : decode code 1033 = .ok (.aload_n 0, 1) := by decide +kernel
theorem dL_law_1034 : decode code 1034 = .ok (.iload_n 3, 1) := by decide +kernel
theorem dL_law_1035 : decode code 1035 = .ok (.iconst 2, 1) := by decide +kernel
theorem dL_law_1036 : decode code 1036 = .ok (.iadd, 1) := by decide +kernel
theorem dL_law_1037 : decode code 1037 = .ok (.iaload, 1) := by decide +kernel
theorem dL_law_1038 : decode code 1038 = .ok (.i2l, 1) := by decide +kernel
theorem dL_law_1039 : decode code 1039 = .ok (.ldc2_w 99, 3) := by decide +kernel
theorem dL_law_1042 : decode code 1042 = .ok (.land, 1) := by decide +kernel
theorem dL_law_1043 : decode code 1043 = .ok (.lor, 1) := by decide +kernel
theorem dL_law_1044 : decode code 1044 = .ok (.aload_n 0, 1) := by decide +kernel
theorem dL_law_1045 : decode code 1045 = .ok (.iload_n 3, 1) := by decide +kernel
theorem dL_law_1046 : decode code 1046 = .ok (.iconst 3, 1) := by decide +kernel
theorem dL_law_1047 : decode code 1047 = .ok (.iadd, 1) := by decide +kernel
theorem dL_law_1048 : decode code 1048 = .ok (.iaload, 1) := by decide +kernel
theorem dL_law_1049 : decode code 1049 = .ok (.invokevirtual 105, 3) := by decide +kernel
theorem dL_law_1052 : decode code 1052 = .ok (.if_icmp .eq 728, 3) := by decide +kernel
theorem dL_law_1057 : decode code 1057 = .ok (.aload_n 1, 1) := by decide +kernel
theorem dL_law_1058 : decode code 1058 = .ok (.aload_n 0, 1) := by decide +kernel
theorem dL_law_1059 : decode code 1059 = .ok (.iload_n 3, 1) := by decide +kernel
theorem dL_law_1060 : decode code 1060 = .ok (.iconst 1, 1) := by decide +kernel
theorem dL_law_1061 : decode code 1061 = .ok (.iadd, 1) := by decide +kernel
theorem dL_law_1062 : decode code 1062 = .ok (.iaload, 1) := by decide +kernel
theorem dL_law_1063 : decode code 1063 = .ok (.aload_n 0, 1) := by decide +kernel
theorem dL_law_1064 : decode code 1064 = .ok (.iload_n 3, 1) := by decide +kernel
theorem dL_law_1065 : decode code 1065 = .ok (.iconst 2, 1) := by decide +kernel
theorem dL_law_1066 : decode code 1066 = .ok (.iadd, 1) := by decide +kernel
theorem dL_law_1067 : decode code 1067 = .ok (.iaload, 1) := by decide +kernel
theorem dL_law_1068 : decode code 1068 = .ok (.invokevirtual 106, 3) := by decide +kernel
theorem dL_law_1071 : decode code 1071 = .ok (.aload_n 2, 1) := by decide +kernel
theorem dL_law_1072 : decode code 1072 = .ok (.aload_n 0, 1) := by decide +kernel
theorem dL_law_1073 : decode code 1073 = .ok (.iload_n 3, 1) := by decide +kernel
theorem dL_law_1074 : decode code 1074 = .ok (.iconst 1, 1) := by decide +kernel
theorem dL_law_1075 : decode code 1075 = .ok (.iadd, 1) := by decide +kernel
theorem dL_law_1076 : decode code 1076 = .ok (.iaload, 1) := by decide +kernel
theorem dL_law_1077 : decode code 1077 = .ok (.aload_n 0, 1) := by decide +kernel
theorem dL_law_1078 : decode code 1078 = .ok (.iload_n 3, 1) := by decide +kernel
theorem dL_law_1079 : decode code 1079 = .ok (.iconst 2, 1) := by decide +kernel
theorem dL_law_1080 : decode code 1080 = .ok (.iadd, 1) := by decide +kernel
theorem dL_law_1081 : decode code 1081 = .ok (.iaload, 1) := by decide +kernel
theorem dL_law_1082 : decode code 1082 = .ok (.invokevirtual 109, 3) := by decide +kernel
theorem dL_law_1085 : decode code 1085 = .ok (.if_icmp .eq 695, 3) := by decide +kernel
theorem dL_law_1090 : decode code 1090 = .ok (.aload_n 1, 1) := by decide +kernel
theorem dL_law_1091 : decode code 1091 = .ok (.aload_n 0, 1) := by decide +kernel
theorem dL_law_1092 : decode code 1092 = .ok (.iload_n 3, 1) := by decide +kernel
theorem dL_law_1093 : decode code 1093 = .ok (.iconst 1, 1) := by decide +kernel
theorem dL_law_1094 : decode code 1094 = .ok (.iadd, 1) := by decide +kernel
theorem dL_law_1095 : decode code 1095 = .ok (.iaload, 1) := by decide +kernel
theorem dL_law_1096 : decode code 1096 = .ok (.aload_n 0, 1) := by decide +kernel
theorem dL_law_1097 : decode code 1097 = .ok (.iload_n 3, 1) := by decide +kernel
theorem dL_law_1098 : decode code 1098 = .ok (.iconst 2, 1) := by decide +kernel
theorem dL_law_1099 : decode code 1099 = .ok (.iadd, 1) := by decide +kernel
theorem dL_law_1100 : decode code 1100 = .ok (.iaload, 1) := by decide +kernel
theorem dL_law_1101 : decode code 1101 = .ok (.invokevirtual 110, 3) := by decide +kernel
theorem dL_law_1104 : decode code 1104 = .ok (.aload_n 2, 1) := by decide +kernel
theorem dL_law_1105 : decode code 1105 = .ok (.aload_n 0, 1) := by decide +kernel
theorem dL_law_1106 : decode code 1106 = .ok (.iload_n 3, 1) := by decide +kernel
theorem dL_law_1107 : decode code 1107 = .ok (.iconst 1, 1) := by decide +kernel
theorem dL_law_1108 : decode code 1108 = .ok (.iadd, 1) := by decide +kernel
theorem dL_law_1109 : decode code 1109 = .ok (.iaload, 1) := by decide +kernel
theorem dL_law_1110 : decode code 1110 = .ok (.aload_n 0, 1) := by decide +kernel
theorem dL_law_1111 : decode code 1111 = .ok (.iload_n 3, 1) := by decide +kernel
theorem dL_law_1112 : decode code 1112 = .ok (.iconst 2, 1) := by decide +kernel
theorem dL_law_1113 : decode code 1113 = .ok (.iadd, 1) := by decide +kernel
theorem dL_law_1114 : decode code 1114 = .ok (.iaload, 1) := by decide +kernel
theorem dL_law_1115 : decode code 1115 = .ok (.invokevirtual 113, 3) := by decide +kernel
theorem dL_law_1118 : decode code 1118 = .ok (.if_icmp .eq 662, 3) := by decide +kernel
theorem dL_law_1123 : decode code 1123 = .ok (.aload_n 1, 1) := by decide +kernel
theorem dL_law_1124 : decode code 1124 = .ok (.aload_n 0, 1) := by decide +kernel
theorem dL_law_1125 : decode code 1125 = .ok (.iload_n 3, 1) := by decide +kernel
theorem dL_law_1126 : decode code 1126 = .ok (.iconst 1, 1) := by decide +kernel
theorem dL_law_1127 : decode code 1127 = .ok (.iadd, 1) := by decide +kernel
theorem dL_law_1128 : decode code 1128 = .ok (.iaload, 1) := by decide +kernel
theorem dL_law_1129 : decode code 1129 = .ok (.aload_n 0, 1) := by decide +kernel
theorem dL_law_1130 : decode code 1130 = .ok (.iload_n 3, 1) := by decide +kernel
theorem dL_law_1131 : decode code 1131 = .ok (.iconst 2, 1) := by decide +kernel
theorem dL_law_1132 : decode code 1132 = .ok (.iadd, 1) := by decide +kernel
theorem dL_law_1133 : decode code 1133 = .ok (.iaload, 1) := by decide +kernel
theorem dL_law_1134 : decode code 1134 = .ok (.aload_n 0, 1) := by decide +kernel
theorem dL_law_1135 : decode code 1135 = .ok (.iload_n 3, 1) := by decide +kernel
theorem dL_law_1136 : decode code 1136 = .ok (.iconst 3, 1) := by decide +kernel
theorem dL_law_1137 : decode code 1137 = .ok (.iadd, 1) := by decide +kernel
theorem dL_law_1138 : decode code 1138 = .ok (.iaload, 1) := by decide +kernel
theorem dL_law_1139 : decode code 1139 = .ok (.aload_n 0, 1) := by decide +kernel
theorem dL_law_1140 : decode code 1140 = .ok (.iload_n 3, 1) := by decide +kernel
theorem dL_law_1141 : decode code 1141 = .ok (.iconst 4, 1) := by decide +kernel
theorem dL_law_1142 : decode code 1142 = .ok (.iadd, 1) := by decide +kernel
theorem dL_law_1143 : decode code 1143 = .ok (.iaload, 1) := by decide +kernel
theorem dL_law_1144 : decode code 1144 = .ok (.invokevirtual 114, 3) := by decide +kernel
theorem dL_law_1147 : decode code 1147 = .ok (.aload_n 2, 1) := by decide +kernel
theorem dL_law_1148 : decode code 1148 = .ok (.aload_n 0, 1) := by decide +kernel
theorem dL_law_1149 : decode code 1149 = .ok (.iload_n 3, 1) := by decide +kernel
theorem dL_law_1150 : decode code 1150 = .ok (.iconst 1, 1) := by decide +kernel
theorem dL_law_1151 : decode code 1151 = .ok (.iadd, 1) := by decide +kernel
theorem dL_law_1152 : decode code 1152 = .ok (.iaload, 1) := by decide +kernel
theorem dL_law_1153 : decode code 1153 = .ok (.aload_n 0, 1) := by decide +kernel
theorem dL_law_1154 : decode code 1154 = .ok (.iload_n 3, 1) := by decide +kernel
theorem dL_law_1155 : decode code 1155 = .ok (.iconst 2, 1) := by decide +kernel
theorem dL_law_1156 : decode code 1156 = .ok (.iadd, 1) := by decide +kernel
theorem dL_law_1157 : decode code 1157 = .ok (.iaload, 1) := by decide +kernel
theorem dL_law_1158 : decode code 1158 = .ok (.aload_n 0, 1) := by decide +kernel
theorem dL_law_1159 : decode code 1159 = .ok (.iload_n 3, 1) := by decide +kernel
theorem dL_law_1160 : decode code 1160 = .ok (.iconst 3, 1) := by decide +kernel
theorem dL_law_1161 : decode code 1161 = .ok (.iadd, 1) := by decide +kernel
theorem dL_law_1162 : decode code 1162 = .ok (.iaload, 1) := by decide +kernel
theorem dL_law_1163 : decode code 1163 = .ok (.aload_n 0, 1) := by decide +kernel
theorem dL_law_1164 : decode code 1164 = .ok (.iload_n 3, 1) := by decide +kernel
theorem dL_law_1165 : decode code 1165 = .ok (.iconst 4, 1) := by decide +kernel
theorem dL_law_1166 : decode code 1166 = .ok (.iadd, 1) := by decide +kernel
theorem dL_law_1167 : decode code 1167 = .ok (.iaload, 1) := by decide +kernel
theorem dL_law_1168 : decode code 1168 = .ok (.invokevirtual 117, 3) := by decide +kernel
theorem dL_law_1171 : decode code 1171 = .ok (.if_icmp .eq 609, 3) := by decide +kernel
set_option maxHeartbeats 4000000 in
set_option maxRecDepth 100000 in
theorem law_18 {p : Program} {e : Env} {s : State} {m : MethodId} {below : List Frame} {meth : Method} {c : Code} (l : Launch) {b : Nat} {xs : Nat → Int32} {D : va_G} {cI : ClassId} {A : Nat → Prop} {x nw kp fu ra kr rd wd ld mt vo sh fd w0 w1 w2 w3 w4 w5 k0 k1 k2 k3 k4 k5 k6 k7 k8 h ys yk yt yf yb yz yn yc yp yw ye yx : Nat} {H : Heap} {locs : List Loc} {ls : Array Slot} (hA0 : (fun q : Nat => s.heap.size ≤ q) = A) (C0 : lw_At p s m meth c b 7 xs) (hK : va_K D vwCl [(cI, .int)] s) (hN : kNW s) (hP : va_P D vwCl [(x, .inr (10, [.ref nw, .ref kp, .ref fu, .ref ra, .ref kr, .ref rd, .ref wd, .ref ld, .ref mt, .ref vo, .ref sh, .ref fd, .int 0])), (nw, .inr (9, [.ref w0, .ref w1, .ref w2, .ref w3, .ref w4, .ref w5, .int 0, .int 40, .int 0])), (w4, .inr (8, [.ref k0, .ref k1, .ref k2, .ref k3, .ref k4, .ref k5, .ref k6, .ref k7, .ref k8, .int 0])), (fd, .inl (cI, 6, .inl (fun _ => (0 : Int32)))), (h, .inr (11, [.ref ys, .ref yk, .ref yt, .int 0, .ref yf, .ref yb, .ref yz, .ref yn, .ref yc, .int 0, .ref yp, .ref yw, .int 0, .int 0, .int 0, .int 0, .int 0, .int 0, .int 0, .int 0, .int 0, .ref ye, .int 0, .int 0, .ref yx])), (ys, .inl (cI, 1201, .inl sI)), (yf, .inl (cI, 6, .inl (fun _ => (0 : Int32))))] H) (hD : va_D A [(x, .inr (10, [.ref nw, .ref kp, .ref fu, .ref ra, .ref kr, .ref rd, .ref wd, .ref ld, .ref mt, .ref vo, .ref sh, .ref fd, .int 0])), (nw, .inr (9, [.ref w0, .ref w1, .ref w2, .ref w3, .ref w4, .ref w5, .int 0, .int 40, .int 0])), (w4, .inr (8, [.ref k0, .ref k1, .ref k2, .ref k3, .ref k4, .ref k5, .ref k6, .ref k7, .ref k8, .int 0])), (fd, .inl (cI, 6, .inl (fun _ => (0 : Int32)))), (h, .inr (11, [.ref ys, .ref yk, .ref yt, .int 0, .ref yf, .ref yb, .ref yz, .ref yn, .ref yc, .int 0, .ref yp, .ref yw, .int 0, .int 0, .int 0, .int 0, .int 0, .int 0, .int 0, .int 0, .int 0, .ref ye, .int 0, .int 0, .ref yx])), (ys, .inl (cI, 1201, .inl sI)), (yf, .inl (cI, 6, .inl (fun _ => (0 : Int32))))]) (hS : va_S A s.heap H locs) (hl : lv_has ls 4 [(3, .int 0), (2, .ref h), (1, .ref x), (0, .ref b)]) : W p l e room_1 s m #[Value.ref b] below meth c H locs 98 13371 (lw_Z below #[Value.ref b] s) (F0 m 866 ls []) := by
  obtain ⟨hx, hb, hr, hml, hown, hts, hX, hbl, hlocks, hgv⟩ := C0
  have hT : ∀ w ∈ gT, w.before #[Value.ref b] s = true := fun w h => hts w (List.mem_filter.mp h).1
  have hown : s.vm.findClass RL = some m.cls := hown
  have hA : ∀ q : Nat, s.heap.size ≤ q → A q := fun q h => by rw [← hA0]; exact h
  have hbA : ¬ A b := by rw [← hA0]; exact Nat.not_le.mpr hbl
  refine lv_aload_n hx hb dL_law_866 rfl (lv_at hl 2 rfl) ?_
  refine lv_aload_n hx hb dL_law_867 rfl (lv_at hl 3 rfl) ?_
  refine lv_iload_n hx hb dL_law_868 rfl (lv_at hl 0 rfl) ?_
  refine lv_iconst (v := 1) hx hb dL_law_869 (by decide) ?_
  refine k_iadd (v := 1) hx hb dL_law_870 (by decide) ?_
  refine k_sld (v := (xs 1)) hx hb hX hbl hbA hS (k_inl (by decide)) rfl dL_law_871 ?_
  refine lv_aload_n hx hb dL_law_872 rfl (lv_at hl 3 rfl) ?_
  refine lv_iload_n hx hb dL_law_873 rfl (lv_at hl 0 rfl) ?_
  refine lv_iconst (v := 2) hx hb dL_law_874 (by decide) ?_
  refine k_iadd (v := 2) hx hb dL_law_875 (by decide) ?_
  refine k_sld (v := (xs 2)) hx hb hX hbl hbA hS (k_inl (by decide)) rfl dL_law_876 ?_
  refine lv_aload_n hx hb dL_law_877 rfl (lv_at hl 3 rfl) ?_
  refine lv_iload_n hx hb dL_law_878 rfl (lv_at hl 0 rfl) ?_
  refine lv_iconst (v := 3) hx hb dL_law_879 (by decide) ?_
  refine k_iadd (v := 3) hx hb dL_law_880 (by decide) ?_
  refine k_sld (v := (xs 3)) hx hb hX hbl hbA hS (k_inl (by decide)) rfl dL_law_881 ?_
  refine lv_aload_n hx hb dL_law_882 rfl (lv_at hl 3 rfl) ?_
  refine lv_iload_n hx hb dL_law_883 rfl (lv_at hl 0 rfl) ?_
  refine lv_iconst (v := 4) hx hb dL_law_884 (by decide) ?_
  refine k_iadd (v := 4) hx hb dL_law_885 (by decide) ?_
  refine k_sld (v := (xs 4)) hx hb hX hbl hbA hS (k_inl (by decide)) rfl dL_law_886 ?_
  refine kJi (wr := [(h, .inr (11, [.ref ys, .ref yk, .ref yt, .int 0, .ref yf, .ref yb, .ref yz, .ref yn, .ref yc, .int 0, .ref yp, .ref yw, .int 0, .int 0, .int 0, .int 0, .int 0, .int 0, .int 0, .int 0, .int 0, .ref ye, .int 0, .int 0, .ref yx])), (ys, .inl (cI, 1201, .inl sI)), (yf, .inl (cI, 6, .inl (fun _ => (0 : Int32))))]) (va_runV (As := [.int (xs 1), .int (xs 2), .int (xs 3), .int (xs 4)]) (rest := []) ⟨hx, hb, hml, hown, hT⟩ (c_X10_slip l D cI x nw kp fu ra kr rd wd ld mt vo sh fd w0 w1 w2 w3 w4 w5 k0 k1 k2 k3 k4 k5 k6 k7 k8 H.size 0 (fun _ => (0 : Int32)) 0 40 0 (xs 1) (xs 2) (xs 3) (xs 4)) (cwV 4 hT (gV_in mw_818 mw_815 mw_816 mw_817 mw_1) rfl rfl rfl (by decide +kernel) ⟨Nat.le_of_ble_eq_true rfl, Nat.le_of_ble_eq_true rfl⟩) (kRecv (own := "") (q0 := 0) (ci := 10) hK hP hD hN rfl rfl [0, 1, 2, 3] rfl (by decide)) rfl rfl hl.1 rfl (lv_room (Nat.le_of_ble_eq_true rfl)) dL_law_887 ⟨Nat.le_of_ble_eq_true rfl, Nat.le_of_ble_eq_true rfl⟩) hP hD hS hA [0, 1, 2, 3] [4, 5, 6] rfl rfl (by decide) (by decide) (fun r_1 u_3 H locs w_2 hP hD hS => ?_)
  have hP : va_P D vwCl [(h, .inr (11, [.ref ys, .ref yk, .ref yt, .int 0, .ref yf, .ref yb, .ref yz, .ref yn, .ref yc, .int 0, .ref yp, .ref yw, .int 0, .int 0, .int 0, .int 0, .int 0, .int 0, .int 0, .int 0, .int 0, .ref ye, .int 0, .int 0, .ref yx])), (ys, .inl (cI, 1201, .inl sI)), (yf, .inl (cI, 6, .inl (fun _ => (0 : Int32))))] H := hP
  have hD : va_D A [(h, .inr (11, [.ref ys, .ref yk, .ref yt, .int 0, .ref yf, .ref yb, .ref yz, .ref yn, .ref yc, .int 0, .ref yp, .ref yw, .int 0, .int 0, .int 0, .int 0, .int 0, .int 0, .int 0, .int 0, .int 0, .ref ye, .int 0, .int 0, .ref yx])), (ys, .inl (cI, 1201, .inl sI)), (yf, .inl (cI, 6, .inl (fun _ => (0 : Int32))))] := hD
  have hr_1 := w_2
  obtain rfl : r_1 = (-1000001) := hr_1.trans (by decide)
  refine lv_aload_n hx hb dL_law_890 rfl (lv_at hl 1 rfl) ?_
  refine lv_aload_n hx hb dL_law_891 rfl (lv_at hl 3 rfl) ?_
  refine lv_iload_n hx hb dL_law_892 rfl (lv_at hl 0 rfl) ?_
  refine lv_iconst (v := 1) hx hb dL_law_893 (by decide) ?_
  refine k_iadd (v := 1) hx hb dL_law_894 (by decide) ?_
  refine k_sld (v := (xs 1)) hx hb hX hbl hbA hS (k_inl (by decide)) rfl dL_law_895 ?_
  refine lv_aload_n hx hb dL_law_896 rfl (lv_at hl 3 rfl) ?_
  refine lv_iload_n hx hb dL_law_897 rfl (lv_at hl 0 rfl) ?_
  refine lv_iconst (v := 2) hx hb dL_law_898 (by decide) ?_
  refine k_iadd (v := 2) hx hb dL_law_899 (by decide) ?_
  refine k_sld (v := (xs 2)) hx hb hX hbl hbA hS (k_inl (by decide)) rfl dL_law_900 ?_
  refine lv_aload_n hx hb dL_law_901 rfl (lv_at hl 3 rfl) ?_
  refine lv_iload_n hx hb dL_law_902 rfl (lv_at hl 0 rfl) ?_
  refine lv_iconst (v := 3) hx hb dL_law_903 (by decide) ?_
  refine k_iadd (v := 3) hx hb dL_law_904 (by decide) ?_
  refine k_sld (v := (xs 3)) hx hb hX hbl hbA hS (k_inl (by decide)) rfl dL_law_905 ?_
  refine lv_aload_n hx hb dL_law_906 rfl (lv_at hl 3 rfl) ?_
  refine lv_iload_n hx hb dL_law_907 rfl (lv_at hl 0 rfl) ?_
  refine lv_iconst (v := 4) hx hb dL_law_908 (by decide) ?_
  refine k_iadd (v := 4) hx hb dL_law_909 (by decide) ?_
  refine k_sld (v := (xs 4)) hx hb hX hbl hbA hS (k_inl (by decide)) rfl dL_law_910 ?_
  refine kJi (wr := []) (va_runV (As := [.int (xs 1), .int (xs 2), .int (xs 3), .int (xs 4)]) (rest := [.int (-1000001)]) ⟨hx, hb, hml, hown, hT⟩ (c_X11_slip l D cI h ys yk yt yf yb yz yn yc yp yw ye yx H.size 0 0 0 0 0 0 0 0 0 0 0 0 0 (fun _ => (0 : Int32)) (xs 1) (xs 2) (xs 3) (xs 4)) (cwV 4 hT (gV_in mw_1460 mw_1457 mw_1458 mw_1459 mw_12) rfl rfl rfl (by decide +kernel) ⟨Nat.le_of_ble_eq_true rfl, Nat.le_of_ble_eq_true rfl⟩) (kRecv (own := "") (q0 := 0) (ci := 11) hK hP hD hN rfl rfl [0, 1, 2] rfl (by decide)) rfl rfl hl.1 rfl (lv_room (Nat.le_of_ble_eq_true rfl)) dL_law_911 ⟨Nat.le_of_ble_eq_true rfl, Nat.le_of_ble_eq_true rfl⟩) hP hD hS hA [0, 1, 2] [] rfl rfl (by decide) (by decide) (fun r_4 u_6 H locs w_5 hP hD hS => ?_)
  have hP : va_P D vwCl [] H := hP
  have hD : va_D A [] := hD
  have hr_4 := w_5
  obtain rfl : r_4 = (-1000001) := hr_4.trans (by decide)
  refine b_icmp_eq hx hb zl_m1000001 zl_m1000001 (tgt := 1780) dL_law_914 (by decide) (fun c_7 => ?_) (fun c_7 => by exfalso; omega)
  exact law_end l hx hb hr hlocks hA0 hX hbl hS (lv_sub hl [0, 3] rfl) (Nat.le_of_ble_eq_true rfl) (Nat.le_of_ble_eq_true rfl)
set_option maxHeartbeats 4000000 in
set_option maxRecDepth 100000 in
theorem law_19 {p : Program} {e : Env} {s : State} {m : MethodId} {below : List Frame} {meth : Method} {c : Code} (l : Launch) {b : Nat} {xs : Nat → Int32} {D : va_G} {cI : ClassId} {A : Nat → Prop} {x nw kp fu ra kr rd wd ld mt vo sh fd h ys yk yt yf yb yz yn yc yp yw ye yx : Nat} {H : Heap} {locs : List Loc} {ls : Array Slot} (hA0 : (fun q : Nat => s.heap.size ≤ q) = A) (C0 : lw_At p s m meth c b 7 xs) (hK : va_K D vwCl [(cI, .int)] s) (hN : kNW s) (hP : va_P D vwCl [(x, .inr (10, [.ref nw, .ref kp, .ref fu, .ref ra, .ref kr, .ref rd, .ref wd, .ref ld, .ref mt, .ref vo, .ref sh, .ref fd, .int 0])), (fd, .inl (cI, 6, .inl (fun _ => (0 : Int32)))), (h, .inr (11, [.ref ys, .ref yk, .ref yt, .int 0, .ref yf, .ref yb, .ref yz, .ref yn, .ref yc, .int 0, .ref yp, .ref yw, .int 0, .int 0, .int 0, .int 0, .int 0, .int 0, .int 0, .int 0, .int 0, .ref ye, .int 0, .int 0, .ref yx])), (yf, .inl (cI, 6, .inl (fun _ => (0 : Int32))))] H) (hD : va_D A [(x, .inr (10, [.ref nw, .ref kp, .ref fu, .ref ra, .ref kr, .ref rd, .ref wd, .ref ld, .ref mt, .ref vo, .ref sh, .ref fd, .int 0])), (fd, .inl (cI, 6, .inl (fun _ => (0 : Int32)))), (h, .inr (11, [.ref ys, .ref yk, .ref yt, .int 0, .ref yf, .ref yb, .ref yz, .ref yn, .ref yc, .int 0, .ref yp, .ref yw, .int 0, .int 0, .int 0, .int 0, .int 0, .int 0, .int 0, .int 0, .int 0, .ref ye, .int 0, .int 0, .ref yx])), (yf, .inl (cI, 6, .inl (fun _ => (0 : Int32))))]) (hS : va_S A s.heap H locs) (hl : lv_has ls 4 [(3, .int 0), (2, .ref h), (1, .ref x), (0, .ref b)]) : W p l e room_1 s m #[Value.ref b] below meth c H locs 98 13371 (lw_Z below #[Value.ref b] s) (F0 m 919 ls []) := by
  obtain ⟨hx, hb, hr, hml, hown, hts, hX, hbl, hlocks, hgv⟩ := C0
  have hT : ∀ w ∈ gT, w.before #[Value.ref b] s = true := fun w h => hts w (List.mem_filter.mp h).1
  have hown : s.vm.findClass RL = some m.cls := hown
  have hA : ∀ q : Nat, s.heap.size ≤ q → A q := fun q h => by rw [← hA0]; exact h
  have hbA : ¬ A b := by rw [← hA0]; exact Nat.not_le.mpr hbl
  refine lv_aload_n hx hb dL_law_919 rfl (lv_at hl 2 rfl) ?_
  refine lv_aload_n hx hb dL_law_920 rfl (lv_at hl 3 rfl) ?_
  refine lv_iload_n hx hb dL_law_921 rfl (lv_at hl 0 rfl) ?_
  refine lv_iconst (v := 1) hx hb dL_law_922 (by decide) ?_
  refine k_iadd (v := 1) hx hb dL_law_923 (by decide) ?_
  refine k_sld (v := (xs 1)) hx hb hX hbl hbA hS (k_inl (by decide)) rfl dL_law_924 ?_
  refine lv_aload_n hx hb dL_law_925 rfl (lv_at hl 3 rfl) ?_
  refine lv_iload_n hx hb dL_law_926 rfl (lv_at hl 0 rfl) ?_
  refine lv_iconst (v := 2) hx hb dL_law_927 (by decide) ?_
  refine k_iadd (v := 2) hx hb dL_law_928 (by decide) ?_
  refine k_sld (v := (xs 2)) hx hb hX hbl hbA hS (k_inl (by decide)) rfl dL_law_929 ?_
  refine lv_aload_n hx hb dL_law_930 rfl (lv_at hl 3 rfl) ?_
  refine lv_iload_n hx hb dL_law_931 rfl (lv_at hl 0 rfl) ?_
  refine lv_iconst (v := 3) hx hb dL_law_932 (by decide) ?_
  refine k_iadd (v := 3) hx hb dL_law_933 (by decide) ?_
  refine k_sld (v := (xs 3)) hx hb hX hbl hbA hS (k_inl (by decide)) rfl dL_law_934 ?_
  refine lv_aload_n hx hb dL_law_935 rfl (lv_at hl 3 rfl) ?_
  refine lv_iload_n hx hb dL_law_936 rfl (lv_at hl 0 rfl) ?_
  refine lv_iconst (v := 4) hx hb dL_law_937 (by decide) ?_
  refine k_iadd (v := 4) hx hb dL_law_938 (by decide) ?_
  refine k_sld (v := (xs 4)) hx hb hX hbl hbA hS (k_inl (by decide)) rfl dL_law_939 ?_
  refine lv_aload_n hx hb dL_law_940 rfl (lv_at hl 3 rfl) ?_
  refine lv_iload_n hx hb dL_law_941 rfl (lv_at hl 0 rfl) ?_
  refine lv_iconst (v := 5) hx hb dL_law_942 (by decide) ?_
  refine k_iadd (v := 5) hx hb dL_law_943 (by decide) ?_
  refine k_sld (v := (xs 5)) hx hb hX hbl hbA hS (k_inl (by decide)) rfl dL_law_944 ?_
  refine lv_aload_n hx hb dL_law_945 rfl (lv_at hl 3 rfl) ?_
  refine lv_iload_n hx hb dL_law_946 rfl (lv_at hl 0 rfl) ?_
  refine lv_bipush (v := 6) hx hb dL_law_947 (by decide) ?_
  refine k_iadd (v := 6) hx hb dL_law_949 (by decide) ?_
  refine k_sld (v := (xs 6)) hx hb hX hbl hbA hS (k_inl (by decide)) rfl dL_law_950 ?_
  refine kJi (wr := [(h, .inr (11, [.ref ys, .ref yk, .ref yt, .int 0, .ref yf, .ref yb, .ref yz, .ref yn, .ref yc, .int 0, .ref yp, .ref yw, .int 0, .int 0, .int 0, .int 0, .int 0, .int 0, .int 0, .int 0, .int 0, .ref ye, .int 0, .int 0, .ref yx])), (yf, .inl (cI, 6, .inl (fun _ => (0 : Int32))))]) (va_runV (As := [.int (xs 1), .int (xs 2), .int (xs 3), .int (xs 4), .int (xs 5), .int (xs 6)]) (rest := []) ⟨hx, hb, hml, hown, hT⟩ (c_X10_broke l D cI x nw kp fu ra kr rd wd ld mt vo sh fd H.size 0 (fun _ => (0 : Int32)) (xs 1) (xs 2) (xs 3) (xs 4) (xs 5) (xs 6)) (cwV 6 hT (gV_in mw_826 mw_823 mw_824 mw_825 mw_1) rfl rfl rfl (by decide +kernel) ⟨Nat.le_of_ble_eq_true rfl, Nat.le_of_ble_eq_true rfl⟩) (kRecv (own := "") (q0 := 0) (ci := 10) hK hP hD hN rfl rfl [0, 1] rfl (by decide)) rfl rfl hl.1 rfl (lv_room (Nat.le_of_ble_eq_true rfl)) dL_law_951 ⟨Nat.le_of_ble_eq_true rfl, Nat.le_of_ble_eq_true rfl⟩) hP hD hS hA [0, 1] [2, 3] rfl rfl (by decide) (by decide) (fun r_1 u_3 H locs w_2 hP hD hS => ?_)
  have hP : va_P D vwCl [(h, .inr (11, [.ref ys, .ref yk, .ref yt, .int 0, .ref yf, .ref yb, .ref yz, .ref yn, .ref yc, .int 0, .ref yp, .ref yw, .int 0, .int 0, .int 0, .int 0, .int 0, .int 0, .int 0, .int 0, .int 0, .ref ye, .int 0, .int 0, .ref yx])), (yf, .inl (cI, 6, .inl (fun _ => (0 : Int32))))] H := hP
  have hD : va_D A [(h, .inr (11, [.ref ys, .ref yk, .ref yt, .int 0, .ref yf, .ref yb, .ref yz, .ref yn, .ref yc, .int 0, .ref yp, .ref yw, .int 0, .int 0, .int 0, .int 0, .int 0, .int 0, .int 0, .int 0, .int 0, .ref ye, .int 0, .int 0, .ref yx])), (yf, .inl (cI, 6, .inl (fun _ => (0 : Int32))))] := hD
  have h_4 := w_2
  try simp only [zl_0] at h_4
  have h_4 : r_1.toInt = sp_broke (xs 1).toInt (xs 2).toInt (xs 3).toInt (xs 4).toInt (xs 5).toInt (xs 6).toInt := h_4
  have lo_r_1 := k_lo r_1
  have hi_r_1 := k_hi r_1
  refine lv_aload_n hx hb dL_law_954 rfl (lv_at hl 1 rfl) ?_
  refine lv_aload_n hx hb dL_law_955 rfl (lv_at hl 3 rfl) ?_
  refine lv_iload_n hx hb dL_law_956 rfl (lv_at hl 0 rfl) ?_
  refine lv_iconst (v := 1) hx hb dL_law_957 (by decide) ?_
  refine k_iadd (v := 1) hx hb dL_law_958 (by decide) ?_
  refine k_sld (v := (xs 1)) hx hb hX hbl hbA hS (k_inl (by decide)) rfl dL_law_959 ?_
  refine lv_aload_n hx hb dL_law_960 rfl (lv_at hl 3 rfl) ?_
  refine lv_iload_n hx hb dL_law_961 rfl (lv_at hl 0 rfl) ?_
  refine lv_iconst (v := 2) hx hb dL_law_962 (by decide) ?_
  refine k_iadd (v := 2) hx hb dL_law_963 (by decide) ?_
  refine k_sld (v := (xs 2)) hx hb hX hbl hbA hS (k_inl (by decide)) rfl dL_law_964 ?_
  refine lv_aload_n hx hb dL_law_965 rfl (lv_at hl 3 rfl) ?_
  refine lv_iload_n hx hb dL_law_966 rfl (lv_at hl 0 rfl) ?_
  refine lv_iconst (v := 3) hx hb dL_law_967 (by decide) ?_
  refine k_iadd (v := 3) hx hb dL_law_968 (by decide) ?_
  refine k_sld (v := (xs 3)) hx hb hX hbl hbA hS (k_inl (by decide)) rfl dL_law_969 ?_
  refine lv_aload_n hx hb dL_law_970 rfl (lv_at hl 3 rfl) ?_
  refine lv_iload_n hx hb dL_law_971 rfl (lv_at hl 0 rfl) ?_
  refine lv_iconst (v := 4) hx hb dL_law_972 (by decide) ?_
  refine k_iadd (v := 4) hx hb dL_law_973 (by decide) ?_
  refine k_sld (v := (xs 4)) hx hb hX hbl hbA hS (k_inl (by decide)) rfl dL_law_974 ?_
  refine lv_aload_n hx hb dL_law_975 rfl (lv_at hl 3 rfl) ?_
  refine lv_iload_n hx hb dL_law_976 rfl (lv_at hl 0 rfl) ?_
  refine lv_iconst (v := 5) hx hb dL_law_977 (by decide) ?_
  refine k_iadd (v := 5) hx hb dL_law_978 (by decide) ?_
  refine k_sld (v := (xs 5)) hx hb hX hbl hbA hS (k_inl (by decide)) rfl dL_law_979 ?_
  refine lv_aload_n hx hb dL_law_980 rfl (lv_at hl 3 rfl) ?_
  refine lv_iload_n hx hb dL_law_981 rfl (lv_at hl 0 rfl) ?_
  refine lv_bipush (v := 6) hx hb dL_law_982 (by decide) ?_
  refine k_iadd (v := 6) hx hb dL_law_984 (by decide) ?_
  refine k_sld (v := (xs 6)) hx hb hX hbl hbA hS (k_inl (by decide)) rfl dL_law_985 ?_
  refine kJi (wr := []) (va_runV (As := [.int (xs 1), .int (xs 2), .int (xs 3), .int (xs 4), .int (xs 5), .int (xs 6)]) (rest := [.int r_1]) ⟨hx, hb, hml, hown, hT⟩ (c_X11_broke l D cI h ys yk yt yf yb yz yn yc yp yw ye yx H.size 0 0 0 0 0 0 0 0 0 0 0 0 0 (fun _ => (0 : Int32)) (xs 1) (xs 2) (xs 3) (xs 4) (xs 5) (xs 6)) (cwV 6 hT (gV_in mw_1464 mw_1461 mw_1462 mw_1463 mw_12) rfl rfl rfl (by decide +kernel) ⟨Nat.le_of_ble_eq_true rfl, Nat.le_of_ble_eq_true rfl⟩) (kRecv (own := "") (q0 := 0) (ci := 11) hK hP hD hN rfl rfl [0, 1] rfl (by decide)) rfl rfl hl.1 rfl (lv_room (Nat.le_of_ble_eq_true rfl)) dL_law_986 ⟨Nat.le_of_ble_eq_true rfl, Nat.le_of_ble_eq_true rfl⟩) hP hD hS hA [0, 1] [] rfl rfl (by decide) (by decide) (fun r_5 u_7 H locs w_6 hP hD hS => ?_)
  have hP : va_P D vwCl [] H := hP
  have hD : va_D A [] := hD
  have h_8 := w_6
  try simp only [zl_0] at h_8
  have h_8 : r_5.toInt = sp_broke (xs 1).toInt (xs 2).toInt (xs 3).toInt (xs 4).toInt (xs 5).toInt (xs 6).toInt := h_8
  have lo_r_5 := k_lo r_5
  have hi_r_5 := k_hi r_5
  refine b_icmp_eq hx hb rfl rfl (tgt := 1780) dL_law_989 (by decide) (fun _ => ?_) (fun c_ne => by exfalso; omega)
  exact law_end l hx hb hr hlocks hA0 hX hbl hS (lv_sub hl [0, 3] rfl) (Nat.le_of_ble_eq_true rfl) (Nat.le_of_ble_eq_true rfl)
set_option maxHeartbeats 4000000 in
set_option maxRecDepth 100000 in
theorem law_20 {p : Program} {e : Env} {s : State} {m : MethodId} {below : List Frame} {meth : Method} {c : Code} (l : Launch) {b : Nat} {xs : Nat → Int32} {D : va_G} {cI : ClassId} {A : Nat → Prop} {x nw kp fu ra kr rd wd ld mt vo sh fd t0 t1 t2 t3 t4 h ys yk yt yf yb yz yn yc yp yw ye yx : Nat} {H : Heap} {locs : List Loc} {ls : Array Slot} (hA0 : (fun q : Nat => s.heap.size ≤ q) = A) (C0 : lw_At p s m meth c b 7 xs) (hK : va_K D vwCl [(cI, .int)] s) (hN : kNW s) (hP : va_P D vwCl [(x, .inr (10, [.ref nw, .ref kp, .ref fu, .ref ra, .ref kr, .ref rd, .ref wd, .ref ld, .ref mt, .ref vo, .ref sh, .ref fd, .int 0])), (ra, .inr (4, [.ref t0, .ref t1, .ref t2, .ref t3, .ref t4, .int 0, .int 0])), (t0, .inl (cI, 50, .inl (fun _ => (0 : Int32)))), (fd, .inl (cI, 6, .inl (fun _ => (0 : Int32)))), (h, .inr (11, [.ref ys, .ref yk, .ref yt, .int 0, .ref yf, .ref yb, .ref yz, .ref yn, .ref yc, .int 0, .ref yp, .ref yw, .int 0, .int 0, .int 0, .int 0, .int 0, .int 0, .int 0, .int 0, .int 0, .ref ye, .int 0, .int 0, .ref yx])), (ys, .inl (cI, 1201, .inl sI)), (yf, .inl (cI, 6, .inl (fun _ => (0 : Int32))))] H) (hD : va_D A [(x, .inr (10, [.ref nw, .ref kp, .ref fu, .ref ra, .ref kr, .ref rd, .ref wd, .ref ld, .ref mt, .ref vo, .ref sh, .ref fd, .int 0])), (ra, .inr (4, [.ref t0, .ref t1, .ref t2, .ref t3, .ref t4, .int 0, .int 0])), (t0, .inl (cI, 50, .inl (fun _ => (0 : Int32)))), (fd, .inl (cI, 6, .inl (fun _ => (0 : Int32)))), (h, .inr (11, [.ref ys, .ref yk, .ref yt, .int 0, .ref yf, .ref yb, .ref yz, .ref yn, .ref yc, .int 0, .ref yp, .ref yw, .int 0, .int 0, .int 0, .int 0, .int 0, .int 0, .int 0, .int 0, .int 0, .ref ye, .int 0, .int 0, .ref yx])), (ys, .inl (cI, 1201, .inl sI)), (yf, .inl (cI, 6, .inl (fun _ => (0 : Int32))))]) (hS : va_S A s.heap H locs) (hl : lv_has ls 4 [(3, .int 0), (2, .ref h), (1, .ref x), (0, .ref b)]) : W p l e room_1 s m #[Value.ref b] below meth c H locs 98 13371 (lw_Z below #[Value.ref b] s) (F0 m 994 ls []) := by
  obtain ⟨hx, hb, hr, hml, hown, hts, hX, hbl, hlocks, hgv⟩ := C0
  have hT : ∀ w ∈ gT, w.before #[Value.ref b] s = true := fun w h => hts w (List.mem_filter.mp h).1
  have hown : s.vm.findClass RL = some m.cls := hown
  have hA : ∀ q : Nat, s.heap.size ≤ q → A q := fun q h => by rw [← hA0]; exact h
  have hbA : ¬ A b := by rw [← hA0]; exact Nat.not_le.mpr hbl
  refine lv_aload_n hx hb dL_law_994 rfl (lv_at hl 2 rfl) ?_
  refine lv_aload_n hx hb dL_law_995 rfl (lv_at hl 3 rfl) ?_
  refine lv_iload_n hx hb dL_law_996 rfl (lv_at hl 0 rfl) ?_
  refine lv_iconst (v := 1) hx hb dL_law_997 (by decide) ?_
  refine k_iadd (v := 1) hx hb dL_law_998 (by decide) ?_
  refine k_sld (v := (xs 1)) hx hb hX hbl hbA hS (k_inl (by decide)) rfl dL_law_999 ?_
  refine lv_i2l (v := (xs 1).toInt64) hx hb dL_law_1000 rfl ?_
  refine lv_bipush (v := 32) hx hb dL_law_1001 (by decide) ?_
  refine lv_lshl hx hb dL_law_1003 rfl ?_
  refine lv_topl (fun g_2 eg_2 => ?_)
  refine lv_aload_n hx hb dL_law_1004 rfl (lv_at hl 3 rfl) ?_
  refine lv_iload_n hx hb dL_law_1005 rfl (lv_at hl 0 rfl) ?_
  refine lv_iconst (v := 2) hx hb dL_law_1006 (by decide) ?_
  refine k_iadd (v := 2) hx hb dL_law_1007 (by decide) ?_
  refine k_sld (v := (xs 2)) hx hb hX hbl hbA hS (k_inl (by decide)) rfl dL_law_1008 ?_
  refine lv_i2l (v := (xs 2).toInt64) hx hb dL_law_1009 rfl ?_
  refine lv_ldc2 (v := 4294967295) hx hb hown (hT _ mw_1626) dL_law_1010 ?_
  refine lv_land hx hb dL_law_1013 ?_
  refine lv_topl (fun g_4 eg_4 => ?_)
  refine lv_lor hx hb dL_law_1014 ?_
  refine lv_topl (fun g_5 eg_5 => ?_)
  refine lv_aload_n hx hb dL_law_1015 rfl (lv_at hl 3 rfl) ?_
  refine lv_iload_n hx hb dL_law_1016 rfl (lv_at hl 0 rfl) ?_
  refine lv_iconst (v := 3) hx hb dL_law_1017 (by decide) ?_
  refine k_iadd (v := 3) hx hb dL_law_1018 (by decide) ?_
  refine k_sld (v := (xs 3)) hx hb hX hbl hbA hS (k_inl (by decide)) rfl dL_law_1019 ?_
  refine kJi (wr := [(h, .inr (11, [.ref ys, .ref yk, .ref yt, .int 0, .ref yf, .ref yb, .ref yz, .ref yn, .ref yc, .int 0, .ref yp, .ref yw, .int 0, .int 0, .int 0, .int 0, .int 0, .int 0, .int 0, .int 0, .int 0, .ref ye, .int 0, .int 0, .ref yx])), (ys, .inl (cI, 1201, .inl sI)), (yf, .inl (cI, 6, .inl (fun _ => (0 : Int32))))]) (va_runV (As := [.long g_5, .int (xs 3)]) (rest := []) ⟨hx, hb, hml, hown, hT⟩ (c_X10_feed l D cI x nw kp fu ra kr rd wd ld mt vo sh fd t0 t1 t2 t3 t4 H.size 0 (fun _ => (0 : Int32)) (fun _ => (0 : Int32)) g_5 (xs 3)) (cwV 2 hT (gV_in mw_834 mw_831 mw_832 mw_833 mw_1) rfl rfl rfl (by decide +kernel) ⟨Nat.le_of_ble_eq_true rfl, Nat.le_of_ble_eq_true rfl⟩) (kRecv (own := "") (q0 := 0) (ci := 10) hK hP hD hN rfl rfl [0, 1, 2, 3] rfl (by decide)) rfl rfl hl.1 rfl (lv_room (Nat.le_of_ble_eq_true rfl)) dL_law_1020 ⟨Nat.le_of_ble_eq_true rfl, Nat.le_of_ble_eq_true rfl⟩) hP hD hS hA [0, 1, 2, 3] [4, 5, 6] rfl rfl (by decide) (by decide) (fun r_6 u_8 H locs w_7 hP hD hS => ?_)
  have hP : va_P D vwCl [(h, .inr (11, [.ref ys, .ref yk, .ref yt, .int 0, .ref yf, .ref yb, .ref yz, .ref yn, .ref yc, .int 0, .ref yp, .ref yw, .int 0, .int 0, .int 0, .int 0, .int 0, .int 0, .int 0, .int 0, .int 0, .ref ye, .int 0, .int 0, .ref yx])), (ys, .inl (cI, 1201, .inl sI)), (yf, .inl (cI, 6, .inl (fun _ => (0 : Int32))))] H := hP
  have hD : va_D A [(h, .inr (11, [.ref ys, .ref yk, .ref yt, .int 0, .ref yf, .ref yb, .ref yz, .ref yn, .ref yc, .int 0, .ref yp, .ref yw, .int 0, .int 0, .int 0, .int 0, .int 0, .int 0, .int 0, .int 0, .int 0, .ref ye, .int 0, .int 0, .ref yx])), (ys, .inl (cI, 1201, .inl sI)), (yf, .inl (cI, 6, .inl (fun _ => (0 : Int32))))] := hD
  have hr_6 := w_7
  have hr_6 : r_6 = sp_feed (xs 3) := hr_6
  have lo_r_6 := k_lo r_6
  have hi_r_6 := k_hi r_6
  refine lv_aload_n hx hb dL_law_1023 rfl (lv_at hl 1 rfl) ?_
  refine lv_aload_n hx hb dL_law_1024 rfl (lv_at hl 3 rfl) ?_
  refine lv_iload_n hx hb dL_law_1025 rfl (lv_at hl 0 rfl) ?_
  refine lv_iconst (v := 1) hx hb dL_law_1026 (by decide) ?_
  refine k_iadd (v := 1) hx hb dL_law_1027 (by decide) ?_
  refine k_sld (v := (xs 1)) hx hb hX hbl hbA hS (k_inl (by decide)) rfl dL_law_1028 ?_
  refine lv_i2l (v := (xs 1).toInt64) hx hb dL_law_1029 rfl ?_
  refine lv_bipush (v := 32) hx hb dL_law_1030 (by decide) ?_
  refine lv_lshl hx hb dL_law_1032 rfl ?_
  refine lv_topl (fun g_10 eg_10 => ?_)
  refine lv_aload_n hx hb dL_law_1033 rfl (lv_at hl 3 rfl) ?_
  refine lv_iload_n hx hb dL_law_1034 rfl (lv_at hl 0 rfl) ?_
  refine lv_iconst (v := 2) hx hb dL_law_1035 (by decide) ?_
  refine k_iadd (v := 2) hx hb dL_law_1036 (by decide) ?_
  refine k_sld (v := (xs 2)) hx hb hX hbl hbA hS (k_inl (by decide)) rfl dL_law_1037 ?_
  refine lv_i2l (v := (xs 2).toInt64) hx hb dL_law_1038 rfl ?_
  refine lv_ldc2 (v := 4294967295) hx hb hown (hT _ mw_1626) dL_law_1039 ?_
  refine lv_land hx hb dL_law_1042 ?_
  refine lv_topl (fun g_12 eg_12 => ?_)
  refine lv_lor hx hb dL_law_1043 ?_
  refine lv_topl (fun g_13 eg_13 => ?_)
  refine lv_aload_n hx hb dL_law_1044 rfl (lv_at hl 3 rfl) ?_
  refine lv_iload_n hx hb dL_law_1045 rfl (lv_at hl 0 rfl) ?_
  refine lv_iconst (v := 3) hx hb dL_law_1046 (by decide) ?_
  refine k_iadd (v := 3) hx hb dL_law_1047 (by decide) ?_
  refine k_sld (v := (xs 3)) hx hb hX hbl hbA hS (k_inl (by decide)) rfl dL_law_1048 ?_
  refine kJi (wr := []) (va_runV (As := [.long g_13, .int (xs 3)]) (rest := [.int r_6]) ⟨hx, hb, hml, hown, hT⟩ (c_X11_feed l D cI h ys yk yt yf yb yz yn yc yp yw ye yx H.size 0 0 0 0 0 0 0 0 0 0 0 0 0 (fun _ => (0 : Int32)) g_13 (xs 3)) (cwV 2 hT (gV_in mw_1468 mw_1465 mw_1466 mw_1467 mw_12) rfl rfl rfl (by decide +kernel) ⟨Nat.le_of_ble_eq_true rfl, Nat.le_of_ble_eq_true rfl⟩) (kRecv (own := "") (q0 := 0) (ci := 11) hK hP hD hN rfl rfl [0, 1, 2] rfl (by decide)) rfl rfl hl.1 rfl (lv_room (Nat.le_of_ble_eq_true rfl)) dL_law_1049 ⟨Nat.le_of_ble_eq_true rfl, Nat.le_of_ble_eq_true rfl⟩) hP hD hS hA [0, 1, 2] [] rfl rfl (by decide) (by decide) (fun r_14 u_16 H locs w_15 hP hD hS => ?_)
  have hP : va_P D vwCl [] H := hP
  have hD : va_D A [] := hD
  have hr_14 := w_15
  have hr_14 : r_14 = sp_feed (xs 3) := hr_14
  have lo_r_14 := k_lo r_14
  have hi_r_14 := k_hi r_14
  refine b_icmp_eq hx hb rfl rfl (tgt := 1780) dL_law_1052 (by decide) (fun _ => ?_) (fun c_ne => by exfalso; exact c_ne (congrArg Int32.toInt (hr_6.trans hr_14.symm)))
  exact law_end l hx hb hr hlocks hA0 hX hbl hS (lv_sub hl [0, 3] rfl) (Nat.le_of_ble_eq_true rfl) (Nat.le_of_ble_eq_true rfl)
set_option maxHeartbeats 4000000 in
set_option maxRecDepth 100000 in
theorem law_21 {p : Program} {e : Env} {s : State} {m : MethodId} {below : List Frame} {meth : Method} {c : Code} (l : Launch) {b : Nat} {xs : Nat → Int32} {D : va_G} {cI : ClassId} {A : Nat → Prop} {x nw kp fu ra kr rd wd ld mt vo sh fd t0 t1 t2 t3 t4 tx h ys yk yt yf yb yz yn yc yp yw ye yx : Nat} {H : Heap} {locs : List Loc} {ls : Array Slot} (hA0 : (fun q : Nat => s.heap.size ≤ q) = A) (C0 : lw_At p s m meth c b 7 xs) (hK : va_K D vwCl [(cI, .int)] s) (hN : kNW s) (hP : va_P D vwCl [(x, .inr (10, [.ref nw, .ref kp, .ref fu, .ref ra, .ref kr, .ref rd, .ref wd, .ref ld, .ref mt, .ref vo, .ref sh, .ref fd, .int 0])), (ra, .inr (4, [.ref t0, .ref t1, .ref t2, .ref t3, .ref t4, .int 0, .int 0])), (rd, .inr (5, [.ref tx, .int 0, .int 0, .int 0, .int 0, .int 0, .int 0, .int 0])), (fd, .inl (cI, 6, .inl (fun _ => (0 : Int32)))), (h, .inr (11, [.ref ys, .ref yk, .ref yt, .int 0, .ref yf, .ref yb, .ref yz, .ref yn, .ref yc, .int 0, .ref yp, .ref yw, .int 0, .int 0, .int 0, .int 0, .int 0, .int 0, .int 0, .int 0, .int 0, .ref ye, .int 0, .int 0, .ref yx])), (ys, .inl (cI, 1201, .inl sI)), (yf, .inl (cI, 6, .inl (fun _ => (0 : Int32))))] H) (hD : va_D A [(x, .inr (10, [.ref nw, .ref kp, .ref fu, .ref ra, .ref kr, .ref rd, .ref wd, .ref ld, .ref mt, .ref vo, .ref sh, .ref fd, .int 0])), (ra, .inr (4, [.ref t0, .ref t1, .ref t2, .ref t3, .ref t4, .int 0, .int 0])), (rd, .inr (5, [.ref tx, .int 0, .int 0, .int 0, .int 0, .int 0, .int 0, .int 0])), (fd, .inl (cI, 6, .inl (fun _ => (0 : Int32)))), (h, .inr (11, [.ref ys, .ref yk, .ref yt, .int 0, .ref yf, .ref yb, .ref yz, .ref yn, .ref yc, .int 0, .ref yp, .ref yw, .int 0, .int 0, .int 0, .int 0, .int 0, .int 0, .int 0, .int 0, .int 0, .ref ye, .int 0, .int 0, .ref yx])), (ys, .inl (cI, 1201, .inl sI)), (yf, .inl (cI, 6, .inl (fun _ => (0 : Int32))))]) (hS : va_S A s.heap H locs) (hl : lv_has ls 4 [(3, .int 0), (2, .ref h), (1, .ref x), (0, .ref b)]) : W p l e room_1 s m #[Value.ref b] below meth c H locs 98 13371 (lw_Z below #[Value.ref b] s) (F0 m 1057 ls []) := by
  obtain ⟨hx, hb, hr, hml, hown, hts, hX, hbl, hlocks, hgv⟩ := C0
  have hT : ∀ w ∈ gT, w.before #[Value.ref b] s = true := fun w h => hts w (List.mem_filter.mp h).1
  have hown : s.vm.findClass RL = some m.cls := hown
  have hA : ∀ q : Nat, s.heap.size ≤ q → A q := fun q h => by rw [← hA0]; exact h
  have hbA : ¬ A b := by rw [← hA0]; exact Nat.not_le.mpr hbl
  refine lv_aload_n hx hb dL_law_1057 rfl (lv_at hl 2 rfl) ?_
  refine lv_aload_n hx hb dL_law_1058 rfl (lv_at hl 3 rfl) ?_
  refine lv_iload_n hx hb dL_law_1059 rfl (lv_at hl 0 rfl) ?_
  refine lv_iconst (v := 1) hx hb dL_law_1060 (by decide) ?_
  refine k_iadd (v := 1) hx hb dL_law_1061 (by decide) ?_
  refine k_sld (v := (xs 1)) hx hb hX hbl hbA hS (k_inl (by decide)) rfl dL_law_1062 ?_
  refine lv_aload_n hx hb dL_law_1063 rfl (lv_at hl 3 rfl) ?_
  refine lv_iload_n hx hb dL_law_1064 rfl (lv_at hl 0 rfl) ?_
  refine lv_iconst (v := 2) hx hb dL_law_1065 (by decide) ?_
  refine k_iadd (v := 2) hx hb dL_law_1066 (by decide) ?_
  refine k_sld (v := (xs 2)) hx hb hX hbl hbA hS (k_inl (by decide)) rfl dL_law_1067 ?_
  refine kJi (wr := [(h, .inr (11, [.ref ys, .ref yk, .ref yt, .int 0, .ref yf, .ref yb, .ref yz, .ref yn, .ref yc, .int 0, .ref yp, .ref yw, .int 0, .int 0, .int 0, .int 0, .int 0, .int 0, .int 0, .int 0, .int 0, .ref ye, .int 0, .int 0, .ref yx])), (ys, .inl (cI, 1201, .inl sI)), (yf, .inl (cI, 6, .inl (fun _ => (0 : Int32))))]) (va_runV (As := [.int (xs 1), .int (xs 2)]) (rest := []) ⟨hx, hb, hml, hown, hT⟩ (c_X10_rate l D cI x nw kp fu ra kr rd wd ld mt vo sh fd t0 t1 t2 t3 t4 tx H.size 0 (fun _ => (0 : Int32)) (xs 1) (xs 2)) (cwV 2 hT (gV_in mw_843 mw_840 mw_841 mw_842 mw_1) rfl rfl rfl (by decide +kernel) ⟨Nat.le_of_ble_eq_true rfl, Nat.le_of_ble_eq_true rfl⟩) (kRecv (own := "") (q0 := 0) (ci := 10) hK hP hD hN rfl rfl [0, 1, 2, 3] rfl (by decide)) rfl rfl hl.1 rfl (lv_room (Nat.le_of_ble_eq_true rfl)) dL_law_1068 ⟨Nat.le_of_ble_eq_true rfl, Nat.le_of_ble_eq_true rfl⟩) hP hD hS hA [0, 1, 2, 3] [4, 5, 6] rfl rfl (by decide) (by decide) (fun r_1 u_3 H locs w_2 hP hD hS => ?_)
  have hP : va_P D vwCl [(h, .inr (11, [.ref ys, .ref yk, .ref yt, .int 0, .ref yf, .ref yb, .ref yz, .ref yn, .ref yc, .int 0, .ref yp, .ref yw, .int 0, .int 0, .int 0, .int 0, .int 0, .int 0, .int 0, .int 0, .int 0, .ref ye, .int 0, .int 0, .ref yx])), (ys, .inl (cI, 1201, .inl sI)), (yf, .inl (cI, 6, .inl (fun _ => (0 : Int32))))] H := hP
  have hD : va_D A [(h, .inr (11, [.ref ys, .ref yk, .ref yt, .int 0, .ref yf, .ref yb, .ref yz, .ref yn, .ref yc, .int 0, .ref yp, .ref yw, .int 0, .int 0, .int 0, .int 0, .int 0, .int 0, .int 0, .int 0, .int 0, .ref ye, .int 0, .int 0, .ref yx])), (ys, .inl (cI, 1201, .inl sI)), (yf, .inl (cI, 6, .inl (fun _ => (0 : Int32))))] := hD
  have hr_1 := w_2
  have hr_1 : r_1 = sp_rate (xs 1) (xs 2) := hr_1
  have lo_r_1 := k_lo r_1
  have hi_r_1 := k_hi r_1
  refine lv_aload_n hx hb dL_law_1071 rfl (lv_at hl 1 rfl) ?_
  refine lv_aload_n hx hb dL_law_1072 rfl (lv_at hl 3 rfl) ?_
  refine lv_iload_n hx hb dL_law_1073 rfl (lv_at hl 0 rfl) ?_
  refine lv_iconst (v := 1) hx hb dL_law_1074 (by decide) ?_
  refine k_iadd (v := 1) hx hb dL_law_1075 (by decide) ?_
  refine k_sld (v := (xs 1)) hx hb hX hbl hbA hS (k_inl (by decide)) rfl dL_law_1076 ?_
  refine lv_aload_n hx hb dL_law_1077 rfl (lv_at hl 3 rfl) ?_
  refine lv_iload_n hx hb dL_law_1078 rfl (lv_at hl 0 rfl) ?_
  refine lv_iconst (v := 2) hx hb dL_law_1079 (by decide) ?_
  refine k_iadd (v := 2) hx hb dL_law_1080 (by decide) ?_
  refine k_sld (v := (xs 2)) hx hb hX hbl hbA hS (k_inl (by decide)) rfl dL_law_1081 ?_
  refine kJi (wr := []) (va_runV (As := [.int (xs 1), .int (xs 2)]) (rest := [.int r_1]) ⟨hx, hb, hml, hown, hT⟩ (c_X11_rate l D cI h ys yk yt yf yb yz yn yc yp yw ye yx H.size 0 0 0 0 0 0 0 0 0 0 0 0 0 (fun _ => (0 : Int32)) (xs 1) (xs 2)) (cwV 2 hT (gV_in mw_1473 mw_1470 mw_1471 mw_1472 mw_12) rfl rfl rfl (by decide +kernel) ⟨Nat.le_of_ble_eq_true rfl, Nat.le_of_ble_eq_true rfl⟩) (kRecv (own := "") (q0 := 0) (ci := 11) hK hP hD hN rfl rfl [0, 1, 2] rfl (by decide)) rfl rfl hl.1 rfl (lv_room (Nat.le_of_ble_eq_true rfl)) dL_law_1082 ⟨Nat.le_of_ble_eq_true rfl, Nat.le_of_ble_eq_true rfl⟩) hP hD hS hA [0, 1, 2] [] rfl rfl (by decide) (by decide) (fun r_4 u_6 H locs w_5 hP hD hS => ?_)
  have hP : va_P D vwCl [] H := hP
  have hD : va_D A [] := hD
  have hr_4 := w_5
  have hr_4 : r_4 = sp_rate (xs 1) (xs 2) := hr_4
  have lo_r_4 := k_lo r_4
  have hi_r_4 := k_hi r_4
  refine b_icmp_eq hx hb rfl rfl (tgt := 1780) dL_law_1085 (by decide) (fun _ => ?_) (fun c_ne => by exfalso; exact c_ne (congrArg Int32.toInt (hr_1.trans hr_4.symm)))
  exact law_end l hx hb hr hlocks hA0 hX hbl hS (lv_sub hl [0, 3] rfl) (Nat.le_of_ble_eq_true rfl) (Nat.le_of_ble_eq_true rfl)
set_option maxHeartbeats 4000000 in
set_option maxRecDepth 100000 in
theorem law_22 {p : Program} {e : Env} {s : State} {m : MethodId} {below : List Frame} {meth : Method} {c : Code} (l : Launch) {b : Nat} {xs : Nat → Int32} {D : va_G} {cI : ClassId} {A : Nat → Prop} {x nw kp fu ra kr rd wd ld mt vo sh fd t0 t1 t2 t3 t4 h ys yk yt yf yb yz yn yc yp yw ye yx : Nat} {H : Heap} {locs : List Loc} {ls : Array Slot} (hA0 : (fun q : Nat => s.heap.size ≤ q) = A) (C0 : lw_At p s m meth c b 7 xs) (hK : va_K D vwCl [(cI, .int)] s) (hN : kNW s) (hP : va_P D vwCl [(x, .inr (10, [.ref nw, .ref kp, .ref fu, .ref ra, .ref kr, .ref rd, .ref wd, .ref ld, .ref mt, .ref vo, .ref sh, .ref fd, .int 0])), (ra, .inr (4, [.ref t0, .ref t1, .ref t2, .ref t3, .ref t4, .int 0, .int 0])), (fd, .inl (cI, 6, .inl (fun _ => (0 : Int32)))), (h, .inr (11, [.ref ys, .ref yk, .ref yt, .int 0, .ref yf, .ref yb, .ref yz, .ref yn, .ref yc, .int 0, .ref yp, .ref yw, .int 0, .int 0, .int 0, .int 0, .int 0, .int 0, .int 0, .int 0, .int 0, .ref ye, .int 0, .int 0, .ref yx])), (ys, .inl (cI, 1201, .inl sI)), (yf, .inl (cI, 6, .inl (fun _ => (0 : Int32))))] H) (hD : va_D A [(x, .inr (10, [.ref nw, .ref kp, .ref fu, .ref ra, .ref kr, .ref rd, .ref wd, .ref ld, .ref mt, .ref vo, .ref sh, .ref fd, .int 0])), (ra, .inr (4, [.ref t0, .ref t1, .ref t2, .ref t3, .ref t4, .int 0, .int 0])), (fd, .inl (cI, 6, .inl (fun _ => (0 : Int32)))), (h, .inr (11, [.ref ys, .ref yk, .ref yt, .int 0, .ref yf, .ref yb, .ref yz, .ref yn, .ref yc, .int 0, .ref yp, .ref yw, .int 0, .int 0, .int 0, .int 0, .int 0, .int 0, .int 0, .int 0, .int 0, .ref ye, .int 0, .int 0, .ref yx])), (ys, .inl (cI, 1201, .inl sI)), (yf, .inl (cI, 6, .inl (fun _ => (0 : Int32))))]) (hS : va_S A s.heap H locs) (hl : lv_has ls 4 [(3, .int 0), (2, .ref h), (1, .ref x), (0, .ref b)]) : W p l e room_1 s m #[Value.ref b] below meth c H locs 98 13371 (lw_Z below #[Value.ref b] s) (F0 m 1090 ls []) := by
  obtain ⟨hx, hb, hr, hml, hown, hts, hX, hbl, hlocks, hgv⟩ := C0
  have hT : ∀ w ∈ gT, w.before #[Value.ref b] s = true := fun w h => hts w (List.mem_filter.mp h).1
  have hown : s.vm.findClass RL = some m.cls := hown
  have hA : ∀ q : Nat, s.heap.size ≤ q → A q := fun q h => by rw [← hA0]; exact h
  have hbA : ¬ A b := by rw [← hA0]; exact Nat.not_le.mpr hbl
  refine lv_aload_n hx hb dL_law_1090 rfl (lv_at hl 2 rfl) ?_
  refine lv_aload_n hx hb dL_law_1091 rfl (lv_at hl 3 rfl) ?_
  refine lv_iload_n hx hb dL_law_1092 rfl (lv_at hl 0 rfl) ?_
  refine lv_iconst (v := 1) hx hb dL_law_1093 (by decide) ?_
  refine k_iadd (v := 1) hx hb dL_law_1094 (by decide) ?_
  refine k_sld (v := (xs 1)) hx hb hX hbl hbA hS (k_inl (by decide)) rfl dL_law_1095 ?_
  refine lv_aload_n hx hb dL_law_1096 rfl (lv_at hl 3 rfl) ?_
  refine lv_iload_n hx hb dL_law_1097 rfl (lv_at hl 0 rfl) ?_
  refine lv_iconst (v := 2) hx hb dL_law_1098 (by decide) ?_
  refine k_iadd (v := 2) hx hb dL_law_1099 (by decide) ?_
  refine k_sld (v := (xs 2)) hx hb hX hbl hbA hS (k_inl (by decide)) rfl dL_law_1100 ?_
  refine kJi (wr := [(h, .inr (11, [.ref ys, .ref yk, .ref yt, .int 0, .ref yf, .ref yb, .ref yz, .ref yn, .ref yc, .int 0, .ref yp, .ref yw, .int 0, .int 0, .int 0, .int 0, .int 0, .int 0, .int 0, .int 0, .int 0, .ref ye, .int 0, .int 0, .ref yx])), (ys, .inl (cI, 1201, .inl sI)), (yf, .inl (cI, 6, .inl (fun _ => (0 : Int32))))]) (va_runV (As := [.int (xs 1), .int (xs 2)]) (rest := []) ⟨hx, hb, hml, hown, hT⟩ (c_X10_force l D cI x nw kp fu ra kr rd wd ld mt vo sh fd t0 t1 t2 t3 t4 H.size 0 (fun _ => (0 : Int32)) (xs 1) (xs 2)) (cwV 2 hT (gV_in mw_869 mw_866 mw_867 mw_868 mw_1) rfl rfl rfl (by decide +kernel) ⟨Nat.le_of_ble_eq_true rfl, Nat.le_of_ble_eq_true rfl⟩) (kRecv (own := "") (q0 := 0) (ci := 10) hK hP hD hN rfl rfl [0, 1, 2] rfl (by decide)) rfl rfl hl.1 rfl (lv_room (Nat.le_of_ble_eq_true rfl)) dL_law_1101 ⟨Nat.le_of_ble_eq_true rfl, Nat.le_of_ble_eq_true rfl⟩) hP hD hS hA [0, 1, 2] [3, 4, 5] rfl rfl (by decide) (by decide) (fun r_1 u_3 H locs w_2 hP hD hS => ?_)
  have hP : va_P D vwCl [(h, .inr (11, [.ref ys, .ref yk, .ref yt, .int 0, .ref yf, .ref yb, .ref yz, .ref yn, .ref yc, .int 0, .ref yp, .ref yw, .int 0, .int 0, .int 0, .int 0, .int 0, .int 0, .int 0, .int 0, .int 0, .ref ye, .int 0, .int 0, .ref yx])), (ys, .inl (cI, 1201, .inl sI)), (yf, .inl (cI, 6, .inl (fun _ => (0 : Int32))))] H := hP
  have hD : va_D A [(h, .inr (11, [.ref ys, .ref yk, .ref yt, .int 0, .ref yf, .ref yb, .ref yz, .ref yn, .ref yc, .int 0, .ref yp, .ref yw, .int 0, .int 0, .int 0, .int 0, .int 0, .int 0, .int 0, .int 0, .int 0, .ref ye, .int 0, .int 0, .ref yx])), (ys, .inl (cI, 1201, .inl sI)), (yf, .inl (cI, 6, .inl (fun _ => (0 : Int32))))] := hD
  have hr_1 := w_2
  have hr_1 : r_1 = sp_force (xs 1) (xs 2) := hr_1
  have lo_r_1 := k_lo r_1
  have hi_r_1 := k_hi r_1
  refine lv_aload_n hx hb dL_law_1104 rfl (lv_at hl 1 rfl) ?_
  refine lv_aload_n hx hb dL_law_1105 rfl (lv_at hl 3 rfl) ?_
  refine lv_iload_n hx hb dL_law_1106 rfl (lv_at hl 0 rfl) ?_
  refine lv_iconst (v := 1) hx hb dL_law_1107 (by decide) ?_
  refine k_iadd (v := 1) hx hb dL_law_1108 (by decide) ?_
  refine k_sld (v := (xs 1)) hx hb hX hbl hbA hS (k_inl (by decide)) rfl dL_law_1109 ?_
  refine lv_aload_n hx hb dL_law_1110 rfl (lv_at hl 3 rfl) ?_
  refine lv_iload_n hx hb dL_law_1111 rfl (lv_at hl 0 rfl) ?_
  refine lv_iconst (v := 2) hx hb dL_law_1112 (by decide) ?_
  refine k_iadd (v := 2) hx hb dL_law_1113 (by decide) ?_
  refine k_sld (v := (xs 2)) hx hb hX hbl hbA hS (k_inl (by decide)) rfl dL_law_1114 ?_
  refine kJi (wr := []) (va_runV (As := [.int (xs 1), .int (xs 2)]) (rest := [.int r_1]) ⟨hx, hb, hml, hown, hT⟩ (c_X11_force l D cI h ys yk yt yf yb yz yn yc yp yw ye yx H.size 0 0 0 0 0 0 0 0 0 0 0 0 0 (fun _ => (0 : Int32)) (xs 1) (xs 2)) (cwV 2 hT (gV_in mw_1483 mw_1480 mw_1481 mw_1482 mw_12) rfl rfl rfl (by decide +kernel) ⟨Nat.le_of_ble_eq_true rfl, Nat.le_of_ble_eq_true rfl⟩) (kRecv (own := "") (q0 := 0) (ci := 11) hK hP hD hN rfl rfl [0, 1, 2] rfl (by decide)) rfl rfl hl.1 rfl (lv_room (Nat.le_of_ble_eq_true rfl)) dL_law_1115 ⟨Nat.le_of_ble_eq_true rfl, Nat.le_of_ble_eq_true rfl⟩) hP hD hS hA [0, 1, 2] [] rfl rfl (by decide) (by decide) (fun r_4 u_6 H locs w_5 hP hD hS => ?_)
  have hP : va_P D vwCl [] H := hP
  have hD : va_D A [] := hD
  have hr_4 := w_5
  have hr_4 : r_4 = sp_force (xs 1) (xs 2) := hr_4
  have lo_r_4 := k_lo r_4
  have hi_r_4 := k_hi r_4
  refine b_icmp_eq hx hb rfl rfl (tgt := 1780) dL_law_1118 (by decide) (fun _ => ?_) (fun c_ne => by exfalso; exact c_ne (congrArg Int32.toInt (hr_1.trans hr_4.symm)))
  exact law_end l hx hb hr hlocks hA0 hX hbl hS (lv_sub hl [0, 3] rfl) (Nat.le_of_ble_eq_true rfl) (Nat.le_of_ble_eq_true rfl)
set_option maxHeartbeats 4000000 in
set_option maxRecDepth 100000 in
theorem law_23 {p : Program} {e : Env} {s : State} {m : MethodId} {below : List Frame} {meth : Method} {c : Code} (l : Launch) {b : Nat} {xs : Nat → Int32} {D : va_G} {cI : ClassId} {A : Nat → Prop} {x nw kp fu ra kr rd wd ld mt vo sh fd w0 w1 w2 w3 w4 w5 t0 t1 t2 t3 t4 h ys yk yt yf yb yz yn yc yp yw ye yx : Nat} {H : Heap} {locs : List Loc} {ls : Array Slot} (hA0 : (fun q : Nat => s.heap.size ≤ q) = A) (C0 : lw_At p s m meth c b 7 xs) (hK : va_K D vwCl [(cI, .int)] s) (hN : kNW s) (hP : va_P D vwCl [(x, .inr (10, [.ref nw, .ref kp, .ref fu, .ref ra, .ref kr, .ref rd, .ref wd, .ref ld, .ref mt, .ref vo, .ref sh, .ref fd, .int 0])), (nw, .inr (9, [.ref w0, .ref w1, .ref w2, .ref w3, .ref w4, .ref w5, .int 0, .int 40, .int 0])), (ra, .inr (4, [.ref t0, .ref t1, .ref t2, .ref t3, .ref t4, .int 0, .int 0])), (fd, .inl (cI, 6, .inl (fun _ => (0 : Int32)))), (h, .inr (11, [.ref ys, .ref yk, .ref yt, .int 0, .ref yf, .ref yb, .ref yz, .ref yn, .ref yc, .int 0, .ref yp, .ref yw, .int 0, .int 0, .int 0, .int 0, .int 0, .int 0, .int 0, .int 0, .int 0, .ref ye, .int 0, .int 0, .ref yx])), (ys, .inl (cI, 1201, .inl sI)), (yf, .inl (cI, 6, .inl (fun _ => (0 : Int32))))] H) (hD : va_D A [(x, .inr (10, [.ref nw, .ref kp, .ref fu, .ref ra, .ref kr, .ref rd, .ref wd, .ref ld, .ref mt, .ref vo, .ref sh, .ref fd, .int 0])), (nw, .inr (9, [.ref w0, .ref w1, .ref w2, .ref w3, .ref w4, .ref w5, .int 0, .int 40, .int 0])), (ra, .inr (4, [.ref t0, .ref t1, .ref t2, .ref t3, .ref t4, .int 0, .int 0])), (fd, .inl (cI, 6, .inl (fun _ => (0 : Int32)))), (h, .inr (11, [.ref ys, .ref yk, .ref yt, .int 0, .ref yf, .ref yb, .ref yz, .ref yn, .ref yc, .int 0, .ref yp, .ref yw, .int 0, .int 0, .int 0, .int 0, .int 0, .int 0, .int 0, .int 0, .int 0, .ref ye, .int 0, .int 0, .ref yx])), (ys, .inl (cI, 1201, .inl sI)), (yf, .inl (cI, 6, .inl (fun _ => (0 : Int32))))]) (hS : va_S A s.heap H locs) (hl : lv_has ls 4 [(3, .int 0), (2, .ref h), (1, .ref x), (0, .ref b)]) : W p l e room_1 s m #[Value.ref b] below meth c H locs 98 13371 (lw_Z below #[Value.ref b] s) (F0 m 1123 ls []) := by
  obtain ⟨hx, hb, hr, hml, hown, hts, hX, hbl, hlocks, hgv⟩ := C0
  have hT : ∀ w ∈ gT, w.before #[Value.ref b] s = true := fun w h => hts w (List.mem_filter.mp h).1
  have hown : s.vm.findClass RL = some m.cls := hown
  have hA : ∀ q : Nat, s.heap.size ≤ q → A q := fun q h => by rw [← hA0]; exact h
  have hbA : ¬ A b := by rw [← hA0]; exact Nat.not_le.mpr hbl
  refine lv_aload_n hx hb dL_law_1123 rfl (lv_at hl 2 rfl) ?_
  refine lv_aload_n hx hb dL_law_1124 rfl (lv_at hl 3 rfl) ?_
  refine lv_iload_n hx hb dL_law_1125 rfl (lv_at hl 0 rfl) ?_
  refine lv_iconst (v := 1) hx hb dL_law_1126 (by decide) ?_
  refine k_iadd (v := 1) hx hb dL_law_1127 (by decide) ?_
  refine k_sld (v := (xs 1)) hx hb hX hbl hbA hS (k_inl (by decide)) rfl dL_law_1128 ?_
  refine lv_aload_n hx hb dL_law_1129 rfl (lv_at hl 3 rfl) ?_
  refine lv_iload_n hx hb dL_law_1130 rfl (lv_at hl 0 rfl) ?_
  refine lv_iconst (v := 2) hx hb dL_law_1131 (by decide) ?_
  refine k_iadd (v := 2) hx hb dL_law_1132 (by decide) ?_
  refine k_sld (v := (xs 2)) hx hb hX hbl hbA hS (k_inl (by decide)) rfl dL_law_1133 ?_
  refine lv_aload_n hx hb dL_law_1134 rfl (lv_at hl 3 rfl) ?_
  refine lv_iload_n hx hb dL_law_1135 rfl (lv_at hl 0 rfl) ?_
  refine lv_iconst (v := 3) hx hb dL_law_1136 (by decide) ?_
  refine k_iadd (v := 3) hx hb dL_law_1137 (by decide) ?_
  refine k_sld (v := (xs 3)) hx hb hX hbl hbA hS (k_inl (by decide)) rfl dL_law_1138 ?_
  refine lv_aload_n hx hb dL_law_1139 rfl (lv_at hl 3 rfl) ?_
  refine lv_iload_n hx hb dL_law_1140 rfl (lv_at hl 0 rfl) ?_
  refine lv_iconst (v := 4) hx hb dL_law_1141 (by decide) ?_
  refine k_iadd (v := 4) hx hb dL_law_1142 (by decide) ?_
  refine k_sld (v := (xs 4)) hx hb hX hbl hbA hS (k_inl (by decide)) rfl dL_law_1143 ?_
  refine kJi (wr := [(h, .inr (11, [.ref ys, .ref yk, .ref yt, .int 0, .ref yf, .ref yb, .ref yz, .ref yn, .ref yc, .int 0, .ref yp, .ref yw, .int 0, .int 0, .int 0, .int 0, .int 0, .int 0, .int 0, .int 0, .int 0, .ref ye, .int 0, .int 0, .ref yx])), (ys, .inl (cI, 1201, .inl sI)), (yf, .inl (cI, 6, .inl (fun _ => (0 : Int32))))]) (va_runV (As := [.int (xs 1), .int (xs 2), .int (xs 3), .int (xs 4)]) (rest := []) ⟨hx, hb, hml, hown, hT⟩ (c_X10_price l D cI x nw kp fu ra kr rd wd ld mt vo sh fd w0 w1 w2 w3 w4 w5 t0 t1 t2 t3 t4 H.size 0 (fun _ => (0 : Int32)) 0 40 (xs 1) (xs 2) (xs 3) (xs 4)) (cwV 4 hT (gV_in mw_873 mw_870 mw_871 mw_872 mw_1) rfl rfl rfl (by decide +kernel) ⟨Nat.le_of_ble_eq_true rfl, Nat.le_of_ble_eq_true rfl⟩) (kRecv (own := "") (q0 := 0) (ci := 10) hK hP hD hN rfl rfl [0, 1, 2, 3] rfl (by decide)) rfl rfl hl.1 rfl (lv_room (Nat.le_of_ble_eq_true rfl)) dL_law_1144 ⟨Nat.le_of_ble_eq_true rfl, Nat.le_of_ble_eq_true rfl⟩) hP hD hS hA [0, 1, 2, 3] [4, 5, 6] rfl rfl (by decide) (by decide) (fun r_1 u_3 H locs w_2 hP hD hS => ?_)
  have hP : va_P D vwCl [(h, .inr (11, [.ref ys, .ref yk, .ref yt, .int 0, .ref yf, .ref yb, .ref yz, .ref yn, .ref yc, .int 0, .ref yp, .ref yw, .int 0, .int 0, .int 0, .int 0, .int 0, .int 0, .int 0, .int 0, .int 0, .ref ye, .int 0, .int 0, .ref yx])), (ys, .inl (cI, 1201, .inl sI)), (yf, .inl (cI, 6, .inl (fun _ => (0 : Int32))))] H := hP
  have hD : va_D A [(h, .inr (11, [.ref ys, .ref yk, .ref yt, .int 0, .ref yf, .ref yb, .ref yz, .ref yn, .ref yc, .int 0, .ref yp, .ref yw, .int 0, .int 0, .int 0, .int 0, .int 0, .int 0, .int 0, .int 0, .int 0, .ref ye, .int 0, .int 0, .ref yx])), (ys, .inl (cI, 1201, .inl sI)), (yf, .inl (cI, 6, .inl (fun _ => (0 : Int32))))] := hD
  have hr_1 := w_2
  have hr_1 : r_1 = sp_price (xs 1) (xs 2) (xs 3) (xs 4) := hr_1
  have lo_r_1 := k_lo r_1
  have hi_r_1 := k_hi r_1
  refine lv_aload_n hx hb dL_law_1147 rfl (lv_at hl 1 rfl) ?_
  refine lv_aload_n hx hb dL_law_1148 rfl (lv_at hl 3 rfl) ?_
  refine lv_iload_n hx hb dL_law_1149 rfl (lv_at hl 0 rfl) ?_
  refine lv_iconst (v := 1) hx hb dL_law_1150 (by decide) ?_
  refine k_iadd (v := 1) hx hb dL_law_1151 (by decide) ?_
  refine k_sld (v := (xs 1)) hx hb hX hbl hbA hS (k_inl (by decide)) rfl dL_law_1152 ?_
  refine lv_aload_n hx hb dL_law_1153 rfl (lv_at hl 3 rfl) ?_
  refine lv_iload_n hx hb dL_law_1154 rfl (lv_at hl 0 rfl) ?_
  refine lv_iconst (v := 2) hx hb dL_law_1155 (by decide) ?_
  refine k_iadd (v := 2) hx hb dL_law_1156 (by decide) ?_
  refine k_sld (v := (xs 2)) hx hb hX hbl hbA hS (k_inl (by decide)) rfl dL_law_1157 ?_
  refine lv_aload_n hx hb dL_law_1158 rfl (lv_at hl 3 rfl) ?_
  refine lv_iload_n hx hb dL_law_1159 rfl (lv_at hl 0 rfl) ?_
  refine lv_iconst (v := 3) hx hb dL_law_1160 (by decide) ?_
  refine k_iadd (v := 3) hx hb dL_law_1161 (by decide) ?_
  refine k_sld (v := (xs 3)) hx hb hX hbl hbA hS (k_inl (by decide)) rfl dL_law_1162 ?_
  refine lv_aload_n hx hb dL_law_1163 rfl (lv_at hl 3 rfl) ?_
  refine lv_iload_n hx hb dL_law_1164 rfl (lv_at hl 0 rfl) ?_
  refine lv_iconst (v := 4) hx hb dL_law_1165 (by decide) ?_
  refine k_iadd (v := 4) hx hb dL_law_1166 (by decide) ?_
  refine k_sld (v := (xs 4)) hx hb hX hbl hbA hS (k_inl (by decide)) rfl dL_law_1167 ?_
  refine kJi (wr := []) (va_runV (As := [.int (xs 1), .int (xs 2), .int (xs 3), .int (xs 4)]) (rest := [.int r_1]) ⟨hx, hb, hml, hown, hT⟩ (c_X11_price l D cI h ys yk yt yf yb yz yn yc yp yw ye yx H.size 0 0 0 0 0 0 0 0 0 0 0 0 0 (fun _ => (0 : Int32)) (xs 1) (xs 2) (xs 3) (xs 4)) (cwV 4 hT (gV_in mw_1487 mw_1484 mw_1485 mw_1486 mw_12) rfl rfl rfl (by decide +kernel) ⟨Nat.le_of_ble_eq_true rfl, Nat.le_of_ble_eq_true rfl⟩) (kRecv (own := "") (q0 := 0) (ci := 11) hK hP hD hN rfl rfl [0, 1, 2] rfl (by decide)) rfl rfl hl.1 rfl (lv_room (Nat.le_of_ble_eq_true rfl)) dL_law_1168 ⟨Nat.le_of_ble_eq_true rfl, Nat.le_of_ble_eq_true rfl⟩) hP hD hS hA [0, 1, 2] [] rfl rfl (by decide) (by decide) (fun r_4 u_6 H locs w_5 hP hD hS => ?_)
  have hP : va_P D vwCl [] H := hP
  have hD : va_D A [] := hD
  have hr_4 := w_5
  have hr_4 : r_4 = sp_price (xs 1) (xs 2) (xs 3) (xs 4) := hr_4
  have lo_r_4 := k_lo r_4
  have hi_r_4 := k_hi r_4
  refine b_icmp_eq hx hb rfl rfl (tgt := 1780) dL_law_1171 (by decide) (fun _ => ?_) (fun c_ne => by exfalso; exact c_ne (congrArg Int32.toInt (hr_1.trans hr_4.symm)))
  exact law_end l hx hb hr hlocks hA0 hX hbl hS (lv_sub hl [0, 3] rfl) (Nat.le_of_ble_eq_true rfl) (Nat.le_of_ble_eq_true rfl)

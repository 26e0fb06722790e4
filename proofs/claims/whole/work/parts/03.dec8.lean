theorem d_L_law_879 : decode c_L_law 879 = .ok (.iload 5, 2) := by decide +kernel
theorem d_L_law_881 : decode c_L_law 881 = .ok (.if_icmp .eq 5, 3) := by decide +kernel
theorem d_L_law_884 : decode c_L_law 884 = .ok (.iconst 0, 1) := by decide +kernel
theorem d_L_law_885 : decode c_L_law 885 = .ok (.ireturn, 1) := by decide +kernel
theorem d_L_law_886 : decode c_L_law 886 = .ok (.iload 5, 2) := by decide +kernel
theorem d_L_law_888 : decode c_L_law 888 = .ok (.ifCond .ne 14, 3) := by decide +kernel
theorem d_L_law_891 : decode c_L_law 891 = .ok (.aload_n 3, 1) := by decide +kernel
theorem d_L_law_892 : decode c_L_law 892 = .ok (.iconst 0, 1) := by decide +kernel
theorem d_L_law_893 : decode c_L_law 893 = .ok (.laload, 1) := by decide +kernel
theorem d_L_law_894 : decode c_L_law 894 = .ok (.lload 6, 2) := by decide +kernel
theorem d_L_law_896 : decode c_L_law 896 = .ok (.lcmp, 1) := by decide +kernel
theorem d_L_law_897 : decode c_L_law 897 = .ok (.ifCond .eq 5, 3) := by decide +kernel
theorem d_L_law_900 : decode c_L_law 900 = .ok (.iconst 0, 1) := by decide +kernel
theorem d_L_law_901 : decode c_L_law 901 = .ok (.ireturn, 1) := by decide +kernel
theorem d_L_law_902 : decode c_L_law 902 = .ok (.goto 696, 3) := by decide +kernel
theorem d_L_law_905 : decode c_L_law 905 = .ok (.aload_n 1, 1) := by decide +kernel
theorem d_L_law_906 : decode c_L_law 906 = .ok (.aload_n 0, 1) := by decide +kernel
theorem d_L_law_907 : decode c_L_law 907 = .ok (.iload 4, 2) := by decide +kernel
theorem d_L_law_909 : decode c_L_law 909 = .ok (.iconst 1, 1) := by decide +kernel
theorem d_L_law_910 : decode c_L_law 910 = .ok (.iadd, 1) := by decide +kernel
theorem d_L_law_911 : decode c_L_law 911 = .ok (.iaload, 1) := by decide +kernel
theorem d_L_law_912 : decode c_L_law 912 = .ok (.aload_n 0, 1) := by decide +kernel
theorem d_L_law_913 : decode c_L_law 913 = .ok (.iload 4, 2) := by decide +kernel
theorem d_L_law_915 : decode c_L_law 915 = .ok (.iconst 2, 1) := by decide +kernel
theorem d_L_law_916 : decode c_L_law 916 = .ok (.iadd, 1) := by decide +kernel
theorem d_L_law_917 : decode c_L_law 917 = .ok (.iaload, 1) := by decide +kernel
theorem d_L_law_918 : decode c_L_law 918 = .ok (.aload_n 0, 1) := by decide +kernel
theorem d_L_law_919 : decode c_L_law 919 = .ok (.iload 4, 2) := by decide +kernel
theorem d_L_law_921 : decode c_L_law 921 = .ok (.iconst 3, 1) := by decide +kernel
theorem d_L_law_922 : decode c_L_law 922 = .ok (.iadd, 1) := by decide +kernel
theorem d_L_law_923 : decode c_L_law 923 = .ok (.iaload, 1) := by decide +kernel
theorem d_L_law_924 : decode c_L_law 924 = .ok (.aload_n 3, 1) := by decide +kernel
theorem d_L_law_925 : decode c_L_law 925 = .ok (.invokestatic 142, 3) := by decide +kernel
theorem d_L_law_928 : decode c_L_law 928 = .ok (.istore 5, 2) := by decide +kernel
theorem d_L_law_930 : decode c_L_law 930 = .ok (.aload_n 2, 1) := by decide +kernel
theorem d_L_law_931 : decode c_L_law 931 = .ok (.aload_n 0, 1) := by decide +kernel
theorem d_L_law_932 : decode c_L_law 932 = .ok (.iload 4, 2) := by decide +kernel
theorem d_L_law_934 : decode c_L_law 934 = .ok (.iconst 1, 1) := by decide +kernel
theorem d_L_law_935 : decode c_L_law 935 = .ok (.iadd, 1) := by decide +kernel
theorem d_L_law_936 : decode c_L_law 936 = .ok (.iaload, 1) := by decide +kernel
theorem d_L_law_937 : decode c_L_law 937 = .ok (.aload_n 0, 1) := by decide +kernel
theorem d_L_law_938 : decode c_L_law 938 = .ok (.iload 4, 2) := by decide +kernel
theorem d_L_law_940 : decode c_L_law 940 = .ok (.iconst 2, 1) := by decide +kernel
theorem d_L_law_941 : decode c_L_law 941 = .ok (.iadd, 1) := by decide +kernel
theorem d_L_law_942 : decode c_L_law 942 = .ok (.iaload, 1) := by decide +kernel
theorem d_L_law_943 : decode c_L_law 943 = .ok (.aload_n 0, 1) := by decide +kernel
theorem d_L_law_944 : decode c_L_law 944 = .ok (.iload 4, 2) := by decide +kernel
theorem d_L_law_946 : decode c_L_law 946 = .ok (.iconst 3, 1) := by decide +kernel
theorem d_L_law_947 : decode c_L_law 947 = .ok (.iadd, 1) := by decide +kernel
theorem d_L_law_948 : decode c_L_law 948 = .ok (.iaload, 1) := by decide +kernel
theorem d_L_law_949 : decode c_L_law 949 = .ok (.invokevirtual 144, 3) := by decide +kernel
theorem d_L_law_952 : decode c_L_law 952 = .ok (.istore 6, 2) := by decide +kernel
theorem d_L_law_954 : decode c_L_law 954 = .ok (.aload_n 2, 1) := by decide +kernel
theorem d_L_law_955 : decode c_L_law 955 = .ok (.invokevirtual 101, 3) := by decide +kernel
theorem d_L_law_958 : decode c_L_law 958 = .ok (.iload 5, 2) := by decide +kernel
theorem d_L_law_960 : decode c_L_law 960 = .ok (.if_icmp .eq 5, 3) := by decide +kernel
theorem d_L_law_963 : decode c_L_law 963 = .ok (.iconst 0, 1) := by decide +kernel
theorem d_L_law_964 : decode c_L_law 964 = .ok (.ireturn, 1) := by decide +kernel
theorem d_L_law_965 : decode c_L_law 965 = .ok (.iload 5, 2) := by decide +kernel
theorem d_L_law_967 : decode c_L_law 967 = .ok (.ifCond .ne 15, 3) := by decide +kernel
theorem d_L_law_970 : decode c_L_law 970 = .ok (.aload_n 3, 1) := by decide +kernel
theorem d_L_law_971 : decode c_L_law 971 = .ok (.iconst 0, 1) := by decide +kernel
theorem d_L_law_972 : decode c_L_law 972 = .ok (.laload, 1) := by decide +kernel
theorem d_L_law_973 : decode c_L_law 973 = .ok (.iload 6, 2) := by decide +kernel
theorem d_L_law_975 : decode c_L_law 975 = .ok (.i2l, 1) := by decide +kernel
theorem d_L_law_976 : decode c_L_law 976 = .ok (.lcmp, 1) := by decide +kernel
theorem d_L_law_977 : decode c_L_law 977 = .ok (.ifCond .eq 5, 3) := by decide +kernel
theorem d_L_law_980 : decode c_L_law 980 = .ok (.iconst 0, 1) := by decide +kernel
theorem d_L_law_981 : decode c_L_law 981 = .ok (.ireturn, 1) := by decide +kernel
theorem d_L_law_982 : decode c_L_law 982 = .ok (.goto 616, 3) := by decide +kernel
theorem d_L_law_985 : decode c_L_law 985 = .ok (.aload_n 1, 1) := by decide +kernel
theorem d_L_law_986 : decode c_L_law 986 = .ok (.aload_n 0, 1) := by decide +kernel
theorem d_L_law_987 : decode c_L_law 987 = .ok (.iload 4, 2) := by decide +kernel
theorem d_L_law_989 : decode c_L_law 989 = .ok (.iconst 1, 1) := by decide +kernel
theorem d_L_law_990 : decode c_L_law 990 = .ok (.iadd, 1) := by decide +kernel
theorem d_L_law_991 : decode c_L_law 991 = .ok (.iaload, 1) := by decide +kernel
theorem d_L_law_992 : decode c_L_law 992 = .ok (.aload_n 0, 1) := by decide +kernel
theorem d_L_law_993 : decode c_L_law 993 = .ok (.iload 4, 2) := by decide +kernel
theorem d_L_law_995 : decode c_L_law 995 = .ok (.iconst 2, 1) := by decide +kernel
theorem d_L_law_996 : decode c_L_law 996 = .ok (.iadd, 1) := by decide +kernel
theorem d_L_law_997 : decode c_L_law 997 = .ok (.iaload, 1) := by decide +kernel
theorem d_L_law_998 : decode c_L_law 998 = .ok (.aload_n 0, 1) := by decide +kernel
theorem d_L_law_999 : decode c_L_law 999 = .ok (.iload 4, 2) := by decide +kernel
theorem d_L_law_1001 : decode c_L_law 1001 = .ok (.iconst 3, 1) := by decide +kernel
theorem d_L_law_1002 : decode c_L_law 1002 = .ok (.iadd, 1) := by decide +kernel
theorem d_L_law_1003 : decode c_L_law 1003 = .ok (.iaload, 1) := by decide +kernel
theorem d_L_law_1004 : decode c_L_law 1004 = .ok (.aload_n 0, 1) := by decide +kernel
theorem d_L_law_1005 : decode c_L_law 1005 = .ok (.iload 4, 2) := by decide +kernel
theorem d_L_law_1007 : decode c_L_law 1007 = .ok (.iconst 4, 1) := by decide +kernel
theorem d_L_law_1008 : decode c_L_law 1008 = .ok (.iadd, 1) := by decide +kernel
theorem d_L_law_1009 : decode c_L_law 1009 = .ok (.iaload, 1) := by decide +kernel
theorem d_L_law_1010 : decode c_L_law 1010 = .ok (.aload_n 3, 1) := by decide +kernel
theorem d_L_law_1011 : decode c_L_law 1011 = .ok (.invokestatic 145, 3) := by decide +kernel
theorem d_L_law_1014 : decode c_L_law 1014 = .ok (.istore 5, 2) := by decide +kernel
theorem d_L_law_1016 : decode c_L_law 1016 = .ok (.aload_n 2, 1) := by decide +kernel
theorem d_L_law_1017 : decode c_L_law 1017 = .ok (.aload_n 0, 1) := by decide +kernel
theorem d_L_law_1018 : decode c_L_law 1018 = .ok (.iload 4, 2) := by decide +kernel
theorem d_L_law_1020 : decode c_L_law 1020 = .ok (.iconst 1, 1) := by decide +kernel
theorem d_L_law_1021 : decode c_L_law 1021 = .ok (.iadd, 1) := by decide +kernel
theorem d_L_law_1022 : decode c_L_law 1022 = .ok (.iaload, 1) := by decide +kernel
theorem d_L_law_1023 : decode c_L_law 1023 = .ok (.aload_n 0, 1) := by decide +kernel
theorem d_L_law_1024 : decode c_L_law 1024 = .ok (.iload 4, 2) := by decide +kernel
theorem d_L_law_1026 : decode c_L_law 1026 = .ok (.iconst 2, 1) := by decide +kernel
theorem d_L_law_1027 : decode c_L_law 1027 = .ok (.iadd, 1) := by decide +kernel
theorem d_L_law_1028 : decode c_L_law 1028 = .ok (.iaload, 1) := by decide +kernel
theorem d_L_law_1029 : decode c_L_law 1029 = .ok (.aload_n 0, 1) := by decide +kernel
theorem d_L_law_1030 : decode c_L_law 1030 = .ok (.iload 4, 2) := by decide +kernel
theorem d_L_law_1032 : decode c_L_law 1032 = .ok (.iconst 3, 1) := by decide +kernel
theorem d_L_law_1033 : decode c_L_law 1033 = .ok (.iadd, 1) := by decide +kernel
theorem d_L_law_1034 : decode c_L_law 1034 = .ok (.iaload, 1) := by decide +kernel
theorem d_L_law_1035 : decode c_L_law 1035 = .ok (.aload_n 0, 1) := by decide +kernel
theorem d_L_law_1036 : decode c_L_law 1036 = .ok (.iload 4, 2) := by decide +kernel
theorem d_L_law_1038 : decode c_L_law 1038 = .ok (.iconst 4, 1) := by decide +kernel
theorem d_L_law_1039 : decode c_L_law 1039 = .ok (.iadd, 1) := by decide +kernel
theorem d_L_law_1040 : decode c_L_law 1040 = .ok (.iaload, 1) := by decide +kernel
theorem d_L_law_1041 : decode c_L_law 1041 = .ok (.invokevirtual 148, 3) := by decide +kernel
theorem d_L_law_1044 : decode c_L_law 1044 = .ok (.lstore 6, 2) := by decide +kernel
theorem d_L_law_1046 : decode c_L_law 1046 = .ok (.aload_n 2, 1) := by decide +kernel
theorem d_L_law_1047 : decode c_L_law 1047 = .ok (.invokevirtual 101, 3) := by decide +kernel
theorem d_L_law_1050 : decode c_L_law 1050 = .ok (.iload 5, 2) := by decide +kernel
theorem d_L_law_1052 : decode c_L_law 1052 = .ok (.if_icmp .eq 5, 3) := by decide +kernel
theorem d_L_law_1055 : decode c_L_law 1055 = .ok (.iconst 0, 1) := by decide +kernel
theorem d_L_law_1056 : decode c_L_law 1056 = .ok (.ireturn, 1) := by decide +kernel
theorem d_L_law_1057 : decode c_L_law 1057 = .ok (.iload 5, 2) := by decide +kernel
theorem d_L_law_1059 : decode c_L_law 1059 = .ok (.ifCond .ne 14, 3) := by decide +kernel
theorem d_L_law_1062 : decode c_L_law 1062 = .ok (.aload_n 3, 1) := by decide +kernel
theorem d_L_law_1063 : decode c_L_law 1063 = .ok (.iconst 0, 1) := by decide +kernel
theorem d_L_law_1064 : decode c_L_law 1064 = .ok (.laload, 1) := by decide +kernel
theorem d_L_law_1065 : decode c_L_law 1065 = .ok (.lload 6, 2) := by decide +kernel
theorem d_L_law_1067 : decode c_L_law 1067 = .ok (.lcmp, 1) := by decide +kernel
theorem d_L_law_1068 : decode c_L_law 1068 = .ok (.ifCond .eq 5, 3) := by decide +kernel
theorem d_L_law_1071 : decode c_L_law 1071 = .ok (.iconst 0, 1) := by decide +kernel
theorem d_L_law_1072 : decode c_L_law 1072 = .ok (.ireturn, 1) := by decide +kernel
theorem d_L_law_1073 : decode c_L_law 1073 = .ok (.goto 525, 3) := by decide +kernel
theorem d_L_law_1076 : decode c_L_law 1076 = .ok (.aload_n 1, 1) := by decide +kernel
theorem d_L_law_1077 : decode c_L_law 1077 = .ok (.aload_n 0, 1) := by decide +kernel
theorem d_L_law_1078 : decode c_L_law 1078 = .ok (.iload 4, 2) := by decide +kernel
theorem d_L_law_1080 : decode c_L_law 1080 = .ok (.iconst 1, 1) := by decide +kernel
theorem d_L_law_1081 : decode c_L_law 1081 = .ok (.iadd, 1) := by decide +kernel
theorem d_L_law_1082 : decode c_L_law 1082 = .ok (.iaload, 1) := by decide +kernel
theorem d_L_law_1083 : decode c_L_law 1083 = .ok (.aload_n 0, 1) := by decide +kernel
theorem d_L_law_1084 : decode c_L_law 1084 = .ok (.iload 4, 2) := by decide +kernel
theorem d_L_law_1086 : decode c_L_law 1086 = .ok (.iconst 2, 1) := by decide +kernel
theorem d_L_law_1087 : decode c_L_law 1087 = .ok (.iadd, 1) := by decide +kernel
theorem d_L_law_1088 : decode c_L_law 1088 = .ok (.iaload, 1) := by decide +kernel
theorem d_L_law_1089 : decode c_L_law 1089 = .ok (.aload_n 0, 1) := by decide +kernel
theorem d_L_law_1090 : decode c_L_law 1090 = .ok (.iload 4, 2) := by decide +kernel
theorem d_L_law_1092 : decode c_L_law 1092 = .ok (.iconst 3, 1) := by decide +kernel
theorem d_L_law_1093 : decode c_L_law 1093 = .ok (.iadd, 1) := by decide +kernel
theorem d_L_law_1094 : decode c_L_law 1094 = .ok (.iaload, 1) := by decide +kernel
theorem d_L_law_1095 : decode c_L_law 1095 = .ok (.aload_n 0, 1) := by decide +kernel
theorem d_L_law_1096 : decode c_L_law 1096 = .ok (.iload 4, 2) := by decide +kernel
theorem d_L_law_1098 : decode c_L_law 1098 = .ok (.iconst 4, 1) := by decide +kernel
theorem d_L_law_1099 : decode c_L_law 1099 = .ok (.iadd, 1) := by decide +kernel
theorem d_L_law_1100 : decode c_L_law 1100 = .ok (.iaload, 1) := by decide +kernel
theorem d_L_law_1101 : decode c_L_law 1101 = .ok (.aload_n 3, 1) := by decide +kernel
theorem d_L_law_1102 : decode c_L_law 1102 = .ok (.invokestatic 149, 3) := by decide +kernel
theorem d_L_law_1105 : decode c_L_law 1105 = .ok (.istore 5, 2) := by decide +kernel
theorem d_L_law_1107 : decode c_L_law 1107 = .ok (.aload_n 2, 1) := by decide +kernel
theorem d_L_law_1108 : decode c_L_law 1108 = .ok (.aload_n 0, 1) := by decide +kernel
theorem d_L_law_1109 : decode c_L_law 1109 = .ok (.iload 4, 2) := by decide +kernel
theorem d_L_law_1111 : decode c_L_law 1111 = .ok (.iconst 1, 1) := by decide +kernel
theorem d_L_law_1112 : decode c_L_law 1112 = .ok (.iadd, 1) := by decide +kernel
theorem d_L_law_1113 : decode c_L_law 1113 = .ok (.iaload, 1) := by decide +kernel
theorem d_L_law_1114 : decode c_L_law 1114 = .ok (.aload_n 0, 1) := by decide +kernel
theorem d_L_law_1115 : decode c_L_law 1115 = .ok (.iload 4, 2) := by decide +kernel
theorem d_L_law_1117 : decode c_L_law 1117 = .ok (.iconst 2, 1) := by decide +kernel
theorem d_L_law_1118 : decode c_L_law 1118 = .ok (.iadd, 1) := by decide +kernel
theorem d_L_law_1119 : decode c_L_law 1119 = .ok (.iaload, 1) := by decide +kernel
theorem d_L_law_1120 : decode c_L_law 1120 = .ok (.aload_n 0, 1) := by decide +kernel
theorem d_L_law_1121 : decode c_L_law 1121 = .ok (.iload 4, 2) := by decide +kernel
theorem d_L_law_1123 : decode c_L_law 1123 = .ok (.iconst 3, 1) := by decide +kernel
theorem d_L_law_1124 : decode c_L_law 1124 = .ok (.iadd, 1) := by decide +kernel
theorem d_L_law_1125 : decode c_L_law 1125 = .ok (.iaload, 1) := by decide +kernel
theorem d_L_law_1126 : decode c_L_law 1126 = .ok (.aload_n 0, 1) := by decide +kernel
theorem d_L_law_1127 : decode c_L_law 1127 = .ok (.iload 4, 2) := by decide +kernel
theorem d_L_law_1129 : decode c_L_law 1129 = .ok (.iconst 4, 1) := by decide +kernel
theorem d_L_law_1130 : decode c_L_law 1130 = .ok (.iadd, 1) := by decide +kernel
theorem d_L_law_1131 : decode c_L_law 1131 = .ok (.iaload, 1) := by decide +kernel
theorem d_L_law_1132 : decode c_L_law 1132 = .ok (.invokevirtual 151, 3) := by decide +kernel
theorem d_L_law_1135 : decode c_L_law 1135 = .ok (.istore 6, 2) := by decide +kernel
theorem d_L_law_1137 : decode c_L_law 1137 = .ok (.aload_n 2, 1) := by decide +kernel
theorem d_L_law_1138 : decode c_L_law 1138 = .ok (.invokevirtual 101, 3) := by decide +kernel
theorem d_L_law_1141 : decode c_L_law 1141 = .ok (.iload 5, 2) := by decide +kernel
theorem d_L_law_1143 : decode c_L_law 1143 = .ok (.if_icmp .eq 5, 3) := by decide +kernel
theorem d_L_law_1146 : decode c_L_law 1146 = .ok (.iconst 0, 1) := by decide +kernel
theorem d_L_law_1147 : decode c_L_law 1147 = .ok (.ireturn, 1) := by decide +kernel
theorem d_L_law_1148 : decode c_L_law 1148 = .ok (.iload 5, 2) := by decide +kernel
theorem d_L_law_1150 : decode c_L_law 1150 = .ok (.ifCond .ne 15, 3) := by decide +kernel
theorem d_L_law_1153 : decode c_L_law 1153 = .ok (.aload_n 3, 1) := by decide +kernel
theorem d_L_law_1154 : decode c_L_law 1154 = .ok (.iconst 0, 1) := by decide +kernel
theorem d_L_law_1155 : decode c_L_law 1155 = .ok (.laload, 1) := by decide +kernel
theorem d_L_law_1156 : decode c_L_law 1156 = .ok (.iload 6, 2) := by decide +kernel
theorem d_L_law_1158 : decode c_L_law 1158 = .ok (.i2l, 1) := by decide +kernel
theorem d_L_law_1159 : decode c_L_law 1159 = .ok (.lcmp, 1) := by decide +kernel
theorem d_L_law_1160 : decode c_L_law 1160 = .ok (.ifCond .eq 5, 3) := by decide +kernel
theorem d_L_law_1163 : decode c_L_law 1163 = .ok (.iconst 0, 1) := by decide +kernel
theorem d_L_law_1164 : decode c_L_law 1164 = .ok (.ireturn, 1) := by decide +kernel
theorem d_L_law_1165 : decode c_L_law 1165 = .ok (.goto 433, 3) := by decide +kernel
theorem d_L_law_1168 : decode c_L_law 1168 = .ok (.aload_n 1, 1) := by decide +kernel
theorem d_L_law_1169 : decode c_L_law 1169 = .ok (.aload_n 0, 1) := by decide +kernel
theorem d_L_law_1170 : decode c_L_law 1170 = .ok (.iload 4, 2) := by decide +kernel
theorem d_L_law_1172 : decode c_L_law 1172 = .ok (.iconst 1, 1) := by decide +kernel
theorem d_L_law_1173 : decode c_L_law 1173 = .ok (.iadd, 1) := by decide +kernel
theorem d_L_law_1174 : decode c_L_law 1174 = .ok (.iaload, 1) := by decide +kernel
theorem d_L_law_1175 : decode c_L_law 1175 = .ok (.aload_n 0, 1) := by decide +kernel
theorem d_L_law_1176 : decode c_L_law 1176 = .ok (.iload 4, 2) := by decide +kernel
theorem d_L_law_1178 : decode c_L_law 1178 = .ok (.iconst 2, 1) := by decide +kernel
theorem d_L_law_1179 : decode c_L_law 1179 = .ok (.iadd, 1) := by decide +kernel
theorem d_L_law_1180 : decode c_L_law 1180 = .ok (.iaload, 1) := by decide +kernel
theorem d_L_law_1181 : decode c_L_law 1181 = .ok (.aload_n 0, 1) := by decide +kernel
theorem d_L_law_1182 : decode c_L_law 1182 = .ok (.iload 4, 2) := by decide +kernel
theorem d_L_law_1184 : decode c_L_law 1184 = .ok (.iconst 3, 1) := by decide +kernel
theorem d_L_law_1185 : decode c_L_law 1185 = .ok (.iadd, 1) := by decide +kernel
theorem d_L_law_1186 : decode c_L_law 1186 = .ok (.iaload, 1) := by decide +kernel
theorem d_L_law_1187 : decode c_L_law 1187 = .ok (.aload_n 3, 1) := by decide +kernel
theorem d_L_law_1188 : decode c_L_law 1188 = .ok (.invokestatic 152, 3) := by decide +kernel
theorem d_L_law_1191 : decode c_L_law 1191 = .ok (.istore 5, 2) := by decide +kernel
theorem d_L_law_1193 : decode c_L_law 1193 = .ok (.aload_n 2, 1) := by decide +kernel
theorem d_L_law_1194 : decode c_L_law 1194 = .ok (.aload_n 0, 1) := by decide +kernel
theorem d_L_law_1195 : decode c_L_law 1195 = .ok (.iload 4, 2) := by decide +kernel
theorem d_L_law_1197 : decode c_L_law 1197 = .ok (.iconst 1, 1) := by decide +kernel
theorem d_L_law_1198 : decode c_L_law 1198 = .ok (.iadd, 1) := by decide +kernel
theorem d_L_law_1199 : decode c_L_law 1199 = .ok (.iaload, 1) := by decide +kernel
theorem d_L_law_1200 : decode c_L_law 1200 = .ok (.aload_n 0, 1) := by decide +kernel
theorem d_L_law_1201 : decode c_L_law 1201 = .ok (.iload 4, 2) := by decide +kernel
theorem d_L_law_1203 : decode c_L_law 1203 = .ok (.iconst 2, 1) := by decide +kernel
theorem d_L_law_1204 : decode c_L_law 1204 = .ok (.iadd, 1) := by decide +kernel
theorem d_L_law_1205 : decode c_L_law 1205 = .ok (.iaload, 1) := by decide +kernel
theorem d_L_law_1206 : decode c_L_law 1206 = .ok (.aload_n 0, 1) := by decide +kernel
theorem d_L_law_1207 : decode c_L_law 1207 = .ok (.iload 4, 2) := by decide +kernel
theorem d_L_law_1209 : decode c_L_law 1209 = .ok (.iconst 3, 1) := by decide +kernel
theorem d_L_law_1210 : decode c_L_law 1210 = .ok (.iadd, 1) := by decide +kernel
theorem d_L_law_1211 : decode c_L_law 1211 = .ok (.iaload, 1) := by decide +kernel
theorem d_L_law_1212 : decode c_L_law 1212 = .ok (.invokevirtual 154, 3) := by decide +kernel
theorem d_L_law_1215 : decode c_L_law 1215 = .ok (.lstore 6, 2) := by decide +kernel
theorem d_L_law_1217 : decode c_L_law 1217 = .ok (.aload_n 2, 1) := by decide +kernel
theorem d_L_law_1218 : decode c_L_law 1218 = .ok (.invokevirtual 101, 3) := by decide +kernel
theorem d_L_law_1221 : decode c_L_law 1221 = .ok (.iload 5, 2) := by decide +kernel
theorem d_L_law_1223 : decode c_L_law 1223 = .ok (.if_icmp .eq 5, 3) := by decide +kernel
theorem d_L_law_1226 : decode c_L_law 1226 = .ok (.iconst 0, 1) := by decide +kernel
theorem d_L_law_1227 : decode c_L_law 1227 = .ok (.ireturn, 1) := by decide +kernel
theorem d_L_law_1228 : decode c_L_law 1228 = .ok (.iload 5, 2) := by decide +kernel
theorem d_L_law_1230 : decode c_L_law 1230 = .ok (.ifCond .ne 14, 3) := by decide +kernel
theorem d_L_law_1233 : decode c_L_law 1233 = .ok (.aload_n 3, 1) := by decide +kernel
theorem d_L_law_1234 : decode c_L_law 1234 = .ok (.iconst 0, 1) := by decide +kernel
theorem d_L_law_1235 : decode c_L_law 1235 = .ok (.laload, 1) := by decide +kernel
theorem d_L_law_1236 : decode c_L_law 1236 = .ok (.lload 6, 2) := by decide +kernel
theorem d_L_law_1238 : decode c_L_law 1238 = .ok (.lcmp, 1) := by decide +kernel
theorem d_L_law_1239 : decode c_L_law 1239 = .ok (.ifCond .eq 5, 3) := by decide +kernel

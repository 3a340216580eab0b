/-! the law's instructions -/
theorem dl_873 : decode code 873 = .ok (.pop, 1) := by decide +kernel
theorem dl_874 : decode code 874 = .ok (.goto 668, 3) := by decide +kernel
theorem dl_877 : decode code 877 = .ok (.aload_n 1, 1) := by decide +kernel
theorem dl_878 : decode code 878 = .ok (.aload_n 0, 1) := by decide +kernel
theorem dl_879 : decode code 879 = .ok (.iload 4, 2) := by decide +kernel
theorem dl_881 : decode code 881 = .ok (.iconst 1, 1) := by decide +kernel
theorem dl_882 : decode code 882 = .ok (.iadd, 1) := by decide +kernel
theorem dl_883 : decode code 883 = .ok (.iaload, 1) := by decide +kernel
theorem dl_884 : decode code 884 = .ok (.aload_n 0, 1) := by decide +kernel
theorem dl_885 : decode code 885 = .ok (.iload 4, 2) := by decide +kernel
theorem dl_887 : decode code 887 = .ok (.iconst 2, 1) := by decide +kernel
theorem dl_888 : decode code 888 = .ok (.iadd, 1) := by decide +kernel
theorem dl_889 : decode code 889 = .ok (.iaload, 1) := by decide +kernel
theorem dl_890 : decode code 890 = .ok (.aload_n 0, 1) := by decide +kernel
theorem dl_891 : decode code 891 = .ok (.iload 4, 2) := by decide +kernel
theorem dl_893 : decode code 893 = .ok (.iconst 3, 1) := by decide +kernel
theorem dl_894 : decode code 894 = .ok (.iadd, 1) := by decide +kernel
theorem dl_895 : decode code 895 = .ok (.iaload, 1) := by decide +kernel
theorem dl_896 : decode code 896 = .ok (.aload_n 0, 1) := by decide +kernel
theorem dl_897 : decode code 897 = .ok (.iload 4, 2) := by decide +kernel
theorem dl_899 : decode code 899 = .ok (.iconst 4, 1) := by decide +kernel
theorem dl_900 : decode code 900 = .ok (.iadd, 1) := by decide +kernel
theorem dl_901 : decode code 901 = .ok (.iaload, 1) := by decide +kernel
theorem dl_902 : decode code 902 = .ok (.invokevirtual 98, 3) := by decide +kernel
theorem dl_905 : decode code 905 = .ok (.pop, 1) := by decide +kernel
theorem dl_906 : decode code 906 = .ok (.aload_n 2, 1) := by decide +kernel
theorem dl_907 : decode code 907 = .ok (.aload_n 0, 1) := by decide +kernel
theorem dl_908 : decode code 908 = .ok (.iload 4, 2) := by decide +kernel
theorem dl_910 : decode code 910 = .ok (.iconst 1, 1) := by decide +kernel
theorem dl_911 : decode code 911 = .ok (.iadd, 1) := by decide +kernel
theorem dl_912 : decode code 912 = .ok (.iaload, 1) := by decide +kernel
theorem dl_913 : decode code 913 = .ok (.aload_n 0, 1) := by decide +kernel
theorem dl_914 : decode code 914 = .ok (.iload 4, 2) := by decide +kernel
theorem dl_916 : decode code 916 = .ok (.iconst 2, 1) := by decide +kernel
theorem dl_917 : decode code 917 = .ok (.iadd, 1) := by decide +kernel
theorem dl_918 : decode code 918 = .ok (.iaload, 1) := by decide +kernel
theorem dl_919 : decode code 919 = .ok (.aload_n 0, 1) := by decide +kernel
theorem dl_920 : decode code 920 = .ok (.iload 4, 2) := by decide +kernel
theorem dl_922 : decode code 922 = .ok (.iconst 3, 1) := by decide +kernel
theorem dl_923 : decode code 923 = .ok (.iadd, 1) := by decide +kernel
theorem dl_924 : decode code 924 = .ok (.iaload, 1) := by decide +kernel
theorem dl_925 : decode code 925 = .ok (.aload_n 0, 1) := by decide +kernel
theorem dl_926 : decode code 926 = .ok (.iload 4, 2) := by decide +kernel
theorem dl_928 : decode code 928 = .ok (.iconst 4, 1) := by decide +kernel
theorem dl_929 : decode code 929 = .ok (.iadd, 1) := by decide +kernel
theorem dl_930 : decode code 930 = .ok (.iaload, 1) := by decide +kernel
theorem dl_931 : decode code 931 = .ok (.invokevirtual 102, 3) := by decide +kernel
theorem dl_934 : decode code 934 = .ok (.pop, 1) := by decide +kernel
theorem dl_935 : decode code 935 = .ok (.goto 607, 3) := by decide +kernel
theorem dl_938 : decode code 938 = .ok (.aload_n 1, 1) := by decide +kernel
theorem dl_939 : decode code 939 = .ok (.aload_n 0, 1) := by decide +kernel
theorem dl_940 : decode code 940 = .ok (.iload 4, 2) := by decide +kernel
theorem dl_942 : decode code 942 = .ok (.iconst 1, 1) := by decide +kernel
theorem dl_943 : decode code 943 = .ok (.iadd, 1) := by decide +kernel
theorem dl_944 : decode code 944 = .ok (.iaload, 1) := by decide +kernel
theorem dl_945 : decode code 945 = .ok (.invokevirtual 103, 3) := by decide +kernel
theorem dl_948 : decode code 948 = .ok (.pop, 1) := by decide +kernel
theorem dl_949 : decode code 949 = .ok (.aload_n 2, 1) := by decide +kernel
theorem dl_950 : decode code 950 = .ok (.aload_n 0, 1) := by decide +kernel
theorem dl_951 : decode code 951 = .ok (.iload 4, 2) := by decide +kernel
theorem dl_953 : decode code 953 = .ok (.iconst 1, 1) := by decide +kernel
theorem dl_954 : decode code 954 = .ok (.iadd, 1) := by decide +kernel
theorem dl_955 : decode code 955 = .ok (.iaload, 1) := by decide +kernel
theorem dl_956 : decode code 956 = .ok (.invokevirtual 106, 3) := by decide +kernel
theorem dl_959 : decode code 959 = .ok (.pop, 1) := by decide +kernel
theorem dl_960 : decode code 960 = .ok (.goto 582, 3) := by decide +kernel
theorem dl_963 : decode code 963 = .ok (.aload_n 1, 1) := by decide +kernel
theorem dl_964 : decode code 964 = .ok (.aload_n 0, 1) := by decide +kernel
theorem dl_965 : decode code 965 = .ok (.iload 4, 2) := by decide +kernel
theorem dl_967 : decode code 967 = .ok (.iconst 1, 1) := by decide +kernel
theorem dl_968 : decode code 968 = .ok (.iadd, 1) := by decide +kernel
theorem dl_969 : decode code 969 = .ok (.iaload, 1) := by decide +kernel
theorem dl_970 : decode code 970 = .ok (.aload_n 0, 1) := by decide +kernel
theorem dl_971 : decode code 971 = .ok (.iload 4, 2) := by decide +kernel
theorem dl_973 : decode code 973 = .ok (.iconst 2, 1) := by decide +kernel
theorem dl_974 : decode code 974 = .ok (.iadd, 1) := by decide +kernel
theorem dl_975 : decode code 975 = .ok (.iaload, 1) := by decide +kernel
theorem dl_976 : decode code 976 = .ok (.invokevirtual 107, 3) := by decide +kernel
theorem dl_979 : decode code 979 = .ok (.pop, 1) := by decide +kernel
theorem dl_980 : decode code 980 = .ok (.aload_n 2, 1) := by decide +kernel
theorem dl_981 : decode code 981 = .ok (.aload_n 0, 1) := by decide +kernel
theorem dl_982 : decode code 982 = .ok (.iload 4, 2) := by decide +kernel
theorem dl_984 : decode code 984 = .ok (.iconst 1, 1) := by decide +kernel
theorem dl_985 : decode code 985 = .ok (.iadd, 1) := by decide +kernel
theorem dl_986 : decode code 986 = .ok (.iaload, 1) := by decide +kernel
theorem dl_987 : decode code 987 = .ok (.aload_n 0, 1) := by decide +kernel
theorem dl_988 : decode code 988 = .ok (.iload 4, 2) := by decide +kernel
theorem dl_990 : decode code 990 = .ok (.iconst 2, 1) := by decide +kernel
theorem dl_991 : decode code 991 = .ok (.iadd, 1) := by decide +kernel
theorem dl_992 : decode code 992 = .ok (.iaload, 1) := by decide +kernel
theorem dl_993 : decode code 993 = .ok (.invokevirtual 110, 3) := by decide +kernel
theorem dl_996 : decode code 996 = .ok (.pop, 1) := by decide +kernel
theorem dl_997 : decode code 997 = .ok (.goto 545, 3) := by decide +kernel
theorem dl_1000 : decode code 1000 = .ok (.aload_n 1, 1) := by decide +kernel
theorem dl_1001 : decode code 1001 = .ok (.aload_n 0, 1) := by decide +kernel
theorem dl_1002 : decode code 1002 = .ok (.iload 4, 2) := by decide +kernel
theorem dl_1004 : decode code 1004 = .ok (.iconst 1, 1) := by decide +kernel
theorem dl_1005 : decode code 1005 = .ok (.iadd, 1) := by decide +kernel
theorem dl_1006 : decode code 1006 = .ok (.iaload, 1) := by decide +kernel
theorem dl_1007 : decode code 1007 = .ok (.aload_n 0, 1) := by decide +kernel
theorem dl_1008 : decode code 1008 = .ok (.iload 4, 2) := by decide +kernel
theorem dl_1010 : decode code 1010 = .ok (.iconst 2, 1) := by decide +kernel
theorem dl_1011 : decode code 1011 = .ok (.iadd, 1) := by decide +kernel
theorem dl_1012 : decode code 1012 = .ok (.iaload, 1) := by decide +kernel
theorem dl_1013 : decode code 1013 = .ok (.invokevirtual 111, 3) := by decide +kernel
theorem dl_1016 : decode code 1016 = .ok (.pop, 1) := by decide +kernel
theorem dl_1017 : decode code 1017 = .ok (.aload_n 2, 1) := by decide +kernel
theorem dl_1018 : decode code 1018 = .ok (.aload_n 0, 1) := by decide +kernel
theorem dl_1019 : decode code 1019 = .ok (.iload 4, 2) := by decide +kernel
theorem dl_1021 : decode code 1021 = .ok (.iconst 1, 1) := by decide +kernel
theorem dl_1022 : decode code 1022 = .ok (.iadd, 1) := by decide +kernel
theorem dl_1023 : decode code 1023 = .ok (.iaload, 1) := by decide +kernel
theorem dl_1024 : decode code 1024 = .ok (.aload_n 0, 1) := by decide +kernel
theorem dl_1025 : decode code 1025 = .ok (.iload 4, 2) := by decide +kernel
theorem dl_1027 : decode code 1027 = .ok (.iconst 2, 1) := by decide +kernel
theorem dl_1028 : decode code 1028 = .ok (.iadd, 1) := by decide +kernel
theorem dl_1029 : decode code 1029 = .ok (.iaload, 1) := by decide +kernel
theorem dl_1030 : decode code 1030 = .ok (.invokevirtual 114, 3) := by decide +kernel
theorem dl_1033 : decode code 1033 = .ok (.pop, 1) := by decide +kernel
theorem dl_1034 : decode code 1034 = .ok (.goto 508, 3) := by decide +kernel
theorem dl_1037 : decode code 1037 = .ok (.aload_n 1, 1) := by decide +kernel
theorem dl_1038 : decode code 1038 = .ok (.aload_n 0, 1) := by decide +kernel
theorem dl_1039 : decode code 1039 = .ok (.iload 4, 2) := by decide +kernel
theorem dl_1041 : decode code 1041 = .ok (.iconst 1, 1) := by decide +kernel
theorem dl_1042 : decode code 1042 = .ok (.iadd, 1) := by decide +kernel
theorem dl_1043 : decode code 1043 = .ok (.iaload, 1) := by decide +kernel
theorem dl_1044 : decode code 1044 = .ok (.aload_n 0, 1) := by decide +kernel
theorem dl_1045 : decode code 1045 = .ok (.iload 4, 2) := by decide +kernel
theorem dl_1047 : decode code 1047 = .ok (.iconst 2, 1) := by decide +kernel
theorem dl_1048 : decode code 1048 = .ok (.iadd, 1) := by decide +kernel
theorem dl_1049 : decode code 1049 = .ok (.iaload, 1) := by decide +kernel
theorem dl_1050 : decode code 1050 = .ok (.invokevirtual 115, 3) := by decide +kernel
theorem dl_1053 : decode code 1053 = .ok (.pop, 1) := by decide +kernel
theorem dl_1054 : decode code 1054 = .ok (.aload_n 2, 1) := by decide +kernel
theorem dl_1055 : decode code 1055 = .ok (.aload_n 0, 1) := by decide +kernel
theorem dl_1056 : decode code 1056 = .ok (.iload 4, 2) := by decide +kernel
theorem dl_1058 : decode code 1058 = .ok (.iconst 1, 1) := by decide +kernel
theorem dl_1059 : decode code 1059 = .ok (.iadd, 1) := by decide +kernel
theorem dl_1060 : decode code 1060 = .ok (.iaload, 1) := by decide +kernel
theorem dl_1061 : decode code 1061 = .ok (.aload_n 0, 1) := by decide +kernel
theorem dl_1062 : decode code 1062 = .ok (.iload 4, 2) := by decide +kernel
theorem dl_1064 : decode code 1064 = .ok (.iconst 2, 1) := by decide +kernel
theorem dl_1065 : decode code 1065 = .ok (.iadd, 1) := by decide +kernel
theorem dl_1066 : decode code 1066 = .ok (.iaload, 1) := by decide +kernel
theorem dl_1067 : decode code 1067 = .ok (.invokevirtual 118, 3) := by decide +kernel
theorem dl_1070 : decode code 1070 = .ok (.pop, 1) := by decide +kernel
theorem dl_1071 : decode code 1071 = .ok (.goto 471, 3) := by decide +kernel
theorem dl_1074 : decode code 1074 = .ok (.aload_n 1, 1) := by decide +kernel
theorem dl_1075 : decode code 1075 = .ok (.aload_n 0, 1) := by decide +kernel
theorem dl_1076 : decode code 1076 = .ok (.iload 4, 2) := by decide +kernel
theorem dl_1078 : decode code 1078 = .ok (.iconst 1, 1) := by decide +kernel
theorem dl_1079 : decode code 1079 = .ok (.iadd, 1) := by decide +kernel
theorem dl_1080 : decode code 1080 = .ok (.iaload, 1) := by decide +kernel
theorem dl_1081 : decode code 1081 = .ok (.aload_n 0, 1) := by decide +kernel
theorem dl_1082 : decode code 1082 = .ok (.iload 4, 2) := by decide +kernel
theorem dl_1084 : decode code 1084 = .ok (.iconst 2, 1) := by decide +kernel
theorem dl_1085 : decode code 1085 = .ok (.iadd, 1) := by decide +kernel
theorem dl_1086 : decode code 1086 = .ok (.iaload, 1) := by decide +kernel
theorem dl_1087 : decode code 1087 = .ok (.invokevirtual 119, 3) := by decide +kernel
theorem dl_1090 : decode code 1090 = .ok (.pop, 1) := by decide +kernel
theorem dl_1091 : decode code 1091 = .ok (.aload_n 2, 1) := by decide +kernel
theorem dl_1092 : decode code 1092 = .ok (.aload_n 0, 1) := by decide +kernel
theorem dl_1093 : decode code 1093 = .ok (.iload 4, 2) := by decide +kernel
theorem dl_1095 : decode code 1095 = .ok (.iconst 1, 1) := by decide +kernel
theorem dl_1096 : decode code 1096 = .ok (.iadd, 1) := by decide +kernel
theorem dl_1097 : decode code 1097 = .ok (.iaload, 1) := by decide +kernel
theorem dl_1098 : decode code 1098 = .ok (.aload_n 0, 1) := by decide +kernel
theorem dl_1099 : decode code 1099 = .ok (.iload 4, 2) := by decide +kernel
theorem dl_1101 : decode code 1101 = .ok (.iconst 2, 1) := by decide +kernel
theorem dl_1102 : decode code 1102 = .ok (.iadd, 1) := by decide +kernel
theorem dl_1103 : decode code 1103 = .ok (.iaload, 1) := by decide +kernel
theorem dl_1104 : decode code 1104 = .ok (.invokevirtual 122, 3) := by decide +kernel
theorem dl_1107 : decode code 1107 = .ok (.pop, 1) := by decide +kernel
theorem dl_1108 : decode code 1108 = .ok (.goto 434, 3) := by decide +kernel
theorem dl_1111 : decode code 1111 = .ok (.aload_n 1, 1) := by decide +kernel
theorem dl_1112 : decode code 1112 = .ok (.aload_n 0, 1) := by decide +kernel
theorem dl_1113 : decode code 1113 = .ok (.iload 4, 2) := by decide +kernel
theorem dl_1115 : decode code 1115 = .ok (.iconst 1, 1) := by decide +kernel
theorem dl_1116 : decode code 1116 = .ok (.iadd, 1) := by decide +kernel
theorem dl_1117 : decode code 1117 = .ok (.iaload, 1) := by decide +kernel
theorem dl_1118 : decode code 1118 = .ok (.invokevirtual 123, 3) := by decide +kernel
theorem dl_1121 : decode code 1121 = .ok (.pop, 1) := by decide +kernel
theorem dl_1122 : decode code 1122 = .ok (.aload_n 2, 1) := by decide +kernel
theorem dl_1123 : decode code 1123 = .ok (.aload_n 0, 1) := by decide +kernel
theorem dl_1124 : decode code 1124 = .ok (.iload 4, 2) := by decide +kernel
theorem dl_1126 : decode code 1126 = .ok (.iconst 1, 1) := by decide +kernel
theorem dl_1127 : decode code 1127 = .ok (.iadd, 1) := by decide +kernel
theorem dl_1128 : decode code 1128 = .ok (.iaload, 1) := by decide +kernel
theorem dl_1129 : decode code 1129 = .ok (.invokevirtual 126, 3) := by decide +kernel
theorem dl_1132 : decode code 1132 = .ok (.pop, 1) := by decide +kernel
theorem dl_1133 : decode code 1133 = .ok (.goto 409, 3) := by decide +kernel
theorem dl_1136 : decode code 1136 = .ok (.aload_n 1, 1) := by decide +kernel
theorem dl_1137 : decode code 1137 = .ok (.aload_n 0, 1) := by decide +kernel
theorem dl_1138 : decode code 1138 = .ok (.iload 4, 2) := by decide +kernel
theorem dl_1140 : decode code 1140 = .ok (.iconst 1, 1) := by decide +kernel
theorem dl_1141 : decode code 1141 = .ok (.iadd, 1) := by decide +kernel
theorem dl_1142 : decode code 1142 = .ok (.iaload, 1) := by decide +kernel
theorem dl_1143 : decode code 1143 = .ok (.aload_n 0, 1) := by decide +kernel
theorem dl_1144 : decode code 1144 = .ok (.iload 4, 2) := by decide +kernel
theorem dl_1146 : decode code 1146 = .ok (.iconst 2, 1) := by decide +kernel
theorem dl_1147 : decode code 1147 = .ok (.iadd, 1) := by decide +kernel
theorem dl_1148 : decode code 1148 = .ok (.iaload, 1) := by decide +kernel
theorem dl_1149 : decode code 1149 = .ok (.invokevirtual 127, 3) := by decide +kernel
theorem dl_1152 : decode code 1152 = .ok (.pop, 1) := by decide +kernel
theorem dl_1153 : decode code 1153 = .ok (.aload_n 2, 1) := by decide +kernel
theorem dl_1154 : decode code 1154 = .ok (.aload_n 0, 1) := by decide +kernel
theorem dl_1155 : decode code 1155 = .ok (.iload 4, 2) := by decide +kernel
theorem dl_1157 : decode code 1157 = .ok (.iconst 1, 1) := by decide +kernel
theorem dl_1158 : decode code 1158 = .ok (.iadd, 1) := by decide +kernel
theorem dl_1159 : decode code 1159 = .ok (.iaload, 1) := by decide +kernel
theorem dl_1160 : decode code 1160 = .ok (.aload_n 0, 1) := by decide +kernel
theorem dl_1161 : decode code 1161 = .ok (.iload 4, 2) := by decide +kernel
theorem dl_1163 : decode code 1163 = .ok (.iconst 2, 1) := by decide +kernel
theorem dl_1164 : decode code 1164 = .ok (.iadd, 1) := by decide +kernel
theorem dl_1165 : decode code 1165 = .ok (.iaload, 1) := by decide +kernel
theorem dl_1166 : decode code 1166 = .ok (.invokevirtual 130, 3) := by decide +kernel
theorem dl_1169 : decode code 1169 = .ok (.pop, 1) := by decide +kernel
theorem dl_1170 : decode code 1170 = .ok (.goto 372, 3) := by decide +kernel
theorem dl_1173 : decode code 1173 = .ok (.aload_n 1, 1) := by decide +kernel
theorem dl_1174 : decode code 1174 = .ok (.aload_n 0, 1) := by decide +kernel
theorem dl_1175 : decode code 1175 = .ok (.iload 4, 2) := by decide +kernel
theorem dl_1177 : decode code 1177 = .ok (.iconst 1, 1) := by decide +kernel
theorem dl_1178 : decode code 1178 = .ok (.iadd, 1) := by decide +kernel
theorem dl_1179 : decode code 1179 = .ok (.iaload, 1) := by decide +kernel
theorem dl_1180 : decode code 1180 = .ok (.aload_n 0, 1) := by decide +kernel
theorem dl_1181 : decode code 1181 = .ok (.iload 4, 2) := by decide +kernel
theorem dl_1183 : decode code 1183 = .ok (.iconst 2, 1) := by decide +kernel
theorem dl_1184 : decode code 1184 = .ok (.iadd, 1) := by decide +kernel
theorem dl_1185 : decode code 1185 = .ok (.iaload, 1) := by decide +kernel
theorem dl_1186 : decode code 1186 = .ok (.aload_n 0, 1) := by decide +kernel
theorem dl_1187 : decode code 1187 = .ok (.iload 4, 2) := by decide +kernel
theorem dl_1189 : decode code 1189 = .ok (.iconst 3, 1) := by decide +kernel
theorem dl_1190 : decode code 1190 = .ok (.iadd, 1) := by decide +kernel
theorem dl_1191 : decode code 1191 = .ok (.iaload, 1) := by decide +kernel
theorem dl_1192 : decode code 1192 = .ok (.invokevirtual 131, 3) := by decide +kernel
theorem dl_1195 : decode code 1195 = .ok (.pop, 1) := by decide +kernel
theorem dl_1196 : decode code 1196 = .ok (.aload_n 2, 1) := by decide +kernel
theorem dl_1197 : decode code 1197 = .ok (.aload_n 0, 1) := by decide +kernel
theorem dl_1198 : decode code 1198 = .ok (.iload 4, 2) := by decide +kernel
theorem dl_1200 : decode code 1200 = .ok (.iconst 1, 1) := by decide +kernel
theorem dl_1201 : decode code 1201 = .ok (.iadd, 1) := by decide +kernel
theorem dl_1202 : decode code 1202 = .ok (.iaload, 1) := by decide +kernel
theorem dl_1203 : decode code 1203 = .ok (.aload_n 0, 1) := by decide +kernel
theorem dl_1204 : decode code 1204 = .ok (.iload 4, 2) := by decide +kernel
theorem dl_1206 : decode code 1206 = .ok (.iconst 2, 1) := by decide +kernel
theorem dl_1207 : decode code 1207 = .ok (.iadd, 1) := by decide +kernel
theorem dl_1208 : decode code 1208 = .ok (.iaload, 1) := by decide +kernel
theorem dl_1209 : decode code 1209 = .ok (.aload_n 0, 1) := by decide +kernel
theorem dl_1210 : decode code 1210 = .ok (.iload 4, 2) := by decide +kernel
theorem dl_1212 : decode code 1212 = .ok (.iconst 3, 1) := by decide +kernel
theorem dl_1213 : decode code 1213 = .ok (.iadd, 1) := by decide +kernel
theorem dl_1214 : decode code 1214 = .ok (.iaload, 1) := by decide +kernel
theorem dl_1215 : decode code 1215 = .ok (.invokevirtual 134, 3) := by decide +kernel
theorem dl_1218 : decode code 1218 = .ok (.pop, 1) := by decide +kernel
theorem dl_1219 : decode code 1219 = .ok (.goto 323, 3) := by decide +kernel
theorem dl_1222 : decode code 1222 = .ok (.aload_n 1, 1) := by decide +kernel
theorem dl_1223 : decode code 1223 = .ok (.aload_n 0, 1) := by decide +kernel
theorem dl_1224 : decode code 1224 = .ok (.iload 4, 2) := by decide +kernel
theorem dl_1226 : decode code 1226 = .ok (.iconst 1, 1) := by decide +kernel
theorem dl_1227 : decode code 1227 = .ok (.iadd, 1) := by decide +kernel

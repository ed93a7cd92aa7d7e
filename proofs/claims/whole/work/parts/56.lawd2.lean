/-! the law: its instructions -/
theorem d_Law_law_933 : decode code 933 = .ok (.if_icmp .eq 5, 3) := by decide +kernel
theorem d_Law_law_936 : decode code 936 = .ok (.iconst 0, 1) := by decide +kernel
theorem d_Law_law_937 : decode code 937 = .ok (.ireturn, 1) := by decide +kernel
theorem d_Law_law_938 : decode code 938 = .ok (.iload 6, 2) := by decide +kernel
theorem d_Law_law_940 : decode code 940 = .ok (.ifCond .ne 15, 3) := by decide +kernel
theorem d_Law_law_943 : decode code 943 = .ok (.aload_n 3, 1) := by decide +kernel
theorem d_Law_law_944 : decode code 944 = .ok (.iconst 0, 1) := by decide +kernel
theorem d_Law_law_945 : decode code 945 = .ok (.laload, 1) := by decide +kernel
theorem d_Law_law_946 : decode code 946 = .ok (.iload 7, 2) := by decide +kernel
theorem d_Law_law_948 : decode code 948 = .ok (.i2l, 1) := by decide +kernel
theorem d_Law_law_949 : decode code 949 = .ok (.lcmp, 1) := by decide +kernel
theorem d_Law_law_950 : decode code 950 = .ok (.ifCond .eq 5, 3) := by decide +kernel
theorem d_Law_law_953 : decode code 953 = .ok (.iconst 0, 1) := by decide +kernel
theorem d_Law_law_954 : decode code 954 = .ok (.ireturn, 1) := by decide +kernel
theorem d_Law_law_955 : decode code 955 = .ok (.goto 1978, 3) := by decide +kernel
theorem d_Law_law_958 : decode code 958 = .ok (.aload_n 1, 1) := by decide +kernel
theorem d_Law_law_959 : decode code 959 = .ok (.aload_n 0, 1) := by decide +kernel
theorem d_Law_law_960 : decode code 960 = .ok (.iload 5, 2) := by decide +kernel
theorem d_Law_law_962 : decode code 962 = .ok (.iconst 1, 1) := by decide +kernel
theorem d_Law_law_963 : decode code 963 = .ok (.iadd, 1) := by decide +kernel
theorem d_Law_law_964 : decode code 964 = .ok (.iaload, 1) := by decide +kernel
theorem d_Law_law_965 : decode code 965 = .ok (.i2c, 1) := by decide +kernel
theorem d_Law_law_966 : decode code 966 = .ok (.aload_n 3, 1) := by decide +kernel
theorem d_Law_law_967 : decode code 967 = .ok (.invokestatic 208, 3) := by decide +kernel
theorem d_Law_law_970 : decode code 970 = .ok (.istore 6, 2) := by decide +kernel
theorem d_Law_law_972 : decode code 972 = .ok (.aload_n 2, 1) := by decide +kernel
theorem d_Law_law_973 : decode code 973 = .ok (.aload_n 0, 1) := by decide +kernel
theorem d_Law_law_974 : decode code 974 = .ok (.iload 5, 2) := by decide +kernel
theorem d_Law_law_976 : decode code 976 = .ok (.iconst 1, 1) := by decide +kernel
theorem d_Law_law_977 : decode code 977 = .ok (.iadd, 1) := by decide +kernel
theorem d_Law_law_978 : decode code 978 = .ok (.iaload, 1) := by decide +kernel
theorem d_Law_law_979 : decode code 979 = .ok (.i2c, 1) := by decide +kernel
theorem d_Law_law_980 : decode code 980 = .ok (.invokevirtual 210, 3) := by decide +kernel
theorem d_Law_law_983 : decode code 983 = .ok (.istore 7, 2) := by decide +kernel
theorem d_Law_law_985 : decode code 985 = .ok (.aload_n 2, 1) := by decide +kernel
theorem d_Law_law_986 : decode code 986 = .ok (.invokevirtual 163, 3) := by decide +kernel
theorem d_Law_law_989 : decode code 989 = .ok (.iload 6, 2) := by decide +kernel
theorem d_Law_law_991 : decode code 991 = .ok (.if_icmp .eq 5, 3) := by decide +kernel
theorem d_Law_law_994 : decode code 994 = .ok (.iconst 0, 1) := by decide +kernel
theorem d_Law_law_995 : decode code 995 = .ok (.ireturn, 1) := by decide +kernel
theorem d_Law_law_996 : decode code 996 = .ok (.iload 6, 2) := by decide +kernel
theorem d_Law_law_998 : decode code 998 = .ok (.ifCond .ne 15, 3) := by decide +kernel
theorem d_Law_law_1001 : decode code 1001 = .ok (.aload_n 3, 1) := by decide +kernel
theorem d_Law_law_1002 : decode code 1002 = .ok (.iconst 0, 1) := by decide +kernel
theorem d_Law_law_1003 : decode code 1003 = .ok (.laload, 1) := by decide +kernel
theorem d_Law_law_1004 : decode code 1004 = .ok (.iload 7, 2) := by decide +kernel
theorem d_Law_law_1006 : decode code 1006 = .ok (.i2l, 1) := by decide +kernel
theorem d_Law_law_1007 : decode code 1007 = .ok (.lcmp, 1) := by decide +kernel
theorem d_Law_law_1008 : decode code 1008 = .ok (.ifCond .eq 5, 3) := by decide +kernel
theorem d_Law_law_1011 : decode code 1011 = .ok (.iconst 0, 1) := by decide +kernel
theorem d_Law_law_1012 : decode code 1012 = .ok (.ireturn, 1) := by decide +kernel
theorem d_Law_law_1013 : decode code 1013 = .ok (.goto 1920, 3) := by decide +kernel
theorem d_Law_law_1016 : decode code 1016 = .ok (.aload_n 1, 1) := by decide +kernel
theorem d_Law_law_1017 : decode code 1017 = .ok (.aload_n 0, 1) := by decide +kernel
theorem d_Law_law_1018 : decode code 1018 = .ok (.iload 5, 2) := by decide +kernel
theorem d_Law_law_1020 : decode code 1020 = .ok (.iconst 1, 1) := by decide +kernel
theorem d_Law_law_1021 : decode code 1021 = .ok (.iadd, 1) := by decide +kernel
theorem d_Law_law_1022 : decode code 1022 = .ok (.iaload, 1) := by decide +kernel
theorem d_Law_law_1023 : decode code 1023 = .ok (.aload_n 3, 1) := by decide +kernel
theorem d_Law_law_1024 : decode code 1024 = .ok (.invokestatic 211, 3) := by decide +kernel
theorem d_Law_law_1027 : decode code 1027 = .ok (.istore 6, 2) := by decide +kernel
theorem d_Law_law_1029 : decode code 1029 = .ok (.aload_n 2, 1) := by decide +kernel
theorem d_Law_law_1030 : decode code 1030 = .ok (.aload_n 0, 1) := by decide +kernel
theorem d_Law_law_1031 : decode code 1031 = .ok (.iload 5, 2) := by decide +kernel
theorem d_Law_law_1033 : decode code 1033 = .ok (.iconst 1, 1) := by decide +kernel
theorem d_Law_law_1034 : decode code 1034 = .ok (.iadd, 1) := by decide +kernel
theorem d_Law_law_1035 : decode code 1035 = .ok (.iaload, 1) := by decide +kernel
theorem d_Law_law_1036 : decode code 1036 = .ok (.invokevirtual 213, 3) := by decide +kernel
theorem d_Law_law_1039 : decode code 1039 = .ok (.istore 7, 2) := by decide +kernel
theorem d_Law_law_1041 : decode code 1041 = .ok (.aload_n 2, 1) := by decide +kernel
theorem d_Law_law_1042 : decode code 1042 = .ok (.invokevirtual 163, 3) := by decide +kernel
theorem d_Law_law_1045 : decode code 1045 = .ok (.iload 6, 2) := by decide +kernel
theorem d_Law_law_1047 : decode code 1047 = .ok (.if_icmp .eq 5, 3) := by decide +kernel
theorem d_Law_law_1050 : decode code 1050 = .ok (.iconst 0, 1) := by decide +kernel
theorem d_Law_law_1051 : decode code 1051 = .ok (.ireturn, 1) := by decide +kernel
theorem d_Law_law_1052 : decode code 1052 = .ok (.iload 6, 2) := by decide +kernel
theorem d_Law_law_1054 : decode code 1054 = .ok (.ifCond .ne 15, 3) := by decide +kernel
theorem d_Law_law_1057 : decode code 1057 = .ok (.aload_n 3, 1) := by decide +kernel
theorem d_Law_law_1058 : decode code 1058 = .ok (.iconst 0, 1) := by decide +kernel
theorem d_Law_law_1059 : decode code 1059 = .ok (.laload, 1) := by decide +kernel
theorem d_Law_law_1060 : decode code 1060 = .ok (.iload 7, 2) := by decide +kernel
theorem d_Law_law_1062 : decode code 1062 = .ok (.i2l, 1) := by decide +kernel
theorem d_Law_law_1063 : decode code 1063 = .ok (.lcmp, 1) := by decide +kernel
theorem d_Law_law_1064 : decode code 1064 = .ok (.ifCond .eq 5, 3) := by decide +kernel
theorem d_Law_law_1067 : decode code 1067 = .ok (.iconst 0, 1) := by decide +kernel
theorem d_Law_law_1068 : decode code 1068 = .ok (.ireturn, 1) := by decide +kernel
theorem d_Law_law_1069 : decode code 1069 = .ok (.goto 1864, 3) := by decide +kernel
theorem d_Law_law_1072 : decode code 1072 = .ok (.aload_n 1, 1) := by decide +kernel
theorem d_Law_law_1073 : decode code 1073 = .ok (.invokevirtual 214, 3) := by decide +kernel
theorem d_Law_law_1076 : decode code 1076 = .ok (.aload_n 2, 1) := by decide +kernel
theorem d_Law_law_1077 : decode code 1077 = .ok (.invokevirtual 217, 3) := by decide +kernel
theorem d_Law_law_1080 : decode code 1080 = .ok (.if_icmp .eq 1853, 3) := by decide +kernel
theorem d_Law_law_1083 : decode code 1083 = .ok (.iconst 0, 1) := by decide +kernel
theorem d_Law_law_1084 : decode code 1084 = .ok (.ireturn, 1) := by decide +kernel
theorem d_Law_law_1085 : decode code 1085 = .ok (.aload_n 1, 1) := by decide +kernel
theorem d_Law_law_1086 : decode code 1086 = .ok (.invokevirtual 218, 3) := by decide +kernel
theorem d_Law_law_1089 : decode code 1089 = .ok (.aload_n 2, 1) := by decide +kernel
theorem d_Law_law_1090 : decode code 1090 = .ok (.invokevirtual 221, 3) := by decide +kernel
theorem d_Law_law_1093 : decode code 1093 = .ok (.if_icmp .eq 1840, 3) := by decide +kernel
theorem d_Law_law_1096 : decode code 1096 = .ok (.iconst 0, 1) := by decide +kernel
theorem d_Law_law_1097 : decode code 1097 = .ok (.ireturn, 1) := by decide +kernel
theorem d_Law_law_1098 : decode code 1098 = .ok (.aload_n 1, 1) := by decide +kernel
theorem d_Law_law_1099 : decode code 1099 = .ok (.invokevirtual 222, 3) := by decide +kernel
theorem d_Law_law_1102 : decode code 1102 = .ok (.aload_n 2, 1) := by decide +kernel
theorem d_Law_law_1103 : decode code 1103 = .ok (.invokevirtual 225, 3) := by decide +kernel
theorem d_Law_law_1106 : decode code 1106 = .ok (.if_icmp .eq 1827, 3) := by decide +kernel
theorem d_Law_law_1109 : decode code 1109 = .ok (.iconst 0, 1) := by decide +kernel
theorem d_Law_law_1110 : decode code 1110 = .ok (.ireturn, 1) := by decide +kernel
theorem d_Law_law_1111 : decode code 1111 = .ok (.aload_n 1, 1) := by decide +kernel
theorem d_Law_law_1112 : decode code 1112 = .ok (.invokevirtual 226, 3) := by decide +kernel
theorem d_Law_law_1115 : decode code 1115 = .ok (.aload_n 2, 1) := by decide +kernel
theorem d_Law_law_1116 : decode code 1116 = .ok (.invokevirtual 229, 3) := by decide +kernel
theorem d_Law_law_1119 : decode code 1119 = .ok (.if_icmp .eq 1814, 3) := by decide +kernel
theorem d_Law_law_1122 : decode code 1122 = .ok (.iconst 0, 1) := by decide +kernel
theorem d_Law_law_1123 : decode code 1123 = .ok (.ireturn, 1) := by decide +kernel
theorem d_Law_law_1124 : decode code 1124 = .ok (.aload_n 1, 1) := by decide +kernel
theorem d_Law_law_1125 : decode code 1125 = .ok (.invokevirtual 230, 3) := by decide +kernel
theorem d_Law_law_1128 : decode code 1128 = .ok (.dstore 6, 2) := by decide +kernel
theorem d_Law_law_1130 : decode code 1130 = .ok (.aload_n 2, 1) := by decide +kernel
theorem d_Law_law_1131 : decode code 1131 = .ok (.invokevirtual 234, 3) := by decide +kernel
theorem d_Law_law_1134 : decode code 1134 = .ok (.dstore 8, 2) := by decide +kernel
theorem d_Law_law_1136 : decode code 1136 = .ok (.dload 6, 2) := by decide +kernel
theorem d_Law_law_1138 : decode code 1138 = .ok (.dload 8, 2) := by decide +kernel
theorem d_Law_law_1140 : decode code 1140 = .ok (.dcmp .l, 1) := by decide +kernel
theorem d_Law_law_1141 : decode code 1141 = .ok (.ifCond .eq 21, 3) := by decide +kernel
theorem d_Law_law_1144 : decode code 1144 = .ok (.dload 6, 2) := by decide +kernel
theorem d_Law_law_1146 : decode code 1146 = .ok (.dload 6, 2) := by decide +kernel
theorem d_Law_law_1148 : decode code 1148 = .ok (.dcmp .l, 1) := by decide +kernel
theorem d_Law_law_1149 : decode code 1149 = .ok (.ifCond .eq 11, 3) := by decide +kernel
theorem d_Law_law_1152 : decode code 1152 = .ok (.dload 8, 2) := by decide +kernel
theorem d_Law_law_1154 : decode code 1154 = .ok (.dload 8, 2) := by decide +kernel
theorem d_Law_law_1156 : decode code 1156 = .ok (.dcmp .l, 1) := by decide +kernel
theorem d_Law_law_1157 : decode code 1157 = .ok (.ifCond .ne 5, 3) := by decide +kernel
theorem d_Law_law_1160 : decode code 1160 = .ok (.iconst 0, 1) := by decide +kernel
theorem d_Law_law_1161 : decode code 1161 = .ok (.ireturn, 1) := by decide +kernel
theorem d_Law_law_1162 : decode code 1162 = .ok (.goto 1771, 3) := by decide +kernel
theorem d_Law_law_1165 : decode code 1165 = .ok (.aload_n 1, 1) := by decide +kernel
theorem d_Law_law_1166 : decode code 1166 = .ok (.invokevirtual 235, 3) := by decide +kernel
theorem d_Law_law_1169 : decode code 1169 = .ok (.aload_n 2, 1) := by decide +kernel
theorem d_Law_law_1170 : decode code 1170 = .ok (.invokevirtual 238, 3) := by decide +kernel
theorem d_Law_law_1173 : decode code 1173 = .ok (.if_icmp .eq 1760, 3) := by decide +kernel
theorem d_Law_law_1176 : decode code 1176 = .ok (.iconst 0, 1) := by decide +kernel
theorem d_Law_law_1177 : decode code 1177 = .ok (.ireturn, 1) := by decide +kernel
theorem d_Law_law_1178 : decode code 1178 = .ok (.aload_n 1, 1) := by decide +kernel
theorem d_Law_law_1179 : decode code 1179 = .ok (.aload_n 0, 1) := by decide +kernel
theorem d_Law_law_1180 : decode code 1180 = .ok (.iload 5, 2) := by decide +kernel
theorem d_Law_law_1182 : decode code 1182 = .ok (.iconst 1, 1) := by decide +kernel
theorem d_Law_law_1183 : decode code 1183 = .ok (.iadd, 1) := by decide +kernel
theorem d_Law_law_1184 : decode code 1184 = .ok (.iaload, 1) := by decide +kernel
theorem d_Law_law_1185 : decode code 1185 = .ok (.aload_n 3, 1) := by decide +kernel
theorem d_Law_law_1186 : decode code 1186 = .ok (.invokestatic 239, 3) := by decide +kernel
theorem d_Law_law_1189 : decode code 1189 = .ok (.istore 6, 2) := by decide +kernel
theorem d_Law_law_1191 : decode code 1191 = .ok (.aload_n 2, 1) := by decide +kernel
theorem d_Law_law_1192 : decode code 1192 = .ok (.aload_n 0, 1) := by decide +kernel
theorem d_Law_law_1193 : decode code 1193 = .ok (.iload 5, 2) := by decide +kernel
theorem d_Law_law_1195 : decode code 1195 = .ok (.iconst 1, 1) := by decide +kernel
theorem d_Law_law_1196 : decode code 1196 = .ok (.iadd, 1) := by decide +kernel
theorem d_Law_law_1197 : decode code 1197 = .ok (.iaload, 1) := by decide +kernel
theorem d_Law_law_1198 : decode code 1198 = .ok (.invokevirtual 241, 3) := by decide +kernel
theorem d_Law_law_1201 : decode code 1201 = .ok (.istore 7, 2) := by decide +kernel
theorem d_Law_law_1203 : decode code 1203 = .ok (.aload_n 2, 1) := by decide +kernel
theorem d_Law_law_1204 : decode code 1204 = .ok (.invokevirtual 163, 3) := by decide +kernel
theorem d_Law_law_1207 : decode code 1207 = .ok (.iload 6, 2) := by decide +kernel
theorem d_Law_law_1209 : decode code 1209 = .ok (.if_icmp .eq 5, 3) := by decide +kernel
theorem d_Law_law_1212 : decode code 1212 = .ok (.iconst 0, 1) := by decide +kernel
theorem d_Law_law_1213 : decode code 1213 = .ok (.ireturn, 1) := by decide +kernel
theorem d_Law_law_1214 : decode code 1214 = .ok (.iload 6, 2) := by decide +kernel
theorem d_Law_law_1216 : decode code 1216 = .ok (.ifCond .ne 15, 3) := by decide +kernel
theorem d_Law_law_1219 : decode code 1219 = .ok (.aload_n 3, 1) := by decide +kernel
theorem d_Law_law_1220 : decode code 1220 = .ok (.iconst 0, 1) := by decide +kernel
theorem d_Law_law_1221 : decode code 1221 = .ok (.laload, 1) := by decide +kernel
theorem d_Law_law_1222 : decode code 1222 = .ok (.iload 7, 2) := by decide +kernel
theorem d_Law_law_1224 : decode code 1224 = .ok (.i2l, 1) := by decide +kernel
theorem d_Law_law_1225 : decode code 1225 = .ok (.lcmp, 1) := by decide +kernel
theorem d_Law_law_1226 : decode code 1226 = .ok (.ifCond .eq 5, 3) := by decide +kernel
theorem d_Law_law_1229 : decode code 1229 = .ok (.iconst 0, 1) := by decide +kernel
theorem d_Law_law_1230 : decode code 1230 = .ok (.ireturn, 1) := by decide +kernel
theorem d_Law_law_1231 : decode code 1231 = .ok (.goto 1702, 3) := by decide +kernel
theorem d_Law_law_1234 : decode code 1234 = .ok (.aload_n 1, 1) := by decide +kernel
theorem d_Law_law_1235 : decode code 1235 = .ok (.invokevirtual 242, 3) := by decide +kernel
theorem d_Law_law_1238 : decode code 1238 = .ok (.aload_n 2, 1) := by decide +kernel
theorem d_Law_law_1239 : decode code 1239 = .ok (.invokevirtual 245, 3) := by decide +kernel
theorem d_Law_law_1242 : decode code 1242 = .ok (.if_icmp .eq 1691, 3) := by decide +kernel
theorem d_Law_law_1245 : decode code 1245 = .ok (.iconst 0, 1) := by decide +kernel
theorem d_Law_law_1246 : decode code 1246 = .ok (.ireturn, 1) := by decide +kernel
theorem d_Law_law_1247 : decode code 1247 = .ok (.aload_n 1, 1) := by decide +kernel
theorem d_Law_law_1248 : decode code 1248 = .ok (.invokevirtual 246, 3) := by decide +kernel
theorem d_Law_law_1251 : decode code 1251 = .ok (.aload_n 2, 1) := by decide +kernel
theorem d_Law_law_1252 : decode code 1252 = .ok (.invokevirtual 249, 3) := by decide +kernel
theorem d_Law_law_1255 : decode code 1255 = .ok (.if_icmp .eq 1678, 3) := by decide +kernel
theorem d_Law_law_1258 : decode code 1258 = .ok (.iconst 0, 1) := by decide +kernel
theorem d_Law_law_1259 : decode code 1259 = .ok (.ireturn, 1) := by decide +kernel
theorem d_Law_law_1260 : decode code 1260 = .ok (.aload_n 1, 1) := by decide +kernel
theorem d_Law_law_1261 : decode code 1261 = .ok (.aload_n 0, 1) := by decide +kernel
theorem d_Law_law_1262 : decode code 1262 = .ok (.iload 5, 2) := by decide +kernel
theorem d_Law_law_1264 : decode code 1264 = .ok (.iconst 1, 1) := by decide +kernel
theorem d_Law_law_1265 : decode code 1265 = .ok (.iadd, 1) := by decide +kernel
theorem d_Law_law_1266 : decode code 1266 = .ok (.iaload, 1) := by decide +kernel
theorem d_Law_law_1267 : decode code 1267 = .ok (.aload_n 3, 1) := by decide +kernel
theorem d_Law_law_1268 : decode code 1268 = .ok (.invokestatic 250, 3) := by decide +kernel
theorem d_Law_law_1271 : decode code 1271 = .ok (.istore 6, 2) := by decide +kernel
theorem d_Law_law_1273 : decode code 1273 = .ok (.aload_n 2, 1) := by decide +kernel
theorem d_Law_law_1274 : decode code 1274 = .ok (.aload_n 0, 1) := by decide +kernel
theorem d_Law_law_1275 : decode code 1275 = .ok (.iload 5, 2) := by decide +kernel
theorem d_Law_law_1277 : decode code 1277 = .ok (.iconst 1, 1) := by decide +kernel
theorem d_Law_law_1278 : decode code 1278 = .ok (.iadd, 1) := by decide +kernel
theorem d_Law_law_1279 : decode code 1279 = .ok (.iaload, 1) := by decide +kernel
theorem d_Law_law_1280 : decode code 1280 = .ok (.invokevirtual 252, 3) := by decide +kernel
theorem d_Law_law_1283 : decode code 1283 = .ok (.istore 7, 2) := by decide +kernel
theorem d_Law_law_1285 : decode code 1285 = .ok (.aload_n 2, 1) := by decide +kernel

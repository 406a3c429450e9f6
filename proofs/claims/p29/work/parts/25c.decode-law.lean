theorem dL_law_932 : decode cL_law 932 = .ok (.iconst (-1), 1) := by decide +kernel
theorem dL_law_933 : decode cL_law 933 = .ok (.if_icmp .ne 13, 3) := by decide +kernel
theorem dL_law_936 : decode cL_law 936 = .ok (.aload_n 3, 1) := by decide +kernel
theorem dL_law_937 : decode cL_law 937 = .ok (.bipush 48, 2) := by decide +kernel
theorem dL_law_939 : decode cL_law 939 = .ok (.iload 15, 2) := by decide +kernel
theorem dL_law_941 : decode cL_law 941 = .ok (.iadd, 1) := by decide +kernel
theorem dL_law_942 : decode cL_law 942 = .ok (.iaload, 1) := by decide +kernel
theorem dL_law_943 : decode cL_law 943 = .ok (.goto 10, 3) := by decide +kernel
theorem dL_law_946 : decode cL_law 946 = .ok (.aload 11, 2) := by decide +kernel
theorem dL_law_948 : decode cL_law 948 = .ok (.iconst 0, 1) := by decide +kernel
theorem dL_law_949 : decode cL_law 949 = .ok (.iaload, 1) := by decide +kernel
theorem dL_law_950 : decode cL_law 950 = .ok (.bipush 30, 2) := by decide +kernel
theorem dL_law_952 : decode cL_law 952 = .ok (.iadd, 1) := by decide +kernel
theorem dL_law_953 : decode cL_law 953 = .ok (.iastore, 1) := by decide +kernel
theorem dL_law_954 : decode cL_law 954 = .ok (.goto 2048, 3) := by decide +kernel
theorem dL_law_957 : decode cL_law 957 = .ok (.iload 14, 2) := by decide +kernel
theorem dL_law_959 : decode cL_law 959 = .ok (.bipush 14, 2) := by decide +kernel
theorem dL_law_961 : decode cL_law 961 = .ok (.iand, 1) := by decide +kernel
theorem dL_law_962 : decode cL_law 962 = .ok (.ifCond .le 6, 3) := by decide +kernel
theorem dL_law_965 : decode cL_law 965 = .ok (.goto 2037, 3) := by decide +kernel
theorem dL_law_968 : decode cL_law 968 = .ok (.iload 17, 2) := by decide +kernel
theorem dL_law_970 : decode cL_law 970 = .ok (.iconst 1, 1) := by decide +kernel
theorem dL_law_971 : decode cL_law 971 = .ok (.iadd, 1) := by decide +kernel
theorem dL_law_972 : decode cL_law 972 = .ok (.iload 14, 2) := by decide +kernel
theorem dL_law_974 : decode cL_law 974 = .ok (.iconst 5, 1) := by decide +kernel
theorem dL_law_975 : decode cL_law 975 = .ok (.ishr, 1) := by decide +kernel
theorem dL_law_976 : decode cL_law 976 = .ok (.iconst 5, 1) := by decide +kernel
theorem dL_law_977 : decode cL_law 977 = .ok (.invokestatic 125, 3) := by decide +kernel
theorem dL_law_980 : decode cL_law 980 = .ok (.iadd, 1) := by decide +kernel
theorem dL_law_981 : decode cL_law 981 = .ok (.bipush 6, 2) := by decide +kernel
theorem dL_law_983 : decode cL_law 983 = .ok (.irem, 1) := by decide +kernel
theorem dL_law_984 : decode cL_law 984 = .ok (.istore 25, 2) := by decide +kernel
theorem dL_law_986 : decode cL_law 986 = .ok (.aload 10, 2) := by decide +kernel
theorem dL_law_988 : decode cL_law 988 = .ok (.iload 17, 2) := by decide +kernel
theorem dL_law_990 : decode cL_law 990 = .ok (.iaload, 1) := by decide +kernel
theorem dL_law_991 : decode cL_law 991 = .ok (.invokestatic 114, 3) := by decide +kernel
theorem dL_law_994 : decode cL_law 994 = .ok (.ifCond .ne 14, 3) := by decide +kernel
theorem dL_law_997 : decode cL_law 997 = .ok (.aload 10, 2) := by decide +kernel
theorem dL_law_999 : decode cL_law 999 = .ok (.iload 25, 2) := by decide +kernel
theorem dL_law_1001 : decode cL_law 1001 = .ok (.iaload, 1) := by decide +kernel
theorem dL_law_1002 : decode cL_law 1002 = .ok (.invokestatic 114, 3) := by decide +kernel
theorem dL_law_1005 : decode cL_law 1005 = .ok (.ifCond .eq 27, 3) := by decide +kernel
theorem dL_law_1008 : decode cL_law 1008 = .ok (.aload_n 1, 1) := by decide +kernel
theorem dL_law_1009 : decode cL_law 1009 = .ok (.iload 17, 2) := by decide +kernel
theorem dL_law_1011 : decode cL_law 1011 = .ok (.iload 25, 2) := by decide +kernel
theorem dL_law_1013 : decode cL_law 1013 = .ok (.invokestatic 196, 3) := by decide +kernel
theorem dL_law_1016 : decode cL_law 1016 = .ok (.sipush (-7300), 3) := by decide +kernel
theorem dL_law_1019 : decode cL_law 1019 = .ok (.if_icmp .ne 7, 3) := by decide +kernel
theorem dL_law_1022 : decode cL_law 1022 = .ok (.iconst 1, 1) := by decide +kernel
theorem dL_law_1023 : decode cL_law 1023 = .ok (.goto 4, 3) := by decide +kernel
theorem dL_law_1026 : decode cL_law 1026 = .ok (.iconst 0, 1) := by decide +kernel
theorem dL_law_1027 : decode cL_law 1027 = .ok (.istore 18, 2) := by decide +kernel
theorem dL_law_1029 : decode cL_law 1029 = .ok (.goto 1973, 3) := by decide +kernel
theorem dL_law_1032 : decode cL_law 1032 = .ok (.iconst 0, 1) := by decide +kernel
theorem dL_law_1033 : decode cL_law 1033 = .ok (.istore 26, 2) := by decide +kernel
theorem dL_law_1035 : decode cL_law 1035 = .ok (.iconst 0, 1) := by decide +kernel
theorem dL_law_1036 : decode cL_law 1036 = .ok (.istore 27, 2) := by decide +kernel
theorem dL_law_1038 : decode cL_law 1038 = .ok (.iconst 0, 1) := by decide +kernel
theorem dL_law_1039 : decode cL_law 1039 = .ok (.istore 28, 2) := by decide +kernel
theorem dL_law_1041 : decode cL_law 1041 = .ok (.iconst 0, 1) := by decide +kernel
theorem dL_law_1042 : decode cL_law 1042 = .ok (.istore 29, 2) := by decide +kernel
theorem dL_law_1044 : decode cL_law 1044 = .ok (.iload 29, 2) := by decide +kernel
theorem dL_law_1046 : decode cL_law 1046 = .ok (.bipush 12, 2) := by decide +kernel
theorem dL_law_1048 : decode cL_law 1048 = .ok (.if_icmp .ge 76, 3) := by decide +kernel
theorem dL_law_1051 : decode cL_law 1051 = .ok (.iload 27, 2) := by decide +kernel
theorem dL_law_1053 : decode cL_law 1053 = .ok (.aload_n 3, 1) := by decide +kernel
theorem dL_law_1054 : decode cL_law 1054 = .ok (.iload 29, 2) := by decide +kernel
theorem dL_law_1056 : decode cL_law 1056 = .ok (.iaload, 1) := by decide +kernel
theorem dL_law_1057 : decode cL_law 1057 = .ok (.iconst (-1), 1) := by decide +kernel
theorem dL_law_1058 : decode cL_law 1058 = .ok (.if_icmp .eq 23, 3) := by decide +kernel
theorem dL_law_1061 : decode cL_law 1061 = .ok (.aload_n 3, 1) := by decide +kernel
theorem dL_law_1062 : decode cL_law 1062 = .ok (.iload 29, 2) := by decide +kernel
theorem dL_law_1064 : decode cL_law 1064 = .ok (.iaload, 1) := by decide +kernel
theorem dL_law_1065 : decode cL_law 1065 = .ok (.aload_n 2, 1) := by decide +kernel
theorem dL_law_1066 : decode cL_law 1066 = .ok (.iload 29, 2) := by decide +kernel
theorem dL_law_1068 : decode cL_law 1068 = .ok (.iconst 3, 1) := by decide +kernel
theorem dL_law_1069 : decode cL_law 1069 = .ok (.idiv, 1) := by decide +kernel
theorem dL_law_1070 : decode cL_law 1070 = .ok (.iaload, 1) := by decide +kernel
theorem dL_law_1071 : decode cL_law 1071 = .ok (.if_icmp .ne 10, 3) := by decide +kernel
theorem dL_law_1074 : decode cL_law 1074 = .ok (.iconst 1, 1) := by decide +kernel
theorem dL_law_1075 : decode cL_law 1075 = .ok (.iload 29, 2) := by decide +kernel
theorem dL_law_1077 : decode cL_law 1077 = .ok (.ishl, 1) := by decide +kernel
theorem dL_law_1078 : decode cL_law 1078 = .ok (.goto 4, 3) := by decide +kernel
theorem dL_law_1081 : decode cL_law 1081 = .ok (.iconst 0, 1) := by decide +kernel
theorem dL_law_1082 : decode cL_law 1082 = .ok (.ior, 1) := by decide +kernel
theorem dL_law_1083 : decode cL_law 1083 = .ok (.istore 27, 2) := by decide +kernel
theorem dL_law_1085 : decode cL_law 1085 = .ok (.iload 28, 2) := by decide +kernel
theorem dL_law_1087 : decode cL_law 1087 = .ok (.aload_n 3, 1) := by decide +kernel
theorem dL_law_1088 : decode cL_law 1088 = .ok (.iload 29, 2) := by decide +kernel
theorem dL_law_1090 : decode cL_law 1090 = .ok (.iaload, 1) := by decide +kernel
theorem dL_law_1091 : decode cL_law 1091 = .ok (.iload 25, 2) := by decide +kernel
theorem dL_law_1093 : decode cL_law 1093 = .ok (.if_icmp .ne 21, 3) := by decide +kernel
theorem dL_law_1096 : decode cL_law 1096 = .ok (.aload_n 2, 1) := by decide +kernel
theorem dL_law_1097 : decode cL_law 1097 = .ok (.iload 29, 2) := by decide +kernel
theorem dL_law_1099 : decode cL_law 1099 = .ok (.iconst 3, 1) := by decide +kernel
theorem dL_law_1100 : decode cL_law 1100 = .ok (.idiv, 1) := by decide +kernel
theorem dL_law_1101 : decode cL_law 1101 = .ok (.iaload, 1) := by decide +kernel
theorem dL_law_1102 : decode cL_law 1102 = .ok (.iload 17, 2) := by decide +kernel
theorem dL_law_1104 : decode cL_law 1104 = .ok (.if_icmp .ne 10, 3) := by decide +kernel
theorem dL_law_1107 : decode cL_law 1107 = .ok (.iconst 1, 1) := by decide +kernel
theorem dL_law_1108 : decode cL_law 1108 = .ok (.iload 29, 2) := by decide +kernel
theorem dL_law_1110 : decode cL_law 1110 = .ok (.ishl, 1) := by decide +kernel
theorem dL_law_1111 : decode cL_law 1111 = .ok (.goto 4, 3) := by decide +kernel
theorem dL_law_1114 : decode cL_law 1114 = .ok (.iconst 0, 1) := by decide +kernel
theorem dL_law_1115 : decode cL_law 1115 = .ok (.ior, 1) := by decide +kernel
theorem dL_law_1116 : decode cL_law 1116 = .ok (.istore 28, 2) := by decide +kernel
theorem dL_law_1118 : decode cL_law 1118 = .ok (.iinc 29 1, 3) := by decide +kernel
theorem dL_law_1121 : decode cL_law 1121 = .ok (.goto (-77), 3) := by decide +kernel
theorem dL_law_1124 : decode cL_law 1124 = .ok (.iconst 0, 1) := by decide +kernel
theorem dL_law_1125 : decode cL_law 1125 = .ok (.istore 29, 2) := by decide +kernel
theorem dL_law_1127 : decode cL_law 1127 = .ok (.iload 29, 2) := by decide +kernel
theorem dL_law_1129 : decode cL_law 1129 = .ok (.iconst 4, 1) := by decide +kernel
theorem dL_law_1130 : decode cL_law 1130 = .ok (.if_icmp .ge 31, 3) := by decide +kernel
theorem dL_law_1133 : decode cL_law 1133 = .ok (.aload_n 2, 1) := by decide +kernel
theorem dL_law_1134 : decode cL_law 1134 = .ok (.iload 29, 2) := by decide +kernel
theorem dL_law_1136 : decode cL_law 1136 = .ok (.aload_n 2, 1) := by decide +kernel
theorem dL_law_1137 : decode cL_law 1137 = .ok (.iload 29, 2) := by decide +kernel
theorem dL_law_1139 : decode cL_law 1139 = .ok (.iaload, 1) := by decide +kernel
theorem dL_law_1140 : decode cL_law 1140 = .ok (.iload 17, 2) := by decide +kernel
theorem dL_law_1142 : decode cL_law 1142 = .ok (.if_icmp .ne 8, 3) := by decide +kernel
theorem dL_law_1145 : decode cL_law 1145 = .ok (.iload 25, 2) := by decide +kernel
theorem dL_law_1147 : decode cL_law 1147 = .ok (.goto 7, 3) := by decide +kernel
theorem dL_law_1150 : decode cL_law 1150 = .ok (.aload_n 2, 1) := by decide +kernel
theorem dL_law_1151 : decode cL_law 1151 = .ok (.iload 29, 2) := by decide +kernel
theorem dL_law_1153 : decode cL_law 1153 = .ok (.iaload, 1) := by decide +kernel
theorem dL_law_1154 : decode cL_law 1154 = .ok (.iastore, 1) := by decide +kernel
theorem dL_law_1155 : decode cL_law 1155 = .ok (.iinc 29 1, 3) := by decide +kernel
theorem dL_law_1158 : decode cL_law 1158 = .ok (.goto (-31), 3) := by decide +kernel
theorem dL_law_1161 : decode cL_law 1161 = .ok (.iconst 0, 1) := by decide +kernel
theorem dL_law_1162 : decode cL_law 1162 = .ok (.istore 29, 2) := by decide +kernel
theorem dL_law_1164 : decode cL_law 1164 = .ok (.iload 29, 2) := by decide +kernel
theorem dL_law_1166 : decode cL_law 1166 = .ok (.bipush 12, 2) := by decide +kernel
theorem dL_law_1168 : decode cL_law 1168 = .ok (.if_icmp .ge 98, 3) := by decide +kernel
theorem dL_law_1171 : decode cL_law 1171 = .ok (.iload 28, 2) := by decide +kernel
theorem dL_law_1173 : decode cL_law 1173 = .ok (.iload 29, 2) := by decide +kernel
theorem dL_law_1175 : decode cL_law 1175 = .ok (.ishr, 1) := by decide +kernel
theorem dL_law_1176 : decode cL_law 1176 = .ok (.iconst 1, 1) := by decide +kernel
theorem dL_law_1177 : decode cL_law 1177 = .ok (.iand, 1) := by decide +kernel
theorem dL_law_1178 : decode cL_law 1178 = .ok (.iconst 1, 1) := by decide +kernel
theorem dL_law_1179 : decode cL_law 1179 = .ok (.if_icmp .ne 16, 3) := by decide +kernel
theorem dL_law_1182 : decode cL_law 1182 = .ok (.iload 29, 2) := by decide +kernel
theorem dL_law_1184 : decode cL_law 1184 = .ok (.iload 25, 2) := by decide +kernel
theorem dL_law_1186 : decode cL_law 1186 = .ok (.aload_n 2, 1) := by decide +kernel
theorem dL_law_1187 : decode cL_law 1187 = .ok (.aload_n 3, 1) := by decide +kernel
theorem dL_law_1188 : decode cL_law 1188 = .ok (.aload 7, 2) := by decide +kernel
theorem dL_law_1190 : decode cL_law 1190 = .ok (.aload 11, 2) := by decide +kernel
theorem dL_law_1192 : decode cL_law 1192 = .ok (.invokestatic 198, 3) := by decide +kernel
theorem dL_law_1195 : decode cL_law 1195 = .ok (.aload_n 3, 1) := by decide +kernel
theorem dL_law_1196 : decode cL_law 1196 = .ok (.iload 29, 2) := by decide +kernel
theorem dL_law_1198 : decode cL_law 1198 = .ok (.iaload, 1) := by decide +kernel
theorem dL_law_1199 : decode cL_law 1199 = .ok (.iload 17, 2) := by decide +kernel
theorem dL_law_1201 : decode cL_law 1201 = .ok (.if_icmp .eq 6, 3) := by decide +kernel
theorem dL_law_1204 : decode cL_law 1204 = .ok (.goto 56, 3) := by decide +kernel
theorem dL_law_1207 : decode cL_law 1207 = .ok (.iinc 26 1, 3) := by decide +kernel
theorem dL_law_1210 : decode cL_law 1210 = .ok (.aload 4, 2) := by decide +kernel
theorem dL_law_1212 : decode cL_law 1212 = .ok (.iload 29, 2) := by decide +kernel
theorem dL_law_1214 : decode cL_law 1214 = .ok (.iconst (-1), 1) := by decide +kernel
theorem dL_law_1215 : decode cL_law 1215 = .ok (.iastore, 1) := by decide +kernel
theorem dL_law_1216 : decode cL_law 1216 = .ok (.iload 27, 2) := by decide +kernel
theorem dL_law_1218 : decode cL_law 1218 = .ok (.iload 29, 2) := by decide +kernel
theorem dL_law_1220 : decode cL_law 1220 = .ok (.ishr, 1) := by decide +kernel
theorem dL_law_1221 : decode cL_law 1221 = .ok (.iconst 1, 1) := by decide +kernel
theorem dL_law_1222 : decode cL_law 1222 = .ok (.iand, 1) := by decide +kernel
theorem dL_law_1223 : decode cL_law 1223 = .ok (.iconst 1, 1) := by decide +kernel
theorem dL_law_1224 : decode cL_law 1224 = .ok (.if_icmp .ne 23, 3) := by decide +kernel
theorem dL_law_1227 : decode cL_law 1227 = .ok (.aload_n 2, 1) := by decide +kernel
theorem dL_law_1228 : decode cL_law 1228 = .ok (.iload 29, 2) := by decide +kernel
theorem dL_law_1230 : decode cL_law 1230 = .ok (.iconst 3, 1) := by decide +kernel
theorem dL_law_1231 : decode cL_law 1231 = .ok (.idiv, 1) := by decide +kernel
theorem dL_law_1232 : decode cL_law 1232 = .ok (.iaload, 1) := by decide +kernel
theorem dL_law_1233 : decode cL_law 1233 = .ok (.iload 25, 2) := by decide +kernel
theorem dL_law_1235 : decode cL_law 1235 = .ok (.if_icmp .ne 12, 3) := by decide +kernel
theorem dL_law_1238 : decode cL_law 1238 = .ok (.aload_n 3, 1) := by decide +kernel
theorem dL_law_1239 : decode cL_law 1239 = .ok (.iload 29, 2) := by decide +kernel
theorem dL_law_1241 : decode cL_law 1241 = .ok (.iload 25, 2) := by decide +kernel
theorem dL_law_1243 : decode cL_law 1243 = .ok (.iastore, 1) := by decide +kernel
theorem dL_law_1244 : decode cL_law 1244 = .ok (.goto 16, 3) := by decide +kernel
theorem dL_law_1247 : decode cL_law 1247 = .ok (.iload 29, 2) := by decide +kernel
theorem dL_law_1249 : decode cL_law 1249 = .ok (.iload 25, 2) := by decide +kernel
theorem dL_law_1251 : decode cL_law 1251 = .ok (.aload_n 2, 1) := by decide +kernel
theorem dL_law_1252 : decode cL_law 1252 = .ok (.aload_n 3, 1) := by decide +kernel
theorem dL_law_1253 : decode cL_law 1253 = .ok (.aload 7, 2) := by decide +kernel
theorem dL_law_1255 : decode cL_law 1255 = .ok (.aload 11, 2) := by decide +kernel
theorem dL_law_1257 : decode cL_law 1257 = .ok (.invokestatic 198, 3) := by decide +kernel
theorem dL_law_1260 : decode cL_law 1260 = .ok (.iinc 29 1, 3) := by decide +kernel
theorem dL_law_1263 : decode cL_law 1263 = .ok (.goto (-99), 3) := by decide +kernel
theorem dL_law_1266 : decode cL_law 1266 = .ok (.iconst 0, 1) := by decide +kernel
theorem dL_law_1267 : decode cL_law 1267 = .ok (.istore 29, 2) := by decide +kernel
theorem dL_law_1269 : decode cL_law 1269 = .ok (.iload 29, 2) := by decide +kernel
theorem dL_law_1271 : decode cL_law 1271 = .ok (.aload 11, 2) := by decide +kernel
theorem dL_law_1273 : decode cL_law 1273 = .ok (.iconst 1, 1) := by decide +kernel
theorem dL_law_1274 : decode cL_law 1274 = .ok (.iaload, 1) := by decide +kernel
theorem dL_law_1275 : decode cL_law 1275 = .ok (.if_icmp .ge 43, 3) := by decide +kernel
theorem dL_law_1278 : decode cL_law 1278 = .ok (.aload 5, 2) := by decide +kernel
theorem dL_law_1280 : decode cL_law 1280 = .ok (.iload 29, 2) := by decide +kernel
theorem dL_law_1282 : decode cL_law 1282 = .ok (.iaload, 1) := by decide +kernel
theorem dL_law_1283 : decode cL_law 1283 = .ok (.invokestatic 96, 3) := by decide +kernel
theorem dL_law_1286 : decode cL_law 1286 = .ok (.iconst 1, 1) := by decide +kernel
theorem dL_law_1287 : decode cL_law 1287 = .ok (.if_icmp .ne 25, 3) := by decide +kernel
theorem dL_law_1290 : decode cL_law 1290 = .ok (.aload 5, 2) := by decide +kernel
theorem dL_law_1292 : decode cL_law 1292 = .ok (.iload 29, 2) := by decide +kernel
theorem dL_law_1294 : decode cL_law 1294 = .ok (.iaload, 1) := by decide +kernel
theorem dL_law_1295 : decode cL_law 1295 = .ok (.invokestatic 157, 3) := by decide +kernel
theorem dL_law_1298 : decode cL_law 1298 = .ok (.iload 17, 2) := by decide +kernel
theorem dL_law_1300 : decode cL_law 1300 = .ok (.if_icmp .ne 12, 3) := by decide +kernel
theorem dL_law_1303 : decode cL_law 1303 = .ok (.aload 5, 2) := by decide +kernel
theorem dL_law_1305 : decode cL_law 1305 = .ok (.iload 29, 2) := by decide +kernel
theorem dL_law_1307 : decode cL_law 1307 = .ok (.dup2, 1) := by decide +kernel
theorem dL_law_1308 : decode cL_law 1308 = .ok (.iaload, 1) := by decide +kernel
theorem dL_law_1309 : decode cL_law 1309 = .ok (.iconst 2, 1) := by decide +kernel
theorem dL_law_1310 : decode cL_law 1310 = .ok (.iadd, 1) := by decide +kernel
theorem dL_law_1311 : decode cL_law 1311 = .ok (.iastore, 1) := by decide +kernel
theorem dL_law_1312 : decode cL_law 1312 = .ok (.iinc 29 1, 3) := by decide +kernel
theorem dL_law_1315 : decode cL_law 1315 = .ok (.goto (-46), 3) := by decide +kernel
theorem dL_law_1318 : decode cL_law 1318 = .ok (.aload 10, 2) := by decide +kernel
theorem dL_law_1320 : decode cL_law 1320 = .ok (.iload 17, 2) := by decide +kernel
theorem dL_law_1322 : decode cL_law 1322 = .ok (.dup2, 1) := by decide +kernel
theorem dL_law_1323 : decode cL_law 1323 = .ok (.iaload, 1) := by decide +kernel
theorem dL_law_1324 : decode cL_law 1324 = .ok (.sipush 128, 3) := by decide +kernel
theorem dL_law_1327 : decode cL_law 1327 = .ok (.ior, 1) := by decide +kernel
theorem dL_law_1328 : decode cL_law 1328 = .ok (.iastore, 1) := by decide +kernel
theorem dL_law_1329 : decode cL_law 1329 = .ok (.aload_n 1, 1) := by decide +kernel
theorem dL_law_1330 : decode cL_law 1330 = .ok (.iload 17, 2) := by decide +kernel
theorem dL_law_1332 : decode cL_law 1332 = .ok (.iload 25, 2) := by decide +kernel
theorem dL_law_1334 : decode cL_law 1334 = .ok (.invokestatic 196, 3) := by decide +kernel
theorem dL_law_1337 : decode cL_law 1337 = .ok (.iload 26, 2) := by decide +kernel
theorem dL_law_1339 : decode cL_law 1339 = .ok (.if_icmp .ne 7, 3) := by decide +kernel
theorem dL_law_1342 : decode cL_law 1342 = .ok (.iconst 1, 1) := by decide +kernel
theorem dL_law_1343 : decode cL_law 1343 = .ok (.goto 4, 3) := by decide +kernel
theorem dL_law_1346 : decode cL_law 1346 = .ok (.iconst 0, 1) := by decide +kernel
theorem dL_law_1347 : decode cL_law 1347 = .ok (.istore 18, 2) := by decide +kernel
theorem dL_law_1349 : decode cL_law 1349 = .ok (.goto 1653, 3) := by decide +kernel
theorem dL_law_1352 : decode cL_law 1352 = .ok (.iload 14, 2) := by decide +kernel
theorem dL_law_1354 : decode cL_law 1354 = .ok (.bipush 51, 2) := by decide +kernel
theorem dL_law_1356 : decode cL_law 1356 = .ok (.invokestatic 125, 3) := by decide +kernel
theorem dL_law_1359 : decode cL_law 1359 = .ok (.istore 29, 2) := by decide +kernel
theorem dL_law_1361 : decode cL_law 1361 = .ok (.aload_n 1, 1) := by decide +kernel

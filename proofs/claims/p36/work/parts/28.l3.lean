theorem dL_law_990 : decode cL_law 990 = .ok (.iconst 3, 1) := by decide +kernel
theorem dL_law_991 : decode cL_law 991 = .ok (.invokestatic 68, 3) := by decide +kernel
theorem dL_law_994 : decode cL_law 994 = .ok (.iconst 1, 1) := by decide +kernel
theorem dL_law_995 : decode cL_law 995 = .ok (.if_icmp .ne 53, 3) := by decide +kernel
theorem dL_law_998 : decode cL_law 998 = .ok (.iload 21, 2) := by decide +kernel
theorem dL_law_1000 : decode cL_law 1000 = .ok (.bipush 6, 2) := by decide +kernel
theorem dL_law_1002 : decode cL_law 1002 = .ok (.ishr, 1) := by decide +kernel
theorem dL_law_1003 : decode cL_law 1003 = .ok (.ldc 90, 2) := by decide +kernel
theorem dL_law_1005 : decode cL_law 1005 = .ok (.invokestatic 68, 3) := by decide +kernel
theorem dL_law_1008 : decode cL_law 1008 = .ok (.istore 27, 2) := by decide +kernel
theorem dL_law_1010 : decode cL_law 1010 = .ok (.aload_n 1, 1) := by decide +kernel
theorem dL_law_1011 : decode cL_law 1011 = .ok (.iload 26, 2) := by decide +kernel
theorem dL_law_1013 : decode cL_law 1013 = .ok (.iload 27, 2) := by decide +kernel
theorem dL_law_1015 : decode cL_law 1015 = .ok (.invokevirtual 91, 3) := by decide +kernel
theorem dL_law_1018 : decode cL_law 1018 = .ok (.aload 5, 2) := by decide +kernel
theorem dL_law_1020 : decode cL_law 1020 = .ok (.bipush 6, 2) := by decide +kernel
theorem dL_law_1022 : decode cL_law 1022 = .ok (.iload 26, 2) := by decide +kernel
theorem dL_law_1024 : decode cL_law 1024 = .ok (.imul, 1) := by decide +kernel
theorem dL_law_1025 : decode cL_law 1025 = .ok (.iconst 3, 1) := by decide +kernel
theorem dL_law_1026 : decode cL_law 1026 = .ok (.iadd, 1) := by decide +kernel
theorem dL_law_1027 : decode cL_law 1027 = .ok (.iaload, 1) := by decide +kernel
theorem dL_law_1028 : decode cL_law 1028 = .ok (.if_icmp .eq 5, 3) := by decide +kernel
theorem dL_law_1031 : decode cL_law 1031 = .ok (.iconst 0, 1) := by decide +kernel
theorem dL_law_1032 : decode cL_law 1032 = .ok (.ireturn, 1) := by decide +kernel
theorem dL_law_1033 : decode cL_law 1033 = .ok (.aload 5, 2) := by decide +kernel
theorem dL_law_1035 : decode cL_law 1035 = .ok (.bipush 6, 2) := by decide +kernel
theorem dL_law_1037 : decode cL_law 1037 = .ok (.iload 26, 2) := by decide +kernel
theorem dL_law_1039 : decode cL_law 1039 = .ok (.imul, 1) := by decide +kernel
theorem dL_law_1040 : decode cL_law 1040 = .ok (.iconst 3, 1) := by decide +kernel
theorem dL_law_1041 : decode cL_law 1041 = .ok (.iadd, 1) := by decide +kernel
theorem dL_law_1042 : decode cL_law 1042 = .ok (.iload 27, 2) := by decide +kernel
theorem dL_law_1044 : decode cL_law 1044 = .ok (.iastore, 1) := by decide +kernel
theorem dL_law_1045 : decode cL_law 1045 = .ok (.goto 60, 3) := by decide +kernel
theorem dL_law_1048 : decode cL_law 1048 = .ok (.iload 21, 2) := by decide +kernel
theorem dL_law_1050 : decode cL_law 1050 = .ok (.bipush 6, 2) := by decide +kernel
theorem dL_law_1052 : decode cL_law 1052 = .ok (.ishr, 1) := by decide +kernel
theorem dL_law_1053 : decode cL_law 1053 = .ok (.iconst 3, 1) := by decide +kernel
theorem dL_law_1054 : decode cL_law 1054 = .ok (.invokestatic 68, 3) := by decide +kernel
theorem dL_law_1057 : decode cL_law 1057 = .ok (.ifCond .ne 7, 3) := by decide +kernel
theorem dL_law_1060 : decode cL_law 1060 = .ok (.iconst 1, 1) := by decide +kernel
theorem dL_law_1061 : decode cL_law 1061 = .ok (.goto 4, 3) := by decide +kernel
theorem dL_law_1064 : decode cL_law 1064 = .ok (.iconst 0, 1) := by decide +kernel
theorem dL_law_1065 : decode cL_law 1065 = .ok (.istore 27, 2) := by decide +kernel
theorem dL_law_1067 : decode cL_law 1067 = .ok (.aload_n 1, 1) := by decide +kernel
theorem dL_law_1068 : decode cL_law 1068 = .ok (.iload 26, 2) := by decide +kernel
theorem dL_law_1070 : decode cL_law 1070 = .ok (.iload 27, 2) := by decide +kernel
theorem dL_law_1072 : decode cL_law 1072 = .ok (.invokevirtual 94, 3) := by decide +kernel
theorem dL_law_1075 : decode cL_law 1075 = .ok (.aload 5, 2) := by decide +kernel
theorem dL_law_1077 : decode cL_law 1077 = .ok (.bipush 6, 2) := by decide +kernel
theorem dL_law_1079 : decode cL_law 1079 = .ok (.iload 26, 2) := by decide +kernel
theorem dL_law_1081 : decode cL_law 1081 = .ok (.imul, 1) := by decide +kernel
theorem dL_law_1082 : decode cL_law 1082 = .ok (.iconst 5, 1) := by decide +kernel
theorem dL_law_1083 : decode cL_law 1083 = .ok (.iadd, 1) := by decide +kernel
theorem dL_law_1084 : decode cL_law 1084 = .ok (.dup2, 1) := by decide +kernel
theorem dL_law_1085 : decode cL_law 1085 = .ok (.iaload, 1) := by decide +kernel
theorem dL_law_1086 : decode cL_law 1086 = .ok (.iconst 1, 1) := by decide +kernel
theorem dL_law_1087 : decode cL_law 1087 = .ok (.ior, 1) := by decide +kernel
theorem dL_law_1088 : decode cL_law 1088 = .ok (.iastore, 1) := by decide +kernel
theorem dL_law_1089 : decode cL_law 1089 = .ok (.iload 27, 2) := by decide +kernel
theorem dL_law_1091 : decode cL_law 1091 = .ok (.ifCond .eq 14, 3) := by decide +kernel
theorem dL_law_1094 : decode cL_law 1094 = .ok (.aload 5, 2) := by decide +kernel
theorem dL_law_1096 : decode cL_law 1096 = .ok (.bipush 6, 2) := by decide +kernel
theorem dL_law_1098 : decode cL_law 1098 = .ok (.iload 26, 2) := by decide +kernel
theorem dL_law_1100 : decode cL_law 1100 = .ok (.imul, 1) := by decide +kernel
theorem dL_law_1101 : decode cL_law 1101 = .ok (.iconst 3, 1) := by decide +kernel
theorem dL_law_1102 : decode cL_law 1102 = .ok (.iadd, 1) := by decide +kernel
theorem dL_law_1103 : decode cL_law 1103 = .ok (.iconst 0, 1) := by decide +kernel
theorem dL_law_1104 : decode cL_law 1104 = .ok (.iastore, 1) := by decide +kernel
theorem dL_law_1105 : decode cL_law 1105 = .ok (.goto 1455, 3) := by decide +kernel
theorem dL_law_1108 : decode cL_law 1108 = .ok (.iload 22, 2) := by decide +kernel
theorem dL_law_1110 : decode cL_law 1110 = .ok (.bipush 6, 2) := by decide +kernel
theorem dL_law_1112 : decode cL_law 1112 = .ok (.if_icmp .ne 87, 3) := by decide +kernel
theorem dL_law_1115 : decode cL_law 1115 = .ok (.iload 25, 2) := by decide +kernel
theorem dL_law_1117 : decode cL_law 1117 = .ok (.aload 10, 2) := by decide +kernel
theorem dL_law_1119 : decode cL_law 1119 = .ok (.bipush 12, 2) := by decide +kernel
theorem dL_law_1121 : decode cL_law 1121 = .ok (.iaload, 1) := by decide +kernel
theorem dL_law_1122 : decode cL_law 1122 = .ok (.if_icmp .lt 77, 3) := by decide +kernel
theorem dL_law_1125 : decode cL_law 1125 = .ok (.bipush 6, 2) := by decide +kernel
theorem dL_law_1127 : decode cL_law 1127 = .ok (.iload 21, 2) := by decide +kernel
theorem dL_law_1129 : decode cL_law 1129 = .ok (.iconst 4, 1) := by decide +kernel
theorem dL_law_1130 : decode cL_law 1130 = .ok (.invokestatic 68, 3) := by decide +kernel
theorem dL_law_1133 : decode cL_law 1133 = .ok (.imul, 1) := by decide +kernel
theorem dL_law_1134 : decode cL_law 1134 = .ok (.iconst 2, 1) := by decide +kernel
theorem dL_law_1135 : decode cL_law 1135 = .ok (.iload 25, 2) := by decide +kernel
theorem dL_law_1137 : decode cL_law 1137 = .ok (.imul, 1) := by decide +kernel
theorem dL_law_1138 : decode cL_law 1138 = .ok (.iadd, 1) := by decide +kernel
theorem dL_law_1139 : decode cL_law 1139 = .ok (.istore 26, 2) := by decide +kernel
theorem dL_law_1141 : decode cL_law 1141 = .ok (.aload 6, 2) := by decide +kernel
theorem dL_law_1143 : decode cL_law 1143 = .ok (.iload 26, 2) := by decide +kernel
theorem dL_law_1145 : decode cL_law 1145 = .ok (.iload 21, 2) := by decide +kernel
theorem dL_law_1147 : decode cL_law 1147 = .ok (.iconst 3, 1) := by decide +kernel
theorem dL_law_1148 : decode cL_law 1148 = .ok (.ishr, 1) := by decide +kernel
theorem dL_law_1149 : decode cL_law 1149 = .ok (.sipush 5000, 3) := by decide +kernel
theorem dL_law_1152 : decode cL_law 1152 = .ok (.invokestatic 68, 3) := by decide +kernel
theorem dL_law_1155 : decode cL_law 1155 = .ok (.iastore, 1) := by decide +kernel
theorem dL_law_1156 : decode cL_law 1156 = .ok (.aload 6, 2) := by decide +kernel
theorem dL_law_1158 : decode cL_law 1158 = .ok (.iload 26, 2) := by decide +kernel
theorem dL_law_1160 : decode cL_law 1160 = .ok (.iconst 1, 1) := by decide +kernel
theorem dL_law_1161 : decode cL_law 1161 = .ok (.iadd, 1) := by decide +kernel
theorem dL_law_1162 : decode cL_law 1162 = .ok (.iload 21, 2) := by decide +kernel
theorem dL_law_1164 : decode cL_law 1164 = .ok (.bipush 11, 2) := by decide +kernel
theorem dL_law_1166 : decode cL_law 1166 = .ok (.ishr, 1) := by decide +kernel
theorem dL_law_1167 : decode cL_law 1167 = .ok (.ldc 98, 2) := by decide +kernel
theorem dL_law_1169 : decode cL_law 1169 = .ok (.invokestatic 68, 3) := by decide +kernel
theorem dL_law_1172 : decode cL_law 1172 = .ok (.iastore, 1) := by decide +kernel
theorem dL_law_1173 : decode cL_law 1173 = .ok (.aload_n 1, 1) := by decide +kernel
theorem dL_law_1174 : decode cL_law 1174 = .ok (.iload 26, 2) := by decide +kernel
theorem dL_law_1176 : decode cL_law 1176 = .ok (.bipush 6, 2) := by decide +kernel
theorem dL_law_1178 : decode cL_law 1178 = .ok (.idiv, 1) := by decide +kernel
theorem dL_law_1179 : decode cL_law 1179 = .ok (.iload 25, 2) := by decide +kernel
theorem dL_law_1181 : decode cL_law 1181 = .ok (.aload 6, 2) := by decide +kernel
theorem dL_law_1183 : decode cL_law 1183 = .ok (.iload 26, 2) := by decide +kernel
theorem dL_law_1185 : decode cL_law 1185 = .ok (.iaload, 1) := by decide +kernel
theorem dL_law_1186 : decode cL_law 1186 = .ok (.aload 6, 2) := by decide +kernel
theorem dL_law_1188 : decode cL_law 1188 = .ok (.iload 26, 2) := by decide +kernel
theorem dL_law_1190 : decode cL_law 1190 = .ok (.iconst 1, 1) := by decide +kernel
theorem dL_law_1191 : decode cL_law 1191 = .ok (.iadd, 1) := by decide +kernel
theorem dL_law_1192 : decode cL_law 1192 = .ok (.iaload, 1) := by decide +kernel
theorem dL_law_1193 : decode cL_law 1193 = .ok (.invokevirtual 99, 3) := by decide +kernel
theorem dL_law_1196 : decode cL_law 1196 = .ok (.goto 1364, 3) := by decide +kernel
theorem dL_law_1199 : decode cL_law 1199 = .ok (.iload 22, 2) := by decide +kernel
theorem dL_law_1201 : decode cL_law 1201 = .ok (.bipush 7, 2) := by decide +kernel
theorem dL_law_1203 : decode cL_law 1203 = .ok (.if_icmp .ne 106, 3) := by decide +kernel
theorem dL_law_1206 : decode cL_law 1206 = .ok (.iload 25, 2) := by decide +kernel
theorem dL_law_1208 : decode cL_law 1208 = .ok (.aload 10, 2) := by decide +kernel
theorem dL_law_1210 : decode cL_law 1210 = .ok (.bipush 12, 2) := by decide +kernel
theorem dL_law_1212 : decode cL_law 1212 = .ok (.iaload, 1) := by decide +kernel
theorem dL_law_1213 : decode cL_law 1213 = .ok (.if_icmp .lt 96, 3) := by decide +kernel
theorem dL_law_1216 : decode cL_law 1216 = .ok (.aload 7, 2) := by decide +kernel
theorem dL_law_1218 : decode cL_law 1218 = .ok (.iconst 3, 1) := by decide +kernel
theorem dL_law_1219 : decode cL_law 1219 = .ok (.iload 25, 2) := by decide +kernel
theorem dL_law_1221 : decode cL_law 1221 = .ok (.imul, 1) := by decide +kernel
theorem dL_law_1222 : decode cL_law 1222 = .ok (.iload 21, 2) := by decide +kernel
theorem dL_law_1224 : decode cL_law 1224 = .ok (.ldc 103, 2) := by decide +kernel
theorem dL_law_1226 : decode cL_law 1226 = .ok (.invokestatic 68, 3) := by decide +kernel
theorem dL_law_1229 : decode cL_law 1229 = .ok (.iastore, 1) := by decide +kernel
theorem dL_law_1230 : decode cL_law 1230 = .ok (.aload 7, 2) := by decide +kernel
theorem dL_law_1232 : decode cL_law 1232 = .ok (.iconst 3, 1) := by decide +kernel
theorem dL_law_1233 : decode cL_law 1233 = .ok (.iload 25, 2) := by decide +kernel
theorem dL_law_1235 : decode cL_law 1235 = .ok (.imul, 1) := by decide +kernel
theorem dL_law_1236 : decode cL_law 1236 = .ok (.iconst 1, 1) := by decide +kernel
theorem dL_law_1237 : decode cL_law 1237 = .ok (.iadd, 1) := by decide +kernel
theorem dL_law_1238 : decode cL_law 1238 = .ok (.aload 7, 2) := by decide +kernel
theorem dL_law_1240 : decode cL_law 1240 = .ok (.iconst 3, 1) := by decide +kernel
theorem dL_law_1241 : decode cL_law 1241 = .ok (.iload 25, 2) := by decide +kernel
theorem dL_law_1243 : decode cL_law 1243 = .ok (.imul, 1) := by decide +kernel
theorem dL_law_1244 : decode cL_law 1244 = .ok (.iaload, 1) := by decide +kernel
theorem dL_law_1245 : decode cL_law 1245 = .ok (.iload 21, 2) := by decide +kernel
theorem dL_law_1247 : decode cL_law 1247 = .ok (.bipush 9, 2) := by decide +kernel
theorem dL_law_1249 : decode cL_law 1249 = .ok (.ishr, 1) := by decide +kernel
theorem dL_law_1250 : decode cL_law 1250 = .ok (.ldc 104, 2) := by decide +kernel
theorem dL_law_1252 : decode cL_law 1252 = .ok (.invokestatic 68, 3) := by decide +kernel
theorem dL_law_1255 : decode cL_law 1255 = .ok (.iadd, 1) := by decide +kernel
theorem dL_law_1256 : decode cL_law 1256 = .ok (.iastore, 1) := by decide +kernel
theorem dL_law_1257 : decode cL_law 1257 = .ok (.aload 7, 2) := by decide +kernel
theorem dL_law_1259 : decode cL_law 1259 = .ok (.iconst 3, 1) := by decide +kernel
theorem dL_law_1260 : decode cL_law 1260 = .ok (.iload 25, 2) := by decide +kernel
theorem dL_law_1262 : decode cL_law 1262 = .ok (.imul, 1) := by decide +kernel
theorem dL_law_1263 : decode cL_law 1263 = .ok (.iconst 2, 1) := by decide +kernel
theorem dL_law_1264 : decode cL_law 1264 = .ok (.iadd, 1) := by decide +kernel
theorem dL_law_1265 : decode cL_law 1265 = .ok (.iload 21, 2) := by decide +kernel
theorem dL_law_1267 : decode cL_law 1267 = .ok (.iconst 4, 1) := by decide +kernel
theorem dL_law_1268 : decode cL_law 1268 = .ok (.ishr, 1) := by decide +kernel
theorem dL_law_1269 : decode cL_law 1269 = .ok (.bipush 101, 2) := by decide +kernel
theorem dL_law_1271 : decode cL_law 1271 = .ok (.invokestatic 68, 3) := by decide +kernel
theorem dL_law_1274 : decode cL_law 1274 = .ok (.iastore, 1) := by decide +kernel
theorem dL_law_1275 : decode cL_law 1275 = .ok (.aload_n 1, 1) := by decide +kernel
theorem dL_law_1276 : decode cL_law 1276 = .ok (.iload 25, 2) := by decide +kernel
theorem dL_law_1278 : decode cL_law 1278 = .ok (.aload 7, 2) := by decide +kernel
theorem dL_law_1280 : decode cL_law 1280 = .ok (.iconst 3, 1) := by decide +kernel
theorem dL_law_1281 : decode cL_law 1281 = .ok (.iload 25, 2) := by decide +kernel
theorem dL_law_1283 : decode cL_law 1283 = .ok (.imul, 1) := by decide +kernel
theorem dL_law_1284 : decode cL_law 1284 = .ok (.iaload, 1) := by decide +kernel
theorem dL_law_1285 : decode cL_law 1285 = .ok (.aload 7, 2) := by decide +kernel
theorem dL_law_1287 : decode cL_law 1287 = .ok (.iconst 3, 1) := by decide +kernel
theorem dL_law_1288 : decode cL_law 1288 = .ok (.iload 25, 2) := by decide +kernel
theorem dL_law_1290 : decode cL_law 1290 = .ok (.imul, 1) := by decide +kernel
theorem dL_law_1291 : decode cL_law 1291 = .ok (.iconst 1, 1) := by decide +kernel
theorem dL_law_1292 : decode cL_law 1292 = .ok (.iadd, 1) := by decide +kernel
theorem dL_law_1293 : decode cL_law 1293 = .ok (.iaload, 1) := by decide +kernel
theorem dL_law_1294 : decode cL_law 1294 = .ok (.aload 7, 2) := by decide +kernel
theorem dL_law_1296 : decode cL_law 1296 = .ok (.iconst 3, 1) := by decide +kernel
theorem dL_law_1297 : decode cL_law 1297 = .ok (.iload 25, 2) := by decide +kernel
theorem dL_law_1299 : decode cL_law 1299 = .ok (.imul, 1) := by decide +kernel
theorem dL_law_1300 : decode cL_law 1300 = .ok (.iconst 2, 1) := by decide +kernel
theorem dL_law_1301 : decode cL_law 1301 = .ok (.iadd, 1) := by decide +kernel
theorem dL_law_1302 : decode cL_law 1302 = .ok (.iaload, 1) := by decide +kernel
theorem dL_law_1303 : decode cL_law 1303 = .ok (.invokevirtual 105, 3) := by decide +kernel
theorem dL_law_1306 : decode cL_law 1306 = .ok (.goto 1254, 3) := by decide +kernel
theorem dL_law_1309 : decode cL_law 1309 = .ok (.iload 22, 2) := by decide +kernel
theorem dL_law_1311 : decode cL_law 1311 = .ok (.bipush 8, 2) := by decide +kernel
theorem dL_law_1313 : decode cL_law 1313 = .ok (.if_icmp .ne 219, 3) := by decide +kernel
theorem dL_law_1316 : decode cL_law 1316 = .ok (.iload 25, 2) := by decide +kernel
theorem dL_law_1318 : decode cL_law 1318 = .ok (.aload 10, 2) := by decide +kernel
theorem dL_law_1320 : decode cL_law 1320 = .ok (.bipush 12, 2) := by decide +kernel
theorem dL_law_1322 : decode cL_law 1322 = .ok (.iaload, 1) := by decide +kernel
theorem dL_law_1323 : decode cL_law 1323 = .ok (.if_icmp .lt 209, 3) := by decide +kernel
theorem dL_law_1326 : decode cL_law 1326 = .ok (.iconst 0, 1) := by decide +kernel
theorem dL_law_1327 : decode cL_law 1327 = .ok (.istore 26, 2) := by decide +kernel
theorem dL_law_1329 : decode cL_law 1329 = .ok (.iconst 0, 1) := by decide +kernel
theorem dL_law_1330 : decode cL_law 1330 = .ok (.istore 27, 2) := by decide +kernel
theorem dL_law_1332 : decode cL_law 1332 = .ok (.iload 27, 2) := by decide +kernel
theorem dL_law_1334 : decode cL_law 1334 = .ok (.iconst 3, 1) := by decide +kernel
theorem dL_law_1335 : decode cL_law 1335 = .ok (.if_icmp .ge 26, 3) := by decide +kernel
theorem dL_law_1338 : decode cL_law 1338 = .ok (.aload 10, 2) := by decide +kernel
theorem dL_law_1340 : decode cL_law 1340 = .ok (.iconst 3, 1) := by decide +kernel
theorem dL_law_1341 : decode cL_law 1341 = .ok (.iload 27, 2) := by decide +kernel
theorem dL_law_1343 : decode cL_law 1343 = .ok (.imul, 1) := by decide +kernel
theorem dL_law_1344 : decode cL_law 1344 = .ok (.iload 25, 2) := by decide +kernel
theorem dL_law_1346 : decode cL_law 1346 = .ok (.iadd, 1) := by decide +kernel
theorem dL_law_1347 : decode cL_law 1347 = .ok (.iaload, 1) := by decide +kernel
theorem dL_law_1348 : decode cL_law 1348 = .ok (.iconst 1, 1) := by decide +kernel
theorem dL_law_1349 : decode cL_law 1349 = .ok (.if_icmp .ne 6, 3) := by decide +kernel
theorem dL_law_1352 : decode cL_law 1352 = .ok (.iconst 1, 1) := by decide +kernel
theorem dL_law_1353 : decode cL_law 1353 = .ok (.istore 26, 2) := by decide +kernel
theorem dL_law_1355 : decode cL_law 1355 = .ok (.iinc 27 1, 3) := by decide +kernel
theorem dL_law_1358 : decode cL_law 1358 = .ok (.goto (-26), 3) := by decide +kernel
theorem dL_law_1361 : decode cL_law 1361 = .ok (.iload 26, 2) := by decide +kernel
theorem dL_law_1363 : decode cL_law 1363 = .ok (.ifCond .ne 38, 3) := by decide +kernel
theorem dL_law_1366 : decode cL_law 1366 = .ok (.iload 21, 2) := by decide +kernel
theorem dL_law_1368 : decode cL_law 1368 = .ok (.sipush 9000, 3) := by decide +kernel
theorem dL_law_1371 : decode cL_law 1371 = .ok (.invokestatic 68, 3) := by decide +kernel
theorem dL_law_1374 : decode cL_law 1374 = .ok (.istore 27, 2) := by decide +kernel
theorem dL_law_1376 : decode cL_law 1376 = .ok (.aload_n 1, 1) := by decide +kernel
theorem dL_law_1377 : decode cL_law 1377 = .ok (.iload 25, 2) := by decide +kernel
theorem dL_law_1379 : decode cL_law 1379 = .ok (.iload 27, 2) := by decide +kernel
theorem dL_law_1381 : decode cL_law 1381 = .ok (.invokevirtual 108, 3) := by decide +kernel
theorem dL_law_1384 : decode cL_law 1384 = .ok (.aload 8, 2) := by decide +kernel
theorem dL_law_1386 : decode cL_law 1386 = .ok (.iload 25, 2) := by decide +kernel
theorem dL_law_1388 : decode cL_law 1388 = .ok (.iaload, 1) := by decide +kernel
theorem dL_law_1389 : decode cL_law 1389 = .ok (.if_icmp .eq 5, 3) := by decide +kernel
theorem dL_law_1392 : decode cL_law 1392 = .ok (.iconst 0, 1) := by decide +kernel
theorem dL_law_1393 : decode cL_law 1393 = .ok (.ireturn, 1) := by decide +kernel
theorem dL_law_1394 : decode cL_law 1394 = .ok (.aload 8, 2) := by decide +kernel
theorem dL_law_1396 : decode cL_law 1396 = .ok (.iload 25, 2) := by decide +kernel
theorem dL_law_1398 : decode cL_law 1398 = .ok (.iload 27, 2) := by decide +kernel
theorem dL_law_1400 : decode cL_law 1400 = .ok (.iastore, 1) := by decide +kernel
theorem dL_law_1401 : decode cL_law 1401 = .ok (.iconst 1, 1) := by decide +kernel
theorem dL_law_1402 : decode cL_law 1402 = .ok (.iload 21, 2) := by decide +kernel
theorem dL_law_1404 : decode cL_law 1404 = .ok (.bipush 14, 2) := by decide +kernel
theorem dL_law_1406 : decode cL_law 1406 = .ok (.ishr, 1) := by decide +kernel
theorem dL_law_1407 : decode cL_law 1407 = .ok (.bipush 80, 2) := by decide +kernel
theorem dL_law_1409 : decode cL_law 1409 = .ok (.invokestatic 68, 3) := by decide +kernel
theorem dL_law_1412 : decode cL_law 1412 = .ok (.iadd, 1) := by decide +kernel
theorem dL_law_1413 : decode cL_law 1413 = .ok (.istore 27, 2) := by decide +kernel
theorem dL_law_1415 : decode cL_law 1415 = .ok (.aload 8, 2) := by decide +kernel
theorem dL_law_1417 : decode cL_law 1417 = .ok (.iconst 3, 1) := by decide +kernel
theorem dL_law_1418 : decode cL_law 1418 = .ok (.iload 25, 2) := by decide +kernel
theorem dL_law_1420 : decode cL_law 1420 = .ok (.iadd, 1) := by decide +kernel
theorem dL_law_1421 : decode cL_law 1421 = .ok (.iaload, 1) := by decide +kernel
theorem dL_law_1422 : decode cL_law 1422 = .ok (.iload 27, 2) := by decide +kernel
theorem dL_law_1424 : decode cL_law 1424 = .ok (.iadd, 1) := by decide +kernel
theorem dL_law_1425 : decode cL_law 1425 = .ok (.sipush 1000, 3) := by decide +kernel
theorem dL_law_1428 : decode cL_law 1428 = .ok (.if_icmp .gt 35, 3) := by decide +kernel
theorem dL_law_1431 : decode cL_law 1431 = .ok (.aload 8, 2) := by decide +kernel
theorem dL_law_1433 : decode cL_law 1433 = .ok (.iconst 3, 1) := by decide +kernel
theorem dL_law_1434 : decode cL_law 1434 = .ok (.iload 25, 2) := by decide +kernel
theorem dL_law_1436 : decode cL_law 1436 = .ok (.iadd, 1) := by decide +kernel
theorem dL_law_1437 : decode cL_law 1437 = .ok (.dup2, 1) := by decide +kernel
theorem dL_law_1438 : decode cL_law 1438 = .ok (.iaload, 1) := by decide +kernel
theorem dL_law_1439 : decode cL_law 1439 = .ok (.iload 27, 2) := by decide +kernel
theorem dL_law_1441 : decode cL_law 1441 = .ok (.iadd, 1) := by decide +kernel
theorem dL_law_1442 : decode cL_law 1442 = .ok (.iastore, 1) := by decide +kernel
theorem dL_law_1443 : decode cL_law 1443 = .ok (.aload_n 1, 1) := by decide +kernel
theorem dL_law_1444 : decode cL_law 1444 = .ok (.iload 25, 2) := by decide +kernel
theorem dL_law_1446 : decode cL_law 1446 = .ok (.iload 27, 2) := by decide +kernel
theorem dL_law_1448 : decode cL_law 1448 = .ok (.invokevirtual 111, 3) := by decide +kernel
theorem dL_law_1451 : decode cL_law 1451 = .ok (.aload 8, 2) := by decide +kernel
theorem dL_law_1453 : decode cL_law 1453 = .ok (.iconst 3, 1) := by decide +kernel
theorem dL_law_1454 : decode cL_law 1454 = .ok (.iload 25, 2) := by decide +kernel
theorem dL_law_1456 : decode cL_law 1456 = .ok (.iadd, 1) := by decide +kernel
theorem dL_law_1457 : decode cL_law 1457 = .ok (.iaload, 1) := by decide +kernel
theorem dL_law_1458 : decode cL_law 1458 = .ok (.if_icmp .eq 5, 3) := by decide +kernel
theorem dL_law_1461 : decode cL_law 1461 = .ok (.iconst 0, 1) := by decide +kernel
theorem dL_law_1462 : decode cL_law 1462 = .ok (.ireturn, 1) := by decide +kernel

/-! ===== the law: its cases ===== -/
theorem dL_1056 : decode code 1056 = .ok (.aload_n 1, 1) := by decide +kernel
theorem dL_1057 : decode code 1057 = .ok (.invokevirtual 133, 3) := by decide +kernel
theorem dL_1060 : decode code 1060 = .ok (.aload_n 2, 1) := by decide +kernel
theorem dL_1061 : decode code 1061 = .ok (.invokevirtual 136, 3) := by decide +kernel
theorem dL_1064 : decode code 1064 = .ok (.if_icmp .eq 361, 3) := by decide +kernel
theorem dL_1069 : decode code 1069 = .ok (.aload_n 1, 1) := by decide +kernel
theorem dL_1070 : decode code 1070 = .ok (.aload_n 0, 1) := by decide +kernel
theorem dL_1071 : decode code 1071 = .ok (.iload_n 3, 1) := by decide +kernel
theorem dL_1072 : decode code 1072 = .ok (.iconst 1, 1) := by decide +kernel
theorem dL_1073 : decode code 1073 = .ok (.iadd, 1) := by decide +kernel
theorem dL_1074 : decode code 1074 = .ok (.iaload, 1) := by decide +kernel
theorem dL_1075 : decode code 1075 = .ok (.aload_n 0, 1) := by decide +kernel
theorem dL_1076 : decode code 1076 = .ok (.iload_n 3, 1) := by decide +kernel
theorem dL_1077 : decode code 1077 = .ok (.iconst 2, 1) := by decide +kernel
theorem dL_1078 : decode code 1078 = .ok (.iadd, 1) := by decide +kernel
theorem dL_1079 : decode code 1079 = .ok (.iaload, 1) := by decide +kernel
theorem dL_1080 : decode code 1080 = .ok (.aload_n 0, 1) := by decide +kernel
theorem dL_1081 : decode code 1081 = .ok (.iload_n 3, 1) := by decide +kernel
theorem dL_1082 : decode code 1082 = .ok (.iconst 3, 1) := by decide +kernel
theorem dL_1083 : decode code 1083 = .ok (.iadd, 1) := by decide +kernel
theorem dL_1084 : decode code 1084 = .ok (.iaload, 1) := by decide +kernel
theorem dL_1085 : decode code 1085 = .ok (.invokevirtual 137, 3) := by decide +kernel
theorem dL_1088 : decode code 1088 = .ok (.aload_n 2, 1) := by decide +kernel
theorem dL_1089 : decode code 1089 = .ok (.aload_n 0, 1) := by decide +kernel
theorem dL_1090 : decode code 1090 = .ok (.iload_n 3, 1) := by decide +kernel
theorem dL_1091 : decode code 1091 = .ok (.iconst 1, 1) := by decide +kernel
theorem dL_1092 : decode code 1092 = .ok (.iadd, 1) := by decide +kernel
theorem dL_1093 : decode code 1093 = .ok (.iaload, 1) := by decide +kernel
theorem dL_1094 : decode code 1094 = .ok (.aload_n 0, 1) := by decide +kernel
theorem dL_1095 : decode code 1095 = .ok (.iload_n 3, 1) := by decide +kernel
theorem dL_1096 : decode code 1096 = .ok (.iconst 2, 1) := by decide +kernel
theorem dL_1097 : decode code 1097 = .ok (.iadd, 1) := by decide +kernel
theorem dL_1098 : decode code 1098 = .ok (.iaload, 1) := by decide +kernel
theorem dL_1099 : decode code 1099 = .ok (.aload_n 0, 1) := by decide +kernel
theorem dL_1100 : decode code 1100 = .ok (.iload_n 3, 1) := by decide +kernel
theorem dL_1101 : decode code 1101 = .ok (.iconst 3, 1) := by decide +kernel
theorem dL_1102 : decode code 1102 = .ok (.iadd, 1) := by decide +kernel
theorem dL_1103 : decode code 1103 = .ok (.iaload, 1) := by decide +kernel
theorem dL_1104 : decode code 1104 = .ok (.invokevirtual 140, 3) := by decide +kernel
theorem dL_1107 : decode code 1107 = .ok (.if_icmp .eq 318, 3) := by decide +kernel
theorem dL_1112 : decode code 1112 = .ok (.aload_n 1, 1) := by decide +kernel
theorem dL_1113 : decode code 1113 = .ok (.aload_n 0, 1) := by decide +kernel
theorem dL_1114 : decode code 1114 = .ok (.iload_n 3, 1) := by decide +kernel
theorem dL_1115 : decode code 1115 = .ok (.iconst 1, 1) := by decide +kernel
theorem dL_1116 : decode code 1116 = .ok (.iadd, 1) := by decide +kernel
theorem dL_1117 : decode code 1117 = .ok (.iaload, 1) := by decide +kernel
theorem dL_1118 : decode code 1118 = .ok (.invokevirtual 141, 3) := by decide +kernel
theorem dL_1121 : decode code 1121 = .ok (.aload_n 2, 1) := by decide +kernel
theorem dL_1122 : decode code 1122 = .ok (.aload_n 0, 1) := by decide +kernel
theorem dL_1123 : decode code 1123 = .ok (.iload_n 3, 1) := by decide +kernel
theorem dL_1124 : decode code 1124 = .ok (.iconst 1, 1) := by decide +kernel
theorem dL_1125 : decode code 1125 = .ok (.iadd, 1) := by decide +kernel
theorem dL_1126 : decode code 1126 = .ok (.iaload, 1) := by decide +kernel
theorem dL_1127 : decode code 1127 = .ok (.invokevirtual 144, 3) := by decide +kernel
theorem dL_1130 : decode code 1130 = .ok (.if_icmp .eq 295, 3) := by decide +kernel
theorem dL_1135 : decode code 1135 = .ok (.aload_n 1, 1) := by decide +kernel
theorem dL_1136 : decode code 1136 = .ok (.aload_n 0, 1) := by decide +kernel
theorem dL_1137 : decode code 1137 = .ok (.iload_n 3, 1) := by decide +kernel
theorem dL_1138 : decode code 1138 = .ok (.iconst 1, 1) := by decide +kernel
theorem dL_1139 : decode code 1139 = .ok (.iadd, 1) := by decide +kernel
theorem dL_1140 : decode code 1140 = .ok (.iaload, 1) := by decide +kernel
theorem dL_1141 : decode code 1141 = .ok (.aload_n 0, 1) := by decide +kernel
theorem dL_1142 : decode code 1142 = .ok (.iload_n 3, 1) := by decide +kernel
theorem dL_1143 : decode code 1143 = .ok (.iconst 2, 1) := by decide +kernel
theorem dL_1144 : decode code 1144 = .ok (.iadd, 1) := by decide +kernel
theorem dL_1145 : decode code 1145 = .ok (.iaload, 1) := by decide +kernel
theorem dL_1146 : decode code 1146 = .ok (.aload_n 0, 1) := by decide +kernel
theorem dL_1147 : decode code 1147 = .ok (.iload_n 3, 1) := by decide +kernel
theorem dL_1148 : decode code 1148 = .ok (.iconst 3, 1) := by decide +kernel
theorem dL_1149 : decode code 1149 = .ok (.iadd, 1) := by decide +kernel
theorem dL_1150 : decode code 1150 = .ok (.iaload, 1) := by decide +kernel
theorem dL_1151 : decode code 1151 = .ok (.invokevirtual 145, 3) := by decide +kernel
theorem dL_1154 : decode code 1154 = .ok (.aload_n 2, 1) := by decide +kernel
theorem dL_1155 : decode code 1155 = .ok (.aload_n 0, 1) := by decide +kernel
theorem dL_1156 : decode code 1156 = .ok (.iload_n 3, 1) := by decide +kernel
theorem dL_1157 : decode code 1157 = .ok (.iconst 1, 1) := by decide +kernel
theorem dL_1158 : decode code 1158 = .ok (.iadd, 1) := by decide +kernel
theorem dL_1159 : decode code 1159 = .ok (.iaload, 1) := by decide +kernel
theorem dL_1160 : decode code 1160 = .ok (.aload_n 0, 1) := by decide +kernel
theorem dL_1161 : decode code 1161 = .ok (.iload_n 3, 1) := by decide +kernel
theorem dL_1162 : decode code 1162 = .ok (.iconst 2, 1) := by decide +kernel
theorem dL_1163 : decode code 1163 = .ok (.iadd, 1) := by decide +kernel
theorem dL_1164 : decode code 1164 = .ok (.iaload, 1) := by decide +kernel
theorem dL_1165 : decode code 1165 = .ok (.aload_n 0, 1) := by decide +kernel
theorem dL_1166 : decode code 1166 = .ok (.iload_n 3, 1) := by decide +kernel
theorem dL_1167 : decode code 1167 = .ok (.iconst 3, 1) := by decide +kernel
theorem dL_1168 : decode code 1168 = .ok (.iadd, 1) := by decide +kernel
theorem dL_1169 : decode code 1169 = .ok (.iaload, 1) := by decide +kernel
theorem dL_1170 : decode code 1170 = .ok (.invokevirtual 148, 3) := by decide +kernel
theorem dL_1173 : decode code 1173 = .ok (.if_icmp .eq 252, 3) := by decide +kernel
theorem dL_1178 : decode code 1178 = .ok (.aload_n 1, 1) := by decide +kernel
theorem dL_1179 : decode code 1179 = .ok (.aload_n 0, 1) := by decide +kernel
theorem dL_1180 : decode code 1180 = .ok (.iload_n 3, 1) := by decide +kernel
theorem dL_1181 : decode code 1181 = .ok (.iconst 1, 1) := by decide +kernel
theorem dL_1182 : decode code 1182 = .ok (.iadd, 1) := by decide +kernel
theorem dL_1183 : decode code 1183 = .ok (.iaload, 1) := by decide +kernel
theorem dL_1184 : decode code 1184 = .ok (.aload_n 0, 1) := by decide +kernel
theorem dL_1185 : decode code 1185 = .ok (.iload_n 3, 1) := by decide +kernel
theorem dL_1186 : decode code 1186 = .ok (.iconst 2, 1) := by decide +kernel
theorem dL_1187 : decode code 1187 = .ok (.iadd, 1) := by decide +kernel
theorem dL_1188 : decode code 1188 = .ok (.iaload, 1) := by decide +kernel
theorem dL_1189 : decode code 1189 = .ok (.aload_n 0, 1) := by decide +kernel
theorem dL_1190 : decode code 1190 = .ok (.iload_n 3, 1) := by decide +kernel
theorem dL_1191 : decode code 1191 = .ok (.iconst 3, 1) := by decide +kernel
theorem dL_1192 : decode code 1192 = .ok (.iadd, 1) := by decide +kernel
theorem dL_1193 : decode code 1193 = .ok (.iaload, 1) := by decide +kernel
theorem dL_1194 : decode code 1194 = .ok (.invokevirtual 149, 3) := by decide +kernel
theorem dL_1197 : decode code 1197 = .ok (.aload_n 2, 1) := by decide +kernel
theorem dL_1198 : decode code 1198 = .ok (.aload_n 0, 1) := by decide +kernel
theorem dL_1199 : decode code 1199 = .ok (.iload_n 3, 1) := by decide +kernel
theorem dL_1200 : decode code 1200 = .ok (.iconst 1, 1) := by decide +kernel
theorem dL_1201 : decode code 1201 = .ok (.iadd, 1) := by decide +kernel
theorem dL_1202 : decode code 1202 = .ok (.iaload, 1) := by decide +kernel
theorem dL_1203 : decode code 1203 = .ok (.aload_n 0, 1) := by decide +kernel
theorem dL_1204 : decode code 1204 = .ok (.iload_n 3, 1) := by decide +kernel
theorem dL_1205 : decode code 1205 = .ok (.iconst 2, 1) := by decide +kernel
theorem dL_1206 : decode code 1206 = .ok (.iadd, 1) := by decide +kernel
theorem dL_1207 : decode code 1207 = .ok (.iaload, 1) := by decide +kernel
theorem dL_1208 : decode code 1208 = .ok (.aload_n 0, 1) := by decide +kernel
theorem dL_1209 : decode code 1209 = .ok (.iload_n 3, 1) := by decide +kernel
theorem dL_1210 : decode code 1210 = .ok (.iconst 3, 1) := by decide +kernel
theorem dL_1211 : decode code 1211 = .ok (.iadd, 1) := by decide +kernel
theorem dL_1212 : decode code 1212 = .ok (.iaload, 1) := by decide +kernel
theorem dL_1213 : decode code 1213 = .ok (.invokevirtual 152, 3) := by decide +kernel
theorem dL_1216 : decode code 1216 = .ok (.if_icmp .eq 209, 3) := by decide +kernel
theorem dL_1221 : decode code 1221 = .ok (.aload_n 1, 1) := by decide +kernel
theorem dL_1222 : decode code 1222 = .ok (.aload_n 0, 1) := by decide +kernel
theorem dL_1223 : decode code 1223 = .ok (.iload_n 3, 1) := by decide +kernel
theorem dL_1224 : decode code 1224 = .ok (.iconst 1, 1) := by decide +kernel
theorem dL_1225 : decode code 1225 = .ok (.iadd, 1) := by decide +kernel
theorem dL_1226 : decode code 1226 = .ok (.iaload, 1) := by decide +kernel
theorem dL_1227 : decode code 1227 = .ok (.aload_n 0, 1) := by decide +kernel
theorem dL_1228 : decode code 1228 = .ok (.iload_n 3, 1) := by decide +kernel
theorem dL_1229 : decode code 1229 = .ok (.iconst 2, 1) := by decide +kernel
theorem dL_1230 : decode code 1230 = .ok (.iadd, 1) := by decide +kernel
theorem dL_1231 : decode code 1231 = .ok (.iaload, 1) := by decide +kernel
theorem dL_1232 : decode code 1232 = .ok (.aload_n 0, 1) := by decide +kernel
theorem dL_1233 : decode code 1233 = .ok (.iload_n 3, 1) := by decide +kernel
theorem dL_1234 : decode code 1234 = .ok (.iconst 3, 1) := by decide +kernel
theorem dL_1235 : decode code 1235 = .ok (.iadd, 1) := by decide +kernel
theorem dL_1236 : decode code 1236 = .ok (.iaload, 1) := by decide +kernel
theorem dL_1237 : decode code 1237 = .ok (.aload_n 0, 1) := by decide +kernel
theorem dL_1238 : decode code 1238 = .ok (.iload_n 3, 1) := by decide +kernel
theorem dL_1239 : decode code 1239 = .ok (.iconst 4, 1) := by decide +kernel
theorem dL_1240 : decode code 1240 = .ok (.iadd, 1) := by decide +kernel
theorem dL_1241 : decode code 1241 = .ok (.iaload, 1) := by decide +kernel
theorem dL_1242 : decode code 1242 = .ok (.aload_n 0, 1) := by decide +kernel
theorem dL_1243 : decode code 1243 = .ok (.iload_n 3, 1) := by decide +kernel
theorem dL_1244 : decode code 1244 = .ok (.iconst 5, 1) := by decide +kernel
theorem dL_1245 : decode code 1245 = .ok (.iadd, 1) := by decide +kernel
theorem dL_1246 : decode code 1246 = .ok (.iaload, 1) := by decide +kernel
theorem dL_1247 : decode code 1247 = .ok (.invokevirtual 153, 3) := by decide +kernel
theorem dL_1250 : decode code 1250 = .ok (.aload_n 2, 1) := by decide +kernel
theorem dL_1251 : decode code 1251 = .ok (.aload_n 0, 1) := by decide +kernel
theorem dL_1252 : decode code 1252 = .ok (.iload_n 3, 1) := by decide +kernel
theorem dL_1253 : decode code 1253 = .ok (.iconst 1, 1) := by decide +kernel
theorem dL_1254 : decode code 1254 = .ok (.iadd, 1) := by decide +kernel
theorem dL_1255 : decode code 1255 = .ok (.iaload, 1) := by decide +kernel
theorem dL_1256 : decode code 1256 = .ok (.aload_n 0, 1) := by decide +kernel
theorem dL_1257 : decode code 1257 = .ok (.iload_n 3, 1) := by decide +kernel
theorem dL_1258 : decode code 1258 = .ok (.iconst 2, 1) := by decide +kernel
theorem dL_1259 : decode code 1259 = .ok (.iadd, 1) := by decide +kernel
theorem dL_1260 : decode code 1260 = .ok (.iaload, 1) := by decide +kernel
theorem dL_1261 : decode code 1261 = .ok (.aload_n 0, 1) := by decide +kernel
theorem dL_1262 : decode code 1262 = .ok (.iload_n 3, 1) := by decide +kernel
theorem dL_1263 : decode code 1263 = .ok (.iconst 3, 1) := by decide +kernel
theorem dL_1264 : decode code 1264 = .ok (.iadd, 1) := by decide +kernel
theorem dL_1265 : decode code 1265 = .ok (.iaload, 1) := by decide +kernel
theorem dL_1266 : decode code 1266 = .ok (.aload_n 0, 1) := by decide +kernel
theorem dL_1267 : decode code 1267 = .ok (.iload_n 3, 1) := by decide +kernel
theorem dL_1268 : decode code 1268 = .ok (.iconst 4, 1) := by decide +kernel
theorem dL_1269 : decode code 1269 = .ok (.iadd, 1) := by decide +kernel
theorem dL_1270 : decode code 1270 = .ok (.iaload, 1) := by decide +kernel
theorem dL_1271 : decode code 1271 = .ok (.aload_n 0, 1) := by decide +kernel
theorem dL_1272 : decode code 1272 = .ok (.iload_n 3, 1) := by decide +kernel
theorem dL_1273 : decode code 1273 = .ok (.iconst 5, 1) := by decide +kernel
theorem dL_1274 : decode code 1274 = .ok (.iadd, 1) := by decide +kernel
theorem dL_1275 : decode code 1275 = .ok (.iaload, 1) := by decide +kernel
theorem dL_1276 : decode code 1276 = .ok (.invokevirtual 157, 3) := by decide +kernel
theorem dL_1279 : decode code 1279 = .ok (.if_icmp .eq 146, 3) := by decide +kernel
theorem dL_1284 : decode code 1284 = .ok (.aload_n 1, 1) := by decide +kernel
theorem dL_1285 : decode code 1285 = .ok (.aload_n 0, 1) := by decide +kernel
theorem dL_1286 : decode code 1286 = .ok (.iload_n 3, 1) := by decide +kernel
theorem dL_1287 : decode code 1287 = .ok (.iconst 1, 1) := by decide +kernel
theorem dL_1288 : decode code 1288 = .ok (.iadd, 1) := by decide +kernel
theorem dL_1289 : decode code 1289 = .ok (.iaload, 1) := by decide +kernel
theorem dL_1290 : decode code 1290 = .ok (.invokevirtual 158, 3) := by decide +kernel
theorem dL_1293 : decode code 1293 = .ok (.aload_n 2, 1) := by decide +kernel
theorem dL_1294 : decode code 1294 = .ok (.aload_n 0, 1) := by decide +kernel
theorem dL_1295 : decode code 1295 = .ok (.iload_n 3, 1) := by decide +kernel
theorem dL_1296 : decode code 1296 = .ok (.iconst 1, 1) := by decide +kernel
theorem dL_1297 : decode code 1297 = .ok (.iadd, 1) := by decide +kernel
theorem dL_1298 : decode code 1298 = .ok (.iaload, 1) := by decide +kernel
theorem dL_1299 : decode code 1299 = .ok (.invokevirtual 161, 3) := by decide +kernel
theorem dL_1302 : decode code 1302 = .ok (.if_icmp .eq 123, 3) := by decide +kernel
theorem dL_1307 : decode code 1307 = .ok (.aload_n 1, 1) := by decide +kernel
theorem dL_1308 : decode code 1308 = .ok (.invokevirtual 162, 3) := by decide +kernel
theorem dL_1311 : decode code 1311 = .ok (.aload_n 2, 1) := by decide +kernel
theorem dL_1312 : decode code 1312 = .ok (.invokevirtual 165, 3) := by decide +kernel
theorem dL_1315 : decode code 1315 = .ok (.if_icmp .eq 110, 3) := by decide +kernel
theorem dL_1320 : decode code 1320 = .ok (.aload_n 1, 1) := by decide +kernel
theorem dL_1321 : decode code 1321 = .ok (.invokevirtual 166, 3) := by decide +kernel
theorem dL_1324 : decode code 1324 = .ok (.aload_n 2, 1) := by decide +kernel
theorem dL_1325 : decode code 1325 = .ok (.invokevirtual 169, 3) := by decide +kernel
theorem dL_1328 : decode code 1328 = .ok (.if_icmp .eq 97, 3) := by decide +kernel
theorem dL_1333 : decode code 1333 = .ok (.aload_n 1, 1) := by decide +kernel
theorem dL_1334 : decode code 1334 = .ok (.aload_n 0, 1) := by decide +kernel
theorem dL_1335 : decode code 1335 = .ok (.iload_n 3, 1) := by decide +kernel
theorem dL_1336 : decode code 1336 = .ok (.iconst 1, 1) := by decide +kernel
theorem dL_1337 : decode code 1337 = .ok (.iadd, 1) := by decide +kernel
theorem dL_1338 : decode code 1338 = .ok (.iaload, 1) := by decide +kernel
theorem dL_1339 : decode code 1339 = .ok (.invokevirtual 170, 3) := by decide +kernel
theorem dL_1342 : decode code 1342 = .ok (.aload_n 2, 1) := by decide +kernel
theorem dL_1343 : decode code 1343 = .ok (.aload_n 0, 1) := by decide +kernel
theorem dL_1344 : decode code 1344 = .ok (.iload_n 3, 1) := by decide +kernel
theorem dL_1345 : decode code 1345 = .ok (.iconst 1, 1) := by decide +kernel
theorem dL_1346 : decode code 1346 = .ok (.iadd, 1) := by decide +kernel
theorem dL_1347 : decode code 1347 = .ok (.iaload, 1) := by decide +kernel
theorem dL_1348 : decode code 1348 = .ok (.invokevirtual 173, 3) := by decide +kernel
theorem dL_1351 : decode code 1351 = .ok (.if_icmp .eq 74, 3) := by decide +kernel
theorem dL_1356 : decode code 1356 = .ok (.aload_n 1, 1) := by decide +kernel
theorem dL_1357 : decode code 1357 = .ok (.aload_n 0, 1) := by decide +kernel
theorem dL_1358 : decode code 1358 = .ok (.iload_n 3, 1) := by decide +kernel
theorem dL_1359 : decode code 1359 = .ok (.iconst 1, 1) := by decide +kernel
theorem dL_1360 : decode code 1360 = .ok (.iadd, 1) := by decide +kernel
theorem dL_1361 : decode code 1361 = .ok (.iaload, 1) := by decide +kernel
theorem dL_1362 : decode code 1362 = .ok (.invokevirtual 174, 3) := by decide +kernel
theorem dL_1365 : decode code 1365 = .ok (.aload_n 2, 1) := by decide +kernel
theorem dL_1366 : decode code 1366 = .ok (.aload_n 0, 1) := by decide +kernel
theorem dL_1367 : decode code 1367 = .ok (.iload_n 3, 1) := by decide +kernel
theorem dL_1368 : decode code 1368 = .ok (.iconst 1, 1) := by decide +kernel
theorem dL_1369 : decode code 1369 = .ok (.iadd, 1) := by decide +kernel
theorem dL_1370 : decode code 1370 = .ok (.iaload, 1) := by decide +kernel
theorem dL_1371 : decode code 1371 = .ok (.invokevirtual 177, 3) := by decide +kernel
theorem dL_1374 : decode code 1374 = .ok (.if_icmp .eq 51, 3) := by decide +kernel
theorem dL_1379 : decode code 1379 = .ok (.aload_n 1, 1) := by decide +kernel
theorem dL_1380 : decode code 1380 = .ok (.aload_n 0, 1) := by decide +kernel
theorem dL_1381 : decode code 1381 = .ok (.iload_n 3, 1) := by decide +kernel
theorem dL_1382 : decode code 1382 = .ok (.iconst 1, 1) := by decide +kernel
theorem dL_1383 : decode code 1383 = .ok (.iadd, 1) := by decide +kernel
theorem dL_1384 : decode code 1384 = .ok (.iaload, 1) := by decide +kernel
theorem dL_1385 : decode code 1385 = .ok (.invokevirtual 178, 3) := by decide +kernel
theorem dL_1388 : decode code 1388 = .ok (.aload_n 2, 1) := by decide +kernel
theorem dL_1389 : decode code 1389 = .ok (.aload_n 0, 1) := by decide +kernel
theorem dL_1390 : decode code 1390 = .ok (.iload_n 3, 1) := by decide +kernel
theorem dL_1391 : decode code 1391 = .ok (.iconst 1, 1) := by decide +kernel
theorem dL_1392 : decode code 1392 = .ok (.iadd, 1) := by decide +kernel
theorem dL_1393 : decode code 1393 = .ok (.iaload, 1) := by decide +kernel
theorem dL_1394 : decode code 1394 = .ok (.invokevirtual 181, 3) := by decide +kernel
theorem dL_1397 : decode code 1397 = .ok (.if_icmp .eq 28, 3) := by decide +kernel
theorem dL_1402 : decode code 1402 = .ok (.aload_n 1, 1) := by decide +kernel
theorem dL_1403 : decode code 1403 = .ok (.aload_n 0, 1) := by decide +kernel
theorem dL_1404 : decode code 1404 = .ok (.iload_n 3, 1) := by decide +kernel
theorem dL_1405 : decode code 1405 = .ok (.iconst 1, 1) := by decide +kernel
theorem dL_1406 : decode code 1406 = .ok (.iadd, 1) := by decide +kernel
theorem dL_1407 : decode code 1407 = .ok (.iaload, 1) := by decide +kernel
theorem dL_1408 : decode code 1408 = .ok (.invokevirtual 182, 3) := by decide +kernel
theorem dL_1411 : decode code 1411 = .ok (.aload_n 2, 1) := by decide +kernel
theorem dL_1412 : decode code 1412 = .ok (.aload_n 0, 1) := by decide +kernel
theorem dL_1413 : decode code 1413 = .ok (.iload_n 3, 1) := by decide +kernel
theorem dL_1414 : decode code 1414 = .ok (.iconst 1, 1) := by decide +kernel
theorem dL_1415 : decode code 1415 = .ok (.iadd, 1) := by decide +kernel
theorem dL_1416 : decode code 1416 = .ok (.iaload, 1) := by decide +kernel
theorem dL_1417 : decode code 1417 = .ok (.invokevirtual 185, 3) := by decide +kernel
theorem dL_1420 : decode code 1420 = .ok (.if_icmp .eq 5, 3) := by decide +kernel
section LAWC
variable {p : Program} {l : Launch} {e : Env} {s : State} {m : MethodId} {args : Array Value} {below : List Frame} {meth : Method} {c : Code} {H : Heap} {locs : List Loc} {cells slots : Nat} {Q : State → Prop}
variable {pc : Nat} {ls : Array Slot} {rest : List Value} {ws wr : va_W} {A : Nat → Prop} {g : Gw} {b L j : Nat} {xs : Nat → Int32} {σ : Hs}
theorem lw_case_28 (C : LC g p s m args c b L xs) (hL : L ≤ 3072) (hj : 6 * j + 6 ≤ L) (hR : RR j σ) (hP : va_P g.2.1 vwCl (wsW g σ) H) (hS : va_S (AA g s.heap.size) s.heap H locs) (hl : lv_has ls 4 (lvv g b j)) (kk : ∀ (σ2 : Hs) (H1 : Heap) (locs1 : List Loc), RR (j + 1) σ2 → va_P g.2.1 vwCl (wsW g σ2) H1 → va_S (AA g s.heap.size) s.heap H1 locs1 → W p l e room_1 s m args below meth c H1 locs1 104 3690 Q (F0 m 1425 ls [])) : W p l e room_1 s m args below meth c H locs 104 3690 Q (F0 m 1056 ls []) := by
  obtain ⟨v, σ1, σ2, c1, c2, hR2⟩ := L_liar hR 0
  obtain ⟨hx, hb, hml, hown, hts, -⟩ := id C
  refine lv_aload_n hx hb dL_1056 rfl (lv_at hl 2 rfl) ?_
  refine lw_vcall C hP hS (mj := 86) (o := 0) (As := []) c1 (by omega) (by decide +kernel) (by omega) (by decide +kernel) (show mn 86 = 0 from by decide +kernel) (gdW_in (i := 796) (by decide +kernel)) rfl hl.1 (Nat.le_of_ble_eq_true rfl) dL_1057 rfl (fun H0 l0 hP hS => ?_)
  refine lv_aload_n hx hb dL_1060 rfl (lv_at hl 1 rfl) ?_
  refine lw_vcall C hP hS (mj := 195) (o := 87) (As := []) c2 (by omega) (by decide +kernel) (by omega) (by decide +kernel) (show mn 195 = 0 from by decide +kernel) (gdW_in (i := 1352) (by decide +kernel)) rfl hl.1 (Nat.le_of_ble_eq_true rfl) dL_1061 rfl (fun H1 l1 hP hS => ?_)
  exact lv_icmp_eq (tgt := 1425) hx hb dL_1064 (by decide) (fun _ => kk σ2 _ _ hR2 hP hS) (fun cn => absurd rfl cn)
theorem lw_case_29 (C : LC g p s m args c b L xs) (hL : L ≤ 3072) (hj : 6 * j + 6 ≤ L) (hR : RR j σ) (hP : va_P g.2.1 vwCl (wsW g σ) H) (hS : va_S (AA g s.heap.size) s.heap H locs) (hl : lv_has ls 4 (lvv g b j)) (kk : ∀ (σ2 : Hs) (H1 : Heap) (locs1 : List Loc), RR (j + 1) σ2 → va_P g.2.1 vwCl (wsW g σ2) H1 → va_S (AA g s.heap.size) s.heap H1 locs1 → W p l e room_1 s m args below meth c H1 locs1 104 3690 Q (F0 m 1425 ls [])) : W p l e room_1 s m args below meth c H locs 104 3690 Q (F0 m 1069 ls []) := by
  obtain ⟨v, σ1, σ2, c1, c2, hR2⟩ := L_voice hR 0 (xs (6 * j + 1)) (xs (6 * j + 2)) (xs (6 * j + 3))
  obtain ⟨hx, hb, hml, hown, hts, -⟩ := id C
  refine lv_aload_n hx hb dL_1069 rfl (lv_at hl 2 rfl) ?_
  refine lw_arg C hL hj hS hl (k := 1) (by omega) dL_1070 dL_1071 dL_1072 rfl dL_1073 dL_1074 ?_
  refine lw_arg C hL hj hS hl (k := 2) (by omega) dL_1075 dL_1076 dL_1077 rfl dL_1078 dL_1079 ?_
  refine lw_arg C hL hj hS hl (k := 3) (by omega) dL_1080 dL_1081 dL_1082 rfl dL_1083 dL_1084 ?_
  refine lw_vcall C hP hS (mj := 87) (o := 0) (As := [.int (xs (6 * j + 1)), .int (xs (6 * j + 2)), .int (xs (6 * j + 3))]) c1 (by omega) (by decide +kernel) (by omega) (by decide +kernel) (show mn 87 = 3 from by decide +kernel) (gdW_in (i := 800) (by decide +kernel)) rfl hl.1 (Nat.le_of_ble_eq_true rfl) dL_1085 rfl (fun H0 l0 hP hS => ?_)
  refine lv_aload_n hx hb dL_1088 rfl (lv_at hl 1 rfl) ?_
  refine lw_arg C hL hj hS hl (k := 1) (by omega) dL_1089 dL_1090 dL_1091 rfl dL_1092 dL_1093 ?_
  refine lw_arg C hL hj hS hl (k := 2) (by omega) dL_1094 dL_1095 dL_1096 rfl dL_1097 dL_1098 ?_
  refine lw_arg C hL hj hS hl (k := 3) (by omega) dL_1099 dL_1100 dL_1101 rfl dL_1102 dL_1103 ?_
  refine lw_vcall C hP hS (mj := 201) (o := 87) (As := [.int (xs (6 * j + 1)), .int (xs (6 * j + 2)), .int (xs (6 * j + 3))]) c2 (by omega) (by decide +kernel) (by omega) (by decide +kernel) (show mn 201 = 3 from by decide +kernel) (gdW_in (i := 1356) (by decide +kernel)) rfl hl.1 (Nat.le_of_ble_eq_true rfl) dL_1104 rfl (fun H1 l1 hP hS => ?_)
  exact lv_icmp_eq (tgt := 1425) hx hb dL_1107 (by decide) (fun _ => kk σ2 _ _ hR2 hP hS) (fun cn => absurd rfl cn)
theorem lw_case_30 (C : LC g p s m args c b L xs) (hL : L ≤ 3072) (hj : 6 * j + 6 ≤ L) (hR : RR j σ) (hP : va_P g.2.1 vwCl (wsW g σ) H) (hS : va_S (AA g s.heap.size) s.heap H locs) (hl : lv_has ls 4 (lvv g b j)) (kk : ∀ (σ2 : Hs) (H1 : Heap) (locs1 : List Loc), RR (j + 1) σ2 → va_P g.2.1 vwCl (wsW g σ2) H1 → va_S (AA g s.heap.size) s.heap H1 locs1 → W p l e room_1 s m args below meth c H1 locs1 104 3690 Q (F0 m 1425 ls [])) : W p l e room_1 s m args below meth c H locs 104 3690 Q (F0 m 1112 ls []) := by
  obtain ⟨v, σ1, σ2, c1, c2, hR2⟩ := L_body hR 0 (xs (6 * j + 1))
  obtain ⟨hx, hb, hml, hown, hts, -⟩ := id C
  refine lv_aload_n hx hb dL_1112 rfl (lv_at hl 2 rfl) ?_
  refine lw_arg C hL hj hS hl (k := 1) (by omega) dL_1113 dL_1114 dL_1115 rfl dL_1116 dL_1117 ?_
  refine lw_vcall C hP hS (mj := 88) (o := 0) (As := [.int (xs (6 * j + 1))]) c1 (by omega) (by decide +kernel) (by omega) (by decide +kernel) (show mn 88 = 1 from by decide +kernel) (gdW_in (i := 824) (by decide +kernel)) rfl hl.1 (Nat.le_of_ble_eq_true rfl) dL_1118 rfl (fun H0 l0 hP hS => ?_)
  refine lv_aload_n hx hb dL_1121 rfl (lv_at hl 1 rfl) ?_
  refine lw_arg C hL hj hS hl (k := 1) (by omega) dL_1122 dL_1123 dL_1124 rfl dL_1125 dL_1126 ?_
  refine lw_vcall C hP hS (mj := 202) (o := 87) (As := [.int (xs (6 * j + 1))]) c2 (by omega) (by decide +kernel) (by omega) (by decide +kernel) (show mn 202 = 1 from by decide +kernel) (gdW_in (i := 1380) (by decide +kernel)) rfl hl.1 (Nat.le_of_ble_eq_true rfl) dL_1127 rfl (fun H1 l1 hP hS => ?_)
  exact lv_icmp_eq (tgt := 1425) hx hb dL_1130 (by decide) (fun _ => kk σ2 _ _ hR2 hP hS) (fun cn => absurd rfl cn)
theorem lw_case_31 (C : LC g p s m args c b L xs) (hL : L ≤ 3072) (hj : 6 * j + 6 ≤ L) (hR : RR j σ) (hP : va_P g.2.1 vwCl (wsW g σ) H) (hS : va_S (AA g s.heap.size) s.heap H locs) (hl : lv_has ls 4 (lvv g b j)) (kk : ∀ (σ2 : Hs) (H1 : Heap) (locs1 : List Loc), RR (j + 1) σ2 → va_P g.2.1 vwCl (wsW g σ2) H1 → va_S (AA g s.heap.size) s.heap H1 locs1 → W p l e room_1 s m args below meth c H1 locs1 104 3690 Q (F0 m 1425 ls [])) : W p l e room_1 s m args below meth c H locs 104 3690 Q (F0 m 1135 ls []) := by
  obtain ⟨v, σ1, σ2, c1, c2, hR2⟩ := L_sheet hR 0 (xs (6 * j + 1)) (xs (6 * j + 2)) (xs (6 * j + 3))
  obtain ⟨hx, hb, hml, hown, hts, -⟩ := id C
  refine lv_aload_n hx hb dL_1135 rfl (lv_at hl 2 rfl) ?_
  refine lw_arg C hL hj hS hl (k := 1) (by omega) dL_1136 dL_1137 dL_1138 rfl dL_1139 dL_1140 ?_
  refine lw_arg C hL hj hS hl (k := 2) (by omega) dL_1141 dL_1142 dL_1143 rfl dL_1144 dL_1145 ?_
  refine lw_arg C hL hj hS hl (k := 3) (by omega) dL_1146 dL_1147 dL_1148 rfl dL_1149 dL_1150 ?_
  refine lw_vcall C hP hS (mj := 89) (o := 0) (As := [.int (xs (6 * j + 1)), .int (xs (6 * j + 2)), .int (xs (6 * j + 3))]) c1 (by omega) (by decide +kernel) (by omega) (by decide +kernel) (show mn 89 = 3 from by decide +kernel) (gdW_in (i := 829) (by decide +kernel)) rfl hl.1 (Nat.le_of_ble_eq_true rfl) dL_1151 rfl (fun H0 l0 hP hS => ?_)
  refine lv_aload_n hx hb dL_1154 rfl (lv_at hl 1 rfl) ?_
  refine lw_arg C hL hj hS hl (k := 1) (by omega) dL_1155 dL_1156 dL_1157 rfl dL_1158 dL_1159 ?_
  refine lw_arg C hL hj hS hl (k := 2) (by omega) dL_1160 dL_1161 dL_1162 rfl dL_1163 dL_1164 ?_
  refine lw_arg C hL hj hS hl (k := 3) (by omega) dL_1165 dL_1166 dL_1167 rfl dL_1168 dL_1169 ?_
  refine lw_vcall C hP hS (mj := 204) (o := 87) (As := [.int (xs (6 * j + 1)), .int (xs (6 * j + 2)), .int (xs (6 * j + 3))]) c2 (by omega) (by decide +kernel) (by omega) (by decide +kernel) (show mn 204 = 3 from by decide +kernel) (gdW_in (i := 1384) (by decide +kernel)) rfl hl.1 (Nat.le_of_ble_eq_true rfl) dL_1170 rfl (fun H1 l1 hP hS => ?_)
  exact lv_icmp_eq (tgt := 1425) hx hb dL_1173 (by decide) (fun _ => kk σ2 _ _ hR2 hP hS) (fun cn => absurd rfl cn)
theorem lw_case_32 (C : LC g p s m args c b L xs) (hL : L ≤ 3072) (hj : 6 * j + 6 ≤ L) (hR : RR j σ) (hP : va_P g.2.1 vwCl (wsW g σ) H) (hS : va_S (AA g s.heap.size) s.heap H locs) (hl : lv_has ls 4 (lvv g b j)) (kk : ∀ (σ2 : Hs) (H1 : Heap) (locs1 : List Loc), RR (j + 1) σ2 → va_P g.2.1 vwCl (wsW g σ2) H1 → va_S (AA g s.heap.size) s.heap H1 locs1 → W p l e room_1 s m args below meth c H1 locs1 104 3690 Q (F0 m 1425 ls [])) : W p l e room_1 s m args below meth c H locs 104 3690 Q (F0 m 1178 ls []) := by
  obtain ⟨v, σ1, σ2, c1, c2, hR2⟩ := L_put hR 0 (xs (6 * j + 1)) (xs (6 * j + 2)) (xs (6 * j + 3))
  obtain ⟨hx, hb, hml, hown, hts, -⟩ := id C
  refine lv_aload_n hx hb dL_1178 rfl (lv_at hl 2 rfl) ?_
  refine lw_arg C hL hj hS hl (k := 1) (by omega) dL_1179 dL_1180 dL_1181 rfl dL_1182 dL_1183 ?_
  refine lw_arg C hL hj hS hl (k := 2) (by omega) dL_1184 dL_1185 dL_1186 rfl dL_1187 dL_1188 ?_
  refine lw_arg C hL hj hS hl (k := 3) (by omega) dL_1189 dL_1190 dL_1191 rfl dL_1192 dL_1193 ?_
  refine lw_vcall C hP hS (mj := 90) (o := 0) (As := [.int (xs (6 * j + 1)), .int (xs (6 * j + 2)), .int (xs (6 * j + 3))]) c1 (by omega) (by decide +kernel) (by omega) (by decide +kernel) (show mn 90 = 3 from by decide +kernel) (gdW_in (i := 841) (by decide +kernel)) rfl hl.1 (Nat.le_of_ble_eq_true rfl) dL_1194 rfl (fun H0 l0 hP hS => ?_)
  refine lv_aload_n hx hb dL_1197 rfl (lv_at hl 1 rfl) ?_
  refine lw_arg C hL hj hS hl (k := 1) (by omega) dL_1198 dL_1199 dL_1200 rfl dL_1201 dL_1202 ?_
  refine lw_arg C hL hj hS hl (k := 2) (by omega) dL_1203 dL_1204 dL_1205 rfl dL_1206 dL_1207 ?_
  refine lw_arg C hL hj hS hl (k := 3) (by omega) dL_1208 dL_1209 dL_1210 rfl dL_1211 dL_1212 ?_
  refine lw_vcall C hP hS (mj := 205) (o := 87) (As := [.int (xs (6 * j + 1)), .int (xs (6 * j + 2)), .int (xs (6 * j + 3))]) c2 (by omega) (by decide +kernel) (by omega) (by decide +kernel) (show mn 205 = 3 from by decide +kernel) (gdW_in (i := 1391) (by decide +kernel)) rfl hl.1 (Nat.le_of_ble_eq_true rfl) dL_1213 rfl (fun H1 l1 hP hS => ?_)
  exact lv_icmp_eq (tgt := 1425) hx hb dL_1216 (by decide) (fun _ => kk σ2 _ _ hR2 hP hS) (fun cn => absurd rfl cn)
theorem lw_case_33 (C : LC g p s m args c b L xs) (hL : L ≤ 3072) (hj : 6 * j + 6 ≤ L) (hR : RR j σ) (hP : va_P g.2.1 vwCl (wsW g σ) H) (hS : va_S (AA g s.heap.size) s.heap H locs) (hl : lv_has ls 4 (lvv g b j)) (kk : ∀ (σ2 : Hs) (H1 : Heap) (locs1 : List Loc), RR (j + 1) σ2 → va_P g.2.1 vwCl (wsW g σ2) H1 → va_S (AA g s.heap.size) s.heap H1 locs1 → W p l e room_1 s m args below meth c H1 locs1 104 3690 Q (F0 m 1425 ls [])) : W p l e room_1 s m args below meth c H locs 104 3690 Q (F0 m 1221 ls []) := by
  obtain ⟨v, σ1, σ2, c1, c2, hR2⟩ := L_move hR 0 (xs (6 * j + 1)) (xs (6 * j + 2)) (xs (6 * j + 3)) (xs (6 * j + 4)) (xs (6 * j + 5))
  obtain ⟨hx, hb, hml, hown, hts, -⟩ := id C
  refine lv_aload_n hx hb dL_1221 rfl (lv_at hl 2 rfl) ?_
  refine lw_arg C hL hj hS hl (k := 1) (by omega) dL_1222 dL_1223 dL_1224 rfl dL_1225 dL_1226 ?_
  refine lw_arg C hL hj hS hl (k := 2) (by omega) dL_1227 dL_1228 dL_1229 rfl dL_1230 dL_1231 ?_
  refine lw_arg C hL hj hS hl (k := 3) (by omega) dL_1232 dL_1233 dL_1234 rfl dL_1235 dL_1236 ?_
  refine lw_arg C hL hj hS hl (k := 4) (by omega) dL_1237 dL_1238 dL_1239 rfl dL_1240 dL_1241 ?_
  refine lw_arg C hL hj hS hl (k := 5) (by omega) dL_1242 dL_1243 dL_1244 rfl dL_1245 dL_1246 ?_
  refine lw_vcall C hP hS (mj := 91) (o := 0) (As := [.int (xs (6 * j + 1)), .int (xs (6 * j + 2)), .int (xs (6 * j + 3)), .int (xs (6 * j + 4)), .int (xs (6 * j + 5))]) c1 (by omega) (by decide +kernel) (by omega) (by decide +kernel) (show mn 91 = 5 from by decide +kernel) (gdW_in (i := 857) (by decide +kernel)) rfl hl.1 (Nat.le_of_ble_eq_true rfl) dL_1247 rfl (fun H0 l0 hP hS => ?_)
  refine lv_aload_n hx hb dL_1250 rfl (lv_at hl 1 rfl) ?_
  refine lw_arg C hL hj hS hl (k := 1) (by omega) dL_1251 dL_1252 dL_1253 rfl dL_1254 dL_1255 ?_
  refine lw_arg C hL hj hS hl (k := 2) (by omega) dL_1256 dL_1257 dL_1258 rfl dL_1259 dL_1260 ?_
  refine lw_arg C hL hj hS hl (k := 3) (by omega) dL_1261 dL_1262 dL_1263 rfl dL_1264 dL_1265 ?_
  refine lw_arg C hL hj hS hl (k := 4) (by omega) dL_1266 dL_1267 dL_1268 rfl dL_1269 dL_1270 ?_
  refine lw_arg C hL hj hS hl (k := 5) (by omega) dL_1271 dL_1272 dL_1273 rfl dL_1274 dL_1275 ?_
  refine lw_vcall C hP hS (mj := 206) (o := 87) (As := [.int (xs (6 * j + 1)), .int (xs (6 * j + 2)), .int (xs (6 * j + 3)), .int (xs (6 * j + 4)), .int (xs (6 * j + 5))]) c2 (by omega) (by decide +kernel) (by omega) (by decide +kernel) (show mn 206 = 5 from by decide +kernel) (gdW_in (i := 1395) (by decide +kernel)) rfl hl.1 (Nat.le_of_ble_eq_true rfl) dL_1276 rfl (fun H1 l1 hP hS => ?_)
  exact lv_icmp_eq (tgt := 1425) hx hb dL_1279 (by decide) (fun _ => kk σ2 _ _ hR2 hP hS) (fun cn => absurd rfl cn)
theorem lw_case_34 (C : LC g p s m args c b L xs) (hL : L ≤ 3072) (hj : 6 * j + 6 ≤ L) (hR : RR j σ) (hP : va_P g.2.1 vwCl (wsW g σ) H) (hS : va_S (AA g s.heap.size) s.heap H locs) (hl : lv_has ls 4 (lvv g b j)) (kk : ∀ (σ2 : Hs) (H1 : Heap) (locs1 : List Loc), RR (j + 1) σ2 → va_P g.2.1 vwCl (wsW g σ2) H1 → va_S (AA g s.heap.size) s.heap H1 locs1 → W p l e room_1 s m args below meth c H1 locs1 104 3690 Q (F0 m 1425 ls [])) : W p l e room_1 s m args below meth c H locs 104 3690 Q (F0 m 1284 ls []) := by
  obtain ⟨v, σ1, σ2, c1, c2, hR2⟩ := L_armfuls hR 0 (xs (6 * j + 1))
  obtain ⟨hx, hb, hml, hown, hts, -⟩ := id C
  refine lv_aload_n hx hb dL_1284 rfl (lv_at hl 2 rfl) ?_
  refine lw_arg C hL hj hS hl (k := 1) (by omega) dL_1285 dL_1286 dL_1287 rfl dL_1288 dL_1289 ?_
  refine lw_vcall C hP hS (mj := 92) (o := 0) (As := [.int (xs (6 * j + 1))]) c1 (by omega) (by decide +kernel) (by omega) (by decide +kernel) (show mn 92 = 1 from by decide +kernel) (gdW_in (i := 861) (by decide +kernel)) rfl hl.1 (Nat.le_of_ble_eq_true rfl) dL_1290 rfl (fun H0 l0 hP hS => ?_)
  refine lv_aload_n hx hb dL_1293 rfl (lv_at hl 1 rfl) ?_
  refine lw_arg C hL hj hS hl (k := 1) (by omega) dL_1294 dL_1295 dL_1296 rfl dL_1297 dL_1298 ?_
  refine lw_vcall C hP hS (mj := 207) (o := 87) (As := [.int (xs (6 * j + 1))]) c2 (by omega) (by decide +kernel) (by omega) (by decide +kernel) (show mn 207 = 1 from by decide +kernel) (gdW_in (i := 1399) (by decide +kernel)) rfl hl.1 (Nat.le_of_ble_eq_true rfl) dL_1299 rfl (fun H1 l1 hP hS => ?_)
  exact lv_icmp_eq (tgt := 1425) hx hb dL_1302 (by decide) (fun _ => kk σ2 _ _ hR2 hP hS) (fun cn => absurd rfl cn)
theorem lw_case_35 (C : LC g p s m args c b L xs) (hL : L ≤ 3072) (hj : 6 * j + 6 ≤ L) (hR : RR j σ) (hP : va_P g.2.1 vwCl (wsW g σ) H) (hS : va_S (AA g s.heap.size) s.heap H locs) (hl : lv_has ls 4 (lvv g b j)) (kk : ∀ (σ2 : Hs) (H1 : Heap) (locs1 : List Loc), RR (j + 1) σ2 → va_P g.2.1 vwCl (wsW g σ2) H1 → va_S (AA g s.heap.size) s.heap H1 locs1 → W p l e room_1 s m args below meth c H1 locs1 104 3690 Q (F0 m 1425 ls [])) : W p l e room_1 s m args below meth c H locs 104 3690 Q (F0 m 1307 ls []) := by
  obtain ⟨v, σ1, σ2, c1, c2, hR2⟩ := L_image hR 0
  obtain ⟨hx, hb, hml, hown, hts, -⟩ := id C
  refine lv_aload_n hx hb dL_1307 rfl (lv_at hl 2 rfl) ?_
  refine lw_vcall C hP hS (mj := 93) (o := 0) (As := []) c1 (by omega) (by decide +kernel) (by omega) (by decide +kernel) (show mn 93 = 0 from by decide +kernel) (gdW_in (i := 865) (by decide +kernel)) rfl hl.1 (Nat.le_of_ble_eq_true rfl) dL_1308 rfl (fun H0 l0 hP hS => ?_)
  refine lv_aload_n hx hb dL_1311 rfl (lv_at hl 1 rfl) ?_
  refine lw_vcall C hP hS (mj := 208) (o := 87) (As := []) c2 (by omega) (by decide +kernel) (by omega) (by decide +kernel) (show mn 208 = 0 from by decide +kernel) (gdW_in (i := 1403) (by decide +kernel)) rfl hl.1 (Nat.le_of_ble_eq_true rfl) dL_1312 rfl (fun H1 l1 hP hS => ?_)
  exact lv_icmp_eq (tgt := 1425) hx hb dL_1315 (by decide) (fun _ => kk σ2 _ _ hR2 hP hS) (fun cn => absurd rfl cn)
theorem lw_case_36 (C : LC g p s m args c b L xs) (hL : L ≤ 3072) (hj : 6 * j + 6 ≤ L) (hR : RR j σ) (hP : va_P g.2.1 vwCl (wsW g σ) H) (hS : va_S (AA g s.heap.size) s.heap H locs) (hl : lv_has ls 4 (lvv g b j)) (kk : ∀ (σ2 : Hs) (H1 : Heap) (locs1 : List Loc), RR (j + 1) σ2 → va_P g.2.1 vwCl (wsW g σ2) H1 → va_S (AA g s.heap.size) s.heap H1 locs1 → W p l e room_1 s m args below meth c H1 locs1 104 3690 Q (F0 m 1425 ls [])) : W p l e room_1 s m args below meth c H locs 104 3690 Q (F0 m 1320 ls []) := by
  obtain ⟨v, σ1, σ2, c1, c2, hR2⟩ := L_restore hR 0
  obtain ⟨hx, hb, hml, hown, hts, -⟩ := id C
  refine lv_aload_n hx hb dL_1320 rfl (lv_at hl 2 rfl) ?_
  refine lw_vcall C hP hS (mj := 94) (o := 0) (As := []) c1 (by omega) (by decide +kernel) (by omega) (by decide +kernel) (show mn 94 = 0 from by decide +kernel) (gdW_in (i := 880) (by decide +kernel)) rfl hl.1 (Nat.le_of_ble_eq_true rfl) dL_1321 rfl (fun H0 l0 hP hS => ?_)
  refine lv_aload_n hx hb dL_1324 rfl (lv_at hl 1 rfl) ?_
  refine lw_vcall C hP hS (mj := 209) (o := 87) (As := []) c2 (by omega) (by decide +kernel) (by omega) (by decide +kernel) (show mn 209 = 0 from by decide +kernel) (gdW_in (i := 1407) (by decide +kernel)) rfl hl.1 (Nat.le_of_ble_eq_true rfl) dL_1325 rfl (fun H1 l1 hP hS => ?_)
  exact lv_icmp_eq (tgt := 1425) hx hb dL_1328 (by decide) (fun _ => kk σ2 _ _ hR2 hP hS) (fun cn => absurd rfl cn)
theorem lw_case_37 (C : LC g p s m args c b L xs) (hL : L ≤ 3072) (hj : 6 * j + 6 ≤ L) (hR : RR j σ) (hP : va_P g.2.1 vwCl (wsW g σ) H) (hS : va_S (AA g s.heap.size) s.heap H locs) (hl : lv_has ls 4 (lvv g b j)) (kk : ∀ (σ2 : Hs) (H1 : Heap) (locs1 : List Loc), RR (j + 1) σ2 → va_P g.2.1 vwCl (wsW g σ2) H1 → va_S (AA g s.heap.size) s.heap H1 locs1 → W p l e room_1 s m args below meth c H1 locs1 104 3690 Q (F0 m 1425 ls [])) : W p l e room_1 s m args below meth c H locs 104 3690 Q (F0 m 1333 ls []) := by
  obtain ⟨v, σ1, σ2, c1, c2, hR2⟩ := L_tell hR 0 (xs (6 * j + 1))
  obtain ⟨hx, hb, hml, hown, hts, -⟩ := id C
  refine lv_aload_n hx hb dL_1333 rfl (lv_at hl 2 rfl) ?_
  refine lw_arg C hL hj hS hl (k := 1) (by omega) dL_1334 dL_1335 dL_1336 rfl dL_1337 dL_1338 ?_
  refine lw_vcall C hP hS (mj := 95) (o := 0) (As := [.int (xs (6 * j + 1))]) c1 (by omega) (by decide +kernel) (by omega) (by decide +kernel) (show mn 95 = 1 from by decide +kernel) (gdW_in (i := 884) (by decide +kernel)) rfl hl.1 (Nat.le_of_ble_eq_true rfl) dL_1339 rfl (fun H0 l0 hP hS => ?_)
  refine lv_aload_n hx hb dL_1342 rfl (lv_at hl 1 rfl) ?_
  refine lw_arg C hL hj hS hl (k := 1) (by omega) dL_1343 dL_1344 dL_1345 rfl dL_1346 dL_1347 ?_
  refine lw_vcall C hP hS (mj := 210) (o := 87) (As := [.int (xs (6 * j + 1))]) c2 (by omega) (by decide +kernel) (by omega) (by decide +kernel) (show mn 210 = 1 from by decide +kernel) (gdW_in (i := 1411) (by decide +kernel)) rfl hl.1 (Nat.le_of_ble_eq_true rfl) dL_1348 rfl (fun H1 l1 hP hS => ?_)
  exact lv_icmp_eq (tgt := 1425) hx hb dL_1351 (by decide) (fun _ => kk σ2 _ _ hR2 hP hS) (fun cn => absurd rfl cn)
theorem lw_case_38 (C : LC g p s m args c b L xs) (hL : L ≤ 3072) (hj : 6 * j + 6 ≤ L) (hR : RR j σ) (hP : va_P g.2.1 vwCl (wsW g σ) H) (hS : va_S (AA g s.heap.size) s.heap H locs) (hl : lv_has ls 4 (lvv g b j)) (kk : ∀ (σ2 : Hs) (H1 : Heap) (locs1 : List Loc), RR (j + 1) σ2 → va_P g.2.1 vwCl (wsW g σ2) H1 → va_S (AA g s.heap.size) s.heap H1 locs1 → W p l e room_1 s m args below meth c H1 locs1 104 3690 Q (F0 m 1425 ls [])) : W p l e room_1 s m args below meth c H locs 104 3690 Q (F0 m 1356 ls []) := by
  obtain ⟨v, σ1, σ2, c1, c2, hR2⟩ := L_check hR 0 (xs (6 * j + 1))
  obtain ⟨hx, hb, hml, hown, hts, -⟩ := id C
  refine lv_aload_n hx hb dL_1356 rfl (lv_at hl 2 rfl) ?_
  refine lw_arg C hL hj hS hl (k := 1) (by omega) dL_1357 dL_1358 dL_1359 rfl dL_1360 dL_1361 ?_
  refine lw_vcall C hP hS (mj := 96) (o := 0) (As := [.int (xs (6 * j + 1))]) c1 (by omega) (by decide +kernel) (by omega) (by decide +kernel) (show mn 96 = 1 from by decide +kernel) (gdW_in (i := 888) (by decide +kernel)) rfl hl.1 (Nat.le_of_ble_eq_true rfl) dL_1362 rfl (fun H0 l0 hP hS => ?_)
  refine lv_aload_n hx hb dL_1365 rfl (lv_at hl 1 rfl) ?_
  refine lw_arg C hL hj hS hl (k := 1) (by omega) dL_1366 dL_1367 dL_1368 rfl dL_1369 dL_1370 ?_
  refine lw_vcall C hP hS (mj := 211) (o := 87) (As := [.int (xs (6 * j + 1))]) c2 (by omega) (by decide +kernel) (by omega) (by decide +kernel) (show mn 211 = 1 from by decide +kernel) (gdW_in (i := 1415) (by decide +kernel)) rfl hl.1 (Nat.le_of_ble_eq_true rfl) dL_1371 rfl (fun H1 l1 hP hS => ?_)
  exact lv_icmp_eq (tgt := 1425) hx hb dL_1374 (by decide) (fun _ => kk σ2 _ _ hR2 hP hS) (fun cn => absurd rfl cn)
theorem lw_case_39 (C : LC g p s m args c b L xs) (hL : L ≤ 3072) (hj : 6 * j + 6 ≤ L) (hR : RR j σ) (hP : va_P g.2.1 vwCl (wsW g σ) H) (hS : va_S (AA g s.heap.size) s.heap H locs) (hl : lv_has ls 4 (lvv g b j)) (kk : ∀ (σ2 : Hs) (H1 : Heap) (locs1 : List Loc), RR (j + 1) σ2 → va_P g.2.1 vwCl (wsW g σ2) H1 → va_S (AA g s.heap.size) s.heap H1 locs1 → W p l e room_1 s m args below meth c H1 locs1 104 3690 Q (F0 m 1425 ls [])) : W p l e room_1 s m args below meth c H locs 104 3690 Q (F0 m 1379 ls []) := by
  obtain ⟨v, σ1, σ2, c1, c2, hR2⟩ := L_count hR 0 (xs (6 * j + 1))
  obtain ⟨hx, hb, hml, hown, hts, -⟩ := id C
  refine lv_aload_n hx hb dL_1379 rfl (lv_at hl 2 rfl) ?_
  refine lw_arg C hL hj hS hl (k := 1) (by omega) dL_1380 dL_1381 dL_1382 rfl dL_1383 dL_1384 ?_
  refine lw_vcall C hP hS (mj := 97) (o := 0) (As := [.int (xs (6 * j + 1))]) c1 (by omega) (by decide +kernel) (by omega) (by decide +kernel) (show mn 97 = 1 from by decide +kernel) (gdW_in (i := 894) (by decide +kernel)) rfl hl.1 (Nat.le_of_ble_eq_true rfl) dL_1385 rfl (fun H0 l0 hP hS => ?_)
  refine lv_aload_n hx hb dL_1388 rfl (lv_at hl 1 rfl) ?_
  refine lw_arg C hL hj hS hl (k := 1) (by omega) dL_1389 dL_1390 dL_1391 rfl dL_1392 dL_1393 ?_
  refine lw_vcall C hP hS (mj := 212) (o := 87) (As := [.int (xs (6 * j + 1))]) c2 (by omega) (by decide +kernel) (by omega) (by decide +kernel) (show mn 212 = 1 from by decide +kernel) (gdW_in (i := 1419) (by decide +kernel)) rfl hl.1 (Nat.le_of_ble_eq_true rfl) dL_1394 rfl (fun H1 l1 hP hS => ?_)
  exact lv_icmp_eq (tgt := 1425) hx hb dL_1397 (by decide) (fun _ => kk σ2 _ _ hR2 hP hS) (fun cn => absurd rfl cn)
theorem lw_case_40 (C : LC g p s m args c b L xs) (hL : L ≤ 3072) (hj : 6 * j + 6 ≤ L) (hR : RR j σ) (hP : va_P g.2.1 vwCl (wsW g σ) H) (hS : va_S (AA g s.heap.size) s.heap H locs) (hl : lv_has ls 4 (lvv g b j)) (kk : ∀ (σ2 : Hs) (H1 : Heap) (locs1 : List Loc), RR (j + 1) σ2 → va_P g.2.1 vwCl (wsW g σ2) H1 → va_S (AA g s.heap.size) s.heap H1 locs1 → W p l e room_1 s m args below meth c H1 locs1 104 3690 Q (F0 m 1425 ls [])) : W p l e room_1 s m args below meth c H locs 104 3690 Q (F0 m 1402 ls []) := by
  obtain ⟨v, σ1, σ2, c1, c2, hR2⟩ := L_told hR 0 (xs (6 * j + 1))
  obtain ⟨hx, hb, hml, hown, hts, -⟩ := id C
  refine lv_aload_n hx hb dL_1402 rfl (lv_at hl 2 rfl) ?_
  refine lw_arg C hL hj hS hl (k := 1) (by omega) dL_1403 dL_1404 dL_1405 rfl dL_1406 dL_1407 ?_
  refine lw_vcall C hP hS (mj := 98) (o := 0) (As := [.int (xs (6 * j + 1))]) c1 (by omega) (by decide +kernel) (by omega) (by decide +kernel) (show mn 98 = 1 from by decide +kernel) (gdW_in (i := 898) (by decide +kernel)) rfl hl.1 (Nat.le_of_ble_eq_true rfl) dL_1408 rfl (fun H0 l0 hP hS => ?_)
  refine lv_aload_n hx hb dL_1411 rfl (lv_at hl 1 rfl) ?_
  refine lw_arg C hL hj hS hl (k := 1) (by omega) dL_1412 dL_1413 dL_1414 rfl dL_1415 dL_1416 ?_
  refine lw_vcall C hP hS (mj := 213) (o := 87) (As := [.int (xs (6 * j + 1))]) c2 (by omega) (by decide +kernel) (by omega) (by decide +kernel) (show mn 213 = 1 from by decide +kernel) (gdW_in (i := 1423) (by decide +kernel)) rfl hl.1 (Nat.le_of_ble_eq_true rfl) dL_1417 rfl (fun H1 l1 hP hS => ?_)
  exact lv_icmp_eq (tgt := 1425) hx hb dL_1420 (by decide) (fun _ => kk σ2 _ _ hR2 hP hS) (fun cn => absurd rfl cn)
end LAWC

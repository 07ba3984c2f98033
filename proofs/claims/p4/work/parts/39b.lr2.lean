theorem dW_1000 : decode code 1000 = .ok (.aload_n 0, 1) := by decide +kernel
theorem dW_1001 : decode code 1001 = .ok (.iload 4, 2) := by decide +kernel
theorem dW_1003 : decode code 1003 = .ok (.iconst 3, 1) := by decide +kernel
theorem dW_1004 : decode code 1004 = .ok (.iadd, 1) := by decide +kernel
theorem dW_1005 : decode code 1005 = .ok (.iaload, 1) := by decide +kernel
theorem dW_1006 : decode code 1006 = .ok (.aload_n 0, 1) := by decide +kernel
theorem dW_1007 : decode code 1007 = .ok (.iload 4, 2) := by decide +kernel
theorem dW_1009 : decode code 1009 = .ok (.iconst 4, 1) := by decide +kernel
theorem dW_1010 : decode code 1010 = .ok (.iadd, 1) := by decide +kernel
theorem dW_1011 : decode code 1011 = .ok (.iaload, 1) := by decide +kernel
theorem dW_1012 : decode code 1012 = .ok (.invokevirtual 86, 3) := by decide +kernel
theorem dW_1015 : decode code 1015 = .ok (.pop, 1) := by decide +kernel
theorem dW_1016 : decode code 1016 = .ok (.aload_n 2, 1) := by decide +kernel
theorem dW_1017 : decode code 1017 = .ok (.aload_n 0, 1) := by decide +kernel
theorem dW_1018 : decode code 1018 = .ok (.iload 4, 2) := by decide +kernel
theorem dW_1020 : decode code 1020 = .ok (.iconst 1, 1) := by decide +kernel
theorem dW_1021 : decode code 1021 = .ok (.iadd, 1) := by decide +kernel
theorem dW_1022 : decode code 1022 = .ok (.iaload, 1) := by decide +kernel
theorem dW_1023 : decode code 1023 = .ok (.aload_n 0, 1) := by decide +kernel
theorem dW_1024 : decode code 1024 = .ok (.iload 4, 2) := by decide +kernel
theorem dW_1026 : decode code 1026 = .ok (.iconst 2, 1) := by decide +kernel
theorem dW_1027 : decode code 1027 = .ok (.iadd, 1) := by decide +kernel
theorem dW_1028 : decode code 1028 = .ok (.iaload, 1) := by decide +kernel
theorem dW_1029 : decode code 1029 = .ok (.aload_n 0, 1) := by decide +kernel
theorem dW_1030 : decode code 1030 = .ok (.iload 4, 2) := by decide +kernel
theorem dW_1032 : decode code 1032 = .ok (.iconst 3, 1) := by decide +kernel
theorem dW_1033 : decode code 1033 = .ok (.iadd, 1) := by decide +kernel
theorem dW_1034 : decode code 1034 = .ok (.iaload, 1) := by decide +kernel
theorem dW_1035 : decode code 1035 = .ok (.aload_n 0, 1) := by decide +kernel
theorem dW_1036 : decode code 1036 = .ok (.iload 4, 2) := by decide +kernel
theorem dW_1038 : decode code 1038 = .ok (.iconst 4, 1) := by decide +kernel
theorem dW_1039 : decode code 1039 = .ok (.iadd, 1) := by decide +kernel
theorem dW_1040 : decode code 1040 = .ok (.iaload, 1) := by decide +kernel
theorem dW_1041 : decode code 1041 = .ok (.invokevirtual 89, 3) := by decide +kernel
theorem dW_1044 : decode code 1044 = .ok (.pop, 1) := by decide +kernel
theorem dW_1045 : decode code 1045 = .ok (.goto 941, 3) := by decide +kernel
theorem dW_1048 : decode code 1048 = .ok (.aload_n 1, 1) := by decide +kernel
theorem dW_1049 : decode code 1049 = .ok (.aload_n 0, 1) := by decide +kernel
theorem dW_1050 : decode code 1050 = .ok (.iload 4, 2) := by decide +kernel
theorem dW_1052 : decode code 1052 = .ok (.iconst 1, 1) := by decide +kernel
theorem dW_1053 : decode code 1053 = .ok (.iadd, 1) := by decide +kernel
theorem dW_1054 : decode code 1054 = .ok (.iaload, 1) := by decide +kernel
theorem dW_1055 : decode code 1055 = .ok (.aload_n 0, 1) := by decide +kernel
theorem dW_1056 : decode code 1056 = .ok (.iload 4, 2) := by decide +kernel
theorem dW_1058 : decode code 1058 = .ok (.iconst 2, 1) := by decide +kernel
theorem dW_1059 : decode code 1059 = .ok (.iadd, 1) := by decide +kernel
theorem dW_1060 : decode code 1060 = .ok (.iaload, 1) := by decide +kernel
theorem dW_1061 : decode code 1061 = .ok (.aload_n 0, 1) := by decide +kernel
theorem dW_1062 : decode code 1062 = .ok (.iload 4, 2) := by decide +kernel
theorem dW_1064 : decode code 1064 = .ok (.iconst 3, 1) := by decide +kernel
theorem dW_1065 : decode code 1065 = .ok (.iadd, 1) := by decide +kernel
theorem dW_1066 : decode code 1066 = .ok (.iaload, 1) := by decide +kernel
theorem dW_1067 : decode code 1067 = .ok (.aload_n 0, 1) := by decide +kernel
theorem dW_1068 : decode code 1068 = .ok (.iload 4, 2) := by decide +kernel
theorem dW_1070 : decode code 1070 = .ok (.iconst 4, 1) := by decide +kernel
theorem dW_1071 : decode code 1071 = .ok (.iadd, 1) := by decide +kernel
theorem dW_1072 : decode code 1072 = .ok (.iaload, 1) := by decide +kernel
theorem dW_1073 : decode code 1073 = .ok (.invokevirtual 90, 3) := by decide +kernel
theorem dW_1076 : decode code 1076 = .ok (.pop, 1) := by decide +kernel
theorem dW_1077 : decode code 1077 = .ok (.aload_n 2, 1) := by decide +kernel
theorem dW_1078 : decode code 1078 = .ok (.aload_n 0, 1) := by decide +kernel
theorem dW_1079 : decode code 1079 = .ok (.iload 4, 2) := by decide +kernel
theorem dW_1081 : decode code 1081 = .ok (.iconst 1, 1) := by decide +kernel
theorem dW_1082 : decode code 1082 = .ok (.iadd, 1) := by decide +kernel
theorem dW_1083 : decode code 1083 = .ok (.iaload, 1) := by decide +kernel
theorem dW_1084 : decode code 1084 = .ok (.aload_n 0, 1) := by decide +kernel
theorem dW_1085 : decode code 1085 = .ok (.iload 4, 2) := by decide +kernel
theorem dW_1087 : decode code 1087 = .ok (.iconst 2, 1) := by decide +kernel
theorem dW_1088 : decode code 1088 = .ok (.iadd, 1) := by decide +kernel
theorem dW_1089 : decode code 1089 = .ok (.iaload, 1) := by decide +kernel
theorem dW_1090 : decode code 1090 = .ok (.aload_n 0, 1) := by decide +kernel
theorem dW_1091 : decode code 1091 = .ok (.iload 4, 2) := by decide +kernel
theorem dW_1093 : decode code 1093 = .ok (.iconst 3, 1) := by decide +kernel
theorem dW_1094 : decode code 1094 = .ok (.iadd, 1) := by decide +kernel
theorem dW_1095 : decode code 1095 = .ok (.iaload, 1) := by decide +kernel
theorem dW_1096 : decode code 1096 = .ok (.aload_n 0, 1) := by decide +kernel
theorem dW_1097 : decode code 1097 = .ok (.iload 4, 2) := by decide +kernel
theorem dW_1099 : decode code 1099 = .ok (.iconst 4, 1) := by decide +kernel
theorem dW_1100 : decode code 1100 = .ok (.iadd, 1) := by decide +kernel
theorem dW_1101 : decode code 1101 = .ok (.iaload, 1) := by decide +kernel
theorem dW_1102 : decode code 1102 = .ok (.invokevirtual 93, 3) := by decide +kernel
theorem dW_1105 : decode code 1105 = .ok (.pop, 1) := by decide +kernel
theorem dW_1106 : decode code 1106 = .ok (.goto 880, 3) := by decide +kernel
theorem dW_1109 : decode code 1109 = .ok (.aload_n 1, 1) := by decide +kernel
theorem dW_1110 : decode code 1110 = .ok (.aload_n 0, 1) := by decide +kernel
theorem dW_1111 : decode code 1111 = .ok (.iload 4, 2) := by decide +kernel
theorem dW_1113 : decode code 1113 = .ok (.iconst 1, 1) := by decide +kernel
theorem dW_1114 : decode code 1114 = .ok (.iadd, 1) := by decide +kernel
theorem dW_1115 : decode code 1115 = .ok (.iaload, 1) := by decide +kernel
theorem dW_1116 : decode code 1116 = .ok (.aload_n 0, 1) := by decide +kernel
theorem dW_1117 : decode code 1117 = .ok (.iload 4, 2) := by decide +kernel
theorem dW_1119 : decode code 1119 = .ok (.iconst 2, 1) := by decide +kernel
theorem dW_1120 : decode code 1120 = .ok (.iadd, 1) := by decide +kernel
theorem dW_1121 : decode code 1121 = .ok (.iaload, 1) := by decide +kernel
theorem dW_1122 : decode code 1122 = .ok (.aload_n 0, 1) := by decide +kernel
theorem dW_1123 : decode code 1123 = .ok (.iload 4, 2) := by decide +kernel
theorem dW_1125 : decode code 1125 = .ok (.iconst 3, 1) := by decide +kernel
theorem dW_1126 : decode code 1126 = .ok (.iadd, 1) := by decide +kernel
theorem dW_1127 : decode code 1127 = .ok (.iaload, 1) := by decide +kernel
theorem dW_1128 : decode code 1128 = .ok (.aload_n 0, 1) := by decide +kernel
theorem dW_1129 : decode code 1129 = .ok (.iload 4, 2) := by decide +kernel
theorem dW_1131 : decode code 1131 = .ok (.iconst 4, 1) := by decide +kernel
theorem dW_1132 : decode code 1132 = .ok (.iadd, 1) := by decide +kernel
theorem dW_1133 : decode code 1133 = .ok (.iaload, 1) := by decide +kernel
theorem dW_1134 : decode code 1134 = .ok (.invokevirtual 94, 3) := by decide +kernel
theorem dW_1137 : decode code 1137 = .ok (.pop, 1) := by decide +kernel
theorem dW_1138 : decode code 1138 = .ok (.aload_n 2, 1) := by decide +kernel
theorem dW_1139 : decode code 1139 = .ok (.aload_n 0, 1) := by decide +kernel
theorem dW_1140 : decode code 1140 = .ok (.iload 4, 2) := by decide +kernel
theorem dW_1142 : decode code 1142 = .ok (.iconst 1, 1) := by decide +kernel
theorem dW_1143 : decode code 1143 = .ok (.iadd, 1) := by decide +kernel
theorem dW_1144 : decode code 1144 = .ok (.iaload, 1) := by decide +kernel
theorem dW_1145 : decode code 1145 = .ok (.aload_n 0, 1) := by decide +kernel
theorem dW_1146 : decode code 1146 = .ok (.iload 4, 2) := by decide +kernel
theorem dW_1148 : decode code 1148 = .ok (.iconst 2, 1) := by decide +kernel
theorem dW_1149 : decode code 1149 = .ok (.iadd, 1) := by decide +kernel
theorem dW_1150 : decode code 1150 = .ok (.iaload, 1) := by decide +kernel
theorem dW_1151 : decode code 1151 = .ok (.aload_n 0, 1) := by decide +kernel
theorem dW_1152 : decode code 1152 = .ok (.iload 4, 2) := by decide +kernel
theorem dW_1154 : decode code 1154 = .ok (.iconst 3, 1) := by decide +kernel
theorem dW_1155 : decode code 1155 = .ok (.iadd, 1) := by decide +kernel
theorem dW_1156 : decode code 1156 = .ok (.iaload, 1) := by decide +kernel
theorem dW_1157 : decode code 1157 = .ok (.aload_n 0, 1) := by decide +kernel
theorem dW_1158 : decode code 1158 = .ok (.iload 4, 2) := by decide +kernel
theorem dW_1160 : decode code 1160 = .ok (.iconst 4, 1) := by decide +kernel
theorem dW_1161 : decode code 1161 = .ok (.iadd, 1) := by decide +kernel
theorem dW_1162 : decode code 1162 = .ok (.iaload, 1) := by decide +kernel
theorem dW_1163 : decode code 1163 = .ok (.invokevirtual 97, 3) := by decide +kernel
theorem dW_1166 : decode code 1166 = .ok (.pop, 1) := by decide +kernel
theorem dW_1167 : decode code 1167 = .ok (.goto 819, 3) := by decide +kernel
theorem dW_1170 : decode code 1170 = .ok (.aload_n 1, 1) := by decide +kernel
theorem dW_1171 : decode code 1171 = .ok (.aload_n 0, 1) := by decide +kernel
theorem dW_1172 : decode code 1172 = .ok (.iload 4, 2) := by decide +kernel
theorem dW_1174 : decode code 1174 = .ok (.iconst 1, 1) := by decide +kernel
theorem dW_1175 : decode code 1175 = .ok (.iadd, 1) := by decide +kernel
theorem dW_1176 : decode code 1176 = .ok (.iaload, 1) := by decide +kernel
theorem dW_1177 : decode code 1177 = .ok (.aload_n 0, 1) := by decide +kernel
theorem dW_1178 : decode code 1178 = .ok (.iload 4, 2) := by decide +kernel
theorem dW_1180 : decode code 1180 = .ok (.iconst 2, 1) := by decide +kernel
theorem dW_1181 : decode code 1181 = .ok (.iadd, 1) := by decide +kernel
theorem dW_1182 : decode code 1182 = .ok (.iaload, 1) := by decide +kernel
theorem dW_1183 : decode code 1183 = .ok (.aload_n 0, 1) := by decide +kernel
theorem dW_1184 : decode code 1184 = .ok (.iload 4, 2) := by decide +kernel
theorem dW_1186 : decode code 1186 = .ok (.iconst 3, 1) := by decide +kernel
theorem dW_1187 : decode code 1187 = .ok (.iadd, 1) := by decide +kernel
theorem dW_1188 : decode code 1188 = .ok (.iaload, 1) := by decide +kernel
theorem dW_1189 : decode code 1189 = .ok (.aload_n 0, 1) := by decide +kernel
theorem dW_1190 : decode code 1190 = .ok (.iload 4, 2) := by decide +kernel
theorem dW_1192 : decode code 1192 = .ok (.iconst 4, 1) := by decide +kernel
theorem dW_1193 : decode code 1193 = .ok (.iadd, 1) := by decide +kernel
theorem dW_1194 : decode code 1194 = .ok (.iaload, 1) := by decide +kernel
theorem dW_1195 : decode code 1195 = .ok (.invokevirtual 98, 3) := by decide +kernel
theorem dW_1198 : decode code 1198 = .ok (.pop, 1) := by decide +kernel
theorem dW_1199 : decode code 1199 = .ok (.aload_n 2, 1) := by decide +kernel
theorem dW_1200 : decode code 1200 = .ok (.aload_n 0, 1) := by decide +kernel
theorem dW_1201 : decode code 1201 = .ok (.iload 4, 2) := by decide +kernel
theorem dW_1203 : decode code 1203 = .ok (.iconst 1, 1) := by decide +kernel
theorem dW_1204 : decode code 1204 = .ok (.iadd, 1) := by decide +kernel
theorem dW_1205 : decode code 1205 = .ok (.iaload, 1) := by decide +kernel
theorem dW_1206 : decode code 1206 = .ok (.aload_n 0, 1) := by decide +kernel
theorem dW_1207 : decode code 1207 = .ok (.iload 4, 2) := by decide +kernel
theorem dW_1209 : decode code 1209 = .ok (.iconst 2, 1) := by decide +kernel
theorem dW_1210 : decode code 1210 = .ok (.iadd, 1) := by decide +kernel
theorem dW_1211 : decode code 1211 = .ok (.iaload, 1) := by decide +kernel
theorem dW_1212 : decode code 1212 = .ok (.aload_n 0, 1) := by decide +kernel
theorem dW_1213 : decode code 1213 = .ok (.iload 4, 2) := by decide +kernel
theorem dW_1215 : decode code 1215 = .ok (.iconst 3, 1) := by decide +kernel
theorem dW_1216 : decode code 1216 = .ok (.iadd, 1) := by decide +kernel
theorem dW_1217 : decode code 1217 = .ok (.iaload, 1) := by decide +kernel
theorem dW_1218 : decode code 1218 = .ok (.aload_n 0, 1) := by decide +kernel
theorem dW_1219 : decode code 1219 = .ok (.iload 4, 2) := by decide +kernel
theorem dW_1221 : decode code 1221 = .ok (.iconst 4, 1) := by decide +kernel
theorem dW_1222 : decode code 1222 = .ok (.iadd, 1) := by decide +kernel
theorem dW_1223 : decode code 1223 = .ok (.iaload, 1) := by decide +kernel
theorem dW_1224 : decode code 1224 = .ok (.invokevirtual 101, 3) := by decide +kernel
theorem dW_1227 : decode code 1227 = .ok (.pop, 1) := by decide +kernel
theorem dW_1228 : decode code 1228 = .ok (.goto 758, 3) := by decide +kernel
theorem dW_1231 : decode code 1231 = .ok (.aload_n 1, 1) := by decide +kernel
theorem dW_1232 : decode code 1232 = .ok (.aload_n 0, 1) := by decide +kernel
theorem dW_1233 : decode code 1233 = .ok (.iload 4, 2) := by decide +kernel
theorem dW_1235 : decode code 1235 = .ok (.iconst 1, 1) := by decide +kernel
theorem dW_1236 : decode code 1236 = .ok (.iadd, 1) := by decide +kernel
theorem dW_1237 : decode code 1237 = .ok (.iaload, 1) := by decide +kernel
theorem dW_1238 : decode code 1238 = .ok (.aload_n 0, 1) := by decide +kernel
theorem dW_1239 : decode code 1239 = .ok (.iload 4, 2) := by decide +kernel
theorem dW_1241 : decode code 1241 = .ok (.iconst 2, 1) := by decide +kernel
theorem dW_1242 : decode code 1242 = .ok (.iadd, 1) := by decide +kernel
theorem dW_1243 : decode code 1243 = .ok (.iaload, 1) := by decide +kernel
theorem dW_1244 : decode code 1244 = .ok (.aload_n 0, 1) := by decide +kernel
theorem dW_1245 : decode code 1245 = .ok (.iload 4, 2) := by decide +kernel
theorem dW_1247 : decode code 1247 = .ok (.iconst 3, 1) := by decide +kernel
theorem dW_1248 : decode code 1248 = .ok (.iadd, 1) := by decide +kernel
theorem dW_1249 : decode code 1249 = .ok (.iaload, 1) := by decide +kernel
theorem dW_1250 : decode code 1250 = .ok (.invokevirtual 102, 3) := by decide +kernel
theorem dW_1253 : decode code 1253 = .ok (.pop, 1) := by decide +kernel
theorem dW_1254 : decode code 1254 = .ok (.aload_n 2, 1) := by decide +kernel
theorem dW_1255 : decode code 1255 = .ok (.aload_n 0, 1) := by decide +kernel
theorem dW_1256 : decode code 1256 = .ok (.iload 4, 2) := by decide +kernel
theorem dW_1258 : decode code 1258 = .ok (.iconst 1, 1) := by decide +kernel
theorem dW_1259 : decode code 1259 = .ok (.iadd, 1) := by decide +kernel
theorem dW_1260 : decode code 1260 = .ok (.iaload, 1) := by decide +kernel
theorem dW_1261 : decode code 1261 = .ok (.aload_n 0, 1) := by decide +kernel
theorem dW_1262 : decode code 1262 = .ok (.iload 4, 2) := by decide +kernel
theorem dW_1264 : decode code 1264 = .ok (.iconst 2, 1) := by decide +kernel
theorem dW_1265 : decode code 1265 = .ok (.iadd, 1) := by decide +kernel
theorem dW_1266 : decode code 1266 = .ok (.iaload, 1) := by decide +kernel
theorem dW_1267 : decode code 1267 = .ok (.aload_n 0, 1) := by decide +kernel
theorem dW_1268 : decode code 1268 = .ok (.iload 4, 2) := by decide +kernel
theorem dW_1270 : decode code 1270 = .ok (.iconst 3, 1) := by decide +kernel
theorem dW_1271 : decode code 1271 = .ok (.iadd, 1) := by decide +kernel
theorem dW_1272 : decode code 1272 = .ok (.iaload, 1) := by decide +kernel
theorem dW_1273 : decode code 1273 = .ok (.invokevirtual 105, 3) := by decide +kernel
theorem dW_1276 : decode code 1276 = .ok (.pop, 1) := by decide +kernel
theorem dW_1277 : decode code 1277 = .ok (.goto 709, 3) := by decide +kernel
theorem dW_1280 : decode code 1280 = .ok (.aload_n 1, 1) := by decide +kernel
theorem dW_1281 : decode code 1281 = .ok (.aload_n 0, 1) := by decide +kernel
theorem dW_1282 : decode code 1282 = .ok (.iload 4, 2) := by decide +kernel
theorem dW_1284 : decode code 1284 = .ok (.iconst 1, 1) := by decide +kernel
theorem dW_1285 : decode code 1285 = .ok (.iadd, 1) := by decide +kernel
theorem dW_1286 : decode code 1286 = .ok (.iaload, 1) := by decide +kernel
theorem dW_1287 : decode code 1287 = .ok (.aload_n 0, 1) := by decide +kernel
theorem dW_1288 : decode code 1288 = .ok (.iload 4, 2) := by decide +kernel
theorem dW_1290 : decode code 1290 = .ok (.iconst 2, 1) := by decide +kernel
theorem dW_1291 : decode code 1291 = .ok (.iadd, 1) := by decide +kernel
theorem dW_1292 : decode code 1292 = .ok (.iaload, 1) := by decide +kernel
theorem dW_1293 : decode code 1293 = .ok (.aload_n 0, 1) := by decide +kernel
theorem dW_1294 : decode code 1294 = .ok (.iload 4, 2) := by decide +kernel
theorem dW_1296 : decode code 1296 = .ok (.iconst 3, 1) := by decide +kernel
theorem dW_1297 : decode code 1297 = .ok (.iadd, 1) := by decide +kernel
theorem dW_1298 : decode code 1298 = .ok (.iaload, 1) := by decide +kernel
theorem dW_1299 : decode code 1299 = .ok (.aload_n 0, 1) := by decide +kernel
theorem dW_1300 : decode code 1300 = .ok (.iload 4, 2) := by decide +kernel
theorem dW_1302 : decode code 1302 = .ok (.iconst 4, 1) := by decide +kernel
theorem dW_1303 : decode code 1303 = .ok (.iadd, 1) := by decide +kernel
theorem dW_1304 : decode code 1304 = .ok (.iaload, 1) := by decide +kernel
theorem dW_1305 : decode code 1305 = .ok (.invokevirtual 106, 3) := by decide +kernel
theorem dW_1308 : decode code 1308 = .ok (.pop, 1) := by decide +kernel
theorem dW_1309 : decode code 1309 = .ok (.aload_n 2, 1) := by decide +kernel
theorem dW_1310 : decode code 1310 = .ok (.aload_n 0, 1) := by decide +kernel
theorem dW_1311 : decode code 1311 = .ok (.iload 4, 2) := by decide +kernel
theorem dW_1313 : decode code 1313 = .ok (.iconst 1, 1) := by decide +kernel
theorem dW_1314 : decode code 1314 = .ok (.iadd, 1) := by decide +kernel
theorem dW_1315 : decode code 1315 = .ok (.iaload, 1) := by decide +kernel
theorem dW_1316 : decode code 1316 = .ok (.aload_n 0, 1) := by decide +kernel
theorem dW_1317 : decode code 1317 = .ok (.iload 4, 2) := by decide +kernel
theorem dW_1319 : decode code 1319 = .ok (.iconst 2, 1) := by decide +kernel
theorem dW_1320 : decode code 1320 = .ok (.iadd, 1) := by decide +kernel
theorem dW_1321 : decode code 1321 = .ok (.iaload, 1) := by decide +kernel
theorem dW_1322 : decode code 1322 = .ok (.aload_n 0, 1) := by decide +kernel
theorem dW_1323 : decode code 1323 = .ok (.iload 4, 2) := by decide +kernel
theorem dW_1325 : decode code 1325 = .ok (.iconst 3, 1) := by decide +kernel
theorem dW_1326 : decode code 1326 = .ok (.iadd, 1) := by decide +kernel
theorem dW_1327 : decode code 1327 = .ok (.iaload, 1) := by decide +kernel
theorem dW_1328 : decode code 1328 = .ok (.aload_n 0, 1) := by decide +kernel
theorem dW_1329 : decode code 1329 = .ok (.iload 4, 2) := by decide +kernel
theorem dW_1331 : decode code 1331 = .ok (.iconst 4, 1) := by decide +kernel
theorem dW_1332 : decode code 1332 = .ok (.iadd, 1) := by decide +kernel
theorem dW_1333 : decode code 1333 = .ok (.iaload, 1) := by decide +kernel
theorem dW_1334 : decode code 1334 = .ok (.invokevirtual 109, 3) := by decide +kernel
theorem dW_1337 : decode code 1337 = .ok (.pop, 1) := by decide +kernel
theorem dW_1338 : decode code 1338 = .ok (.goto 648, 3) := by decide +kernel
theorem dW_1341 : decode code 1341 = .ok (.aload_n 1, 1) := by decide +kernel
theorem dW_1342 : decode code 1342 = .ok (.aload_n 0, 1) := by decide +kernel
theorem dW_1343 : decode code 1343 = .ok (.iload 4, 2) := by decide +kernel
theorem dW_1345 : decode code 1345 = .ok (.iconst 1, 1) := by decide +kernel
theorem dW_1346 : decode code 1346 = .ok (.iadd, 1) := by decide +kernel
theorem dW_1347 : decode code 1347 = .ok (.iaload, 1) := by decide +kernel
theorem dW_1348 : decode code 1348 = .ok (.aload_n 0, 1) := by decide +kernel
theorem dW_1349 : decode code 1349 = .ok (.iload 4, 2) := by decide +kernel
theorem dW_1351 : decode code 1351 = .ok (.iconst 2, 1) := by decide +kernel
theorem dW_1352 : decode code 1352 = .ok (.iadd, 1) := by decide +kernel
theorem dW_1353 : decode code 1353 = .ok (.iaload, 1) := by decide +kernel
theorem dW_1354 : decode code 1354 = .ok (.aload_n 0, 1) := by decide +kernel
theorem dW_1355 : decode code 1355 = .ok (.iload 4, 2) := by decide +kernel
theorem dW_1357 : decode code 1357 = .ok (.iconst 3, 1) := by decide +kernel
theorem dW_1358 : decode code 1358 = .ok (.iadd, 1) := by decide +kernel
theorem dW_1359 : decode code 1359 = .ok (.iaload, 1) := by decide +kernel
theorem dW_1360 : decode code 1360 = .ok (.invokevirtual 110, 3) := by decide +kernel
theorem dW_1363 : decode code 1363 = .ok (.pop, 1) := by decide +kernel
theorem dW_1364 : decode code 1364 = .ok (.aload_n 2, 1) := by decide +kernel
theorem dW_1365 : decode code 1365 = .ok (.aload_n 0, 1) := by decide +kernel
theorem dW_1366 : decode code 1366 = .ok (.iload 4, 2) := by decide +kernel
theorem dW_1368 : decode code 1368 = .ok (.iconst 1, 1) := by decide +kernel
theorem dW_1369 : decode code 1369 = .ok (.iadd, 1) := by decide +kernel
theorem dW_1370 : decode code 1370 = .ok (.iaload, 1) := by decide +kernel
theorem dW_1371 : decode code 1371 = .ok (.aload_n 0, 1) := by decide +kernel
theorem dW_1372 : decode code 1372 = .ok (.iload 4, 2) := by decide +kernel
theorem dW_1374 : decode code 1374 = .ok (.iconst 2, 1) := by decide +kernel
theorem dW_1375 : decode code 1375 = .ok (.iadd, 1) := by decide +kernel
theorem dW_1376 : decode code 1376 = .ok (.iaload, 1) := by decide +kernel
theorem dW_1377 : decode code 1377 = .ok (.aload_n 0, 1) := by decide +kernel
theorem dW_1378 : decode code 1378 = .ok (.iload 4, 2) := by decide +kernel
theorem dW_1380 : decode code 1380 = .ok (.iconst 3, 1) := by decide +kernel
theorem dW_1381 : decode code 1381 = .ok (.iadd, 1) := by decide +kernel
theorem dW_1382 : decode code 1382 = .ok (.iaload, 1) := by decide +kernel
theorem dW_1383 : decode code 1383 = .ok (.invokevirtual 113, 3) := by decide +kernel
theorem dW_1386 : decode code 1386 = .ok (.pop, 1) := by decide +kernel
theorem dW_1387 : decode code 1387 = .ok (.goto 599, 3) := by decide +kernel
theorem dW_1390 : decode code 1390 = .ok (.aload_n 1, 1) := by decide +kernel
theorem dW_1391 : decode code 1391 = .ok (.aload_n 0, 1) := by decide +kernel
theorem dW_1392 : decode code 1392 = .ok (.iload 4, 2) := by decide +kernel
theorem dW_1394 : decode code 1394 = .ok (.iconst 1, 1) := by decide +kernel
theorem dW_1395 : decode code 1395 = .ok (.iadd, 1) := by decide +kernel
theorem dW_1396 : decode code 1396 = .ok (.iaload, 1) := by decide +kernel
theorem dW_1397 : decode code 1397 = .ok (.aload_n 0, 1) := by decide +kernel
theorem dW_1398 : decode code 1398 = .ok (.iload 4, 2) := by decide +kernel
theorem dW_1400 : decode code 1400 = .ok (.iconst 2, 1) := by decide +kernel
theorem dW_1401 : decode code 1401 = .ok (.iadd, 1) := by decide +kernel
theorem dW_1402 : decode code 1402 = .ok (.iaload, 1) := by decide +kernel
theorem dW_1403 : decode code 1403 = .ok (.aload_n 0, 1) := by decide +kernel
theorem dW_1404 : decode code 1404 = .ok (.iload 4, 2) := by decide +kernel
theorem dW_1406 : decode code 1406 = .ok (.iconst 3, 1) := by decide +kernel
theorem dW_1407 : decode code 1407 = .ok (.iadd, 1) := by decide +kernel
theorem dW_1408 : decode code 1408 = .ok (.iaload, 1) := by decide +kernel
theorem dW_1409 : decode code 1409 = .ok (.aload_n 0, 1) := by decide +kernel
theorem dW_1410 : decode code 1410 = .ok (.iload 4, 2) := by decide +kernel
theorem dW_1412 : decode code 1412 = .ok (.iconst 4, 1) := by decide +kernel
theorem dW_1413 : decode code 1413 = .ok (.iadd, 1) := by decide +kernel
theorem dW_1414 : decode code 1414 = .ok (.iaload, 1) := by decide +kernel
theorem dW_1415 : decode code 1415 = .ok (.invokevirtual 114, 3) := by decide +kernel
theorem dW_1418 : decode code 1418 = .ok (.pop, 1) := by decide +kernel
theorem dW_1419 : decode code 1419 = .ok (.aload_n 2, 1) := by decide +kernel
theorem dW_1420 : decode code 1420 = .ok (.aload_n 0, 1) := by decide +kernel
theorem dW_1421 : decode code 1421 = .ok (.iload 4, 2) := by decide +kernel
theorem dW_1423 : decode code 1423 = .ok (.iconst 1, 1) := by decide +kernel
theorem dW_1424 : decode code 1424 = .ok (.iadd, 1) := by decide +kernel
theorem dW_1425 : decode code 1425 = .ok (.iaload, 1) := by decide +kernel
theorem dW_1426 : decode code 1426 = .ok (.aload_n 0, 1) := by decide +kernel
theorem dW_1427 : decode code 1427 = .ok (.iload 4, 2) := by decide +kernel
theorem dW_1429 : decode code 1429 = .ok (.iconst 2, 1) := by decide +kernel
theorem dW_1430 : decode code 1430 = .ok (.iadd, 1) := by decide +kernel
theorem dW_1431 : decode code 1431 = .ok (.iaload, 1) := by decide +kernel
theorem dW_1432 : decode code 1432 = .ok (.aload_n 0, 1) := by decide +kernel
theorem dW_1433 : decode code 1433 = .ok (.iload 4, 2) := by decide +kernel
theorem dW_1435 : decode code 1435 = .ok (.iconst 3, 1) := by decide +kernel
theorem dW_1436 : decode code 1436 = .ok (.iadd, 1) := by decide +kernel
theorem dW_1437 : decode code 1437 = .ok (.iaload, 1) := by decide +kernel
theorem dW_1438 : decode code 1438 = .ok (.aload_n 0, 1) := by decide +kernel
theorem dW_1439 : decode code 1439 = .ok (.iload 4, 2) := by decide +kernel
theorem dW_1441 : decode code 1441 = .ok (.iconst 4, 1) := by decide +kernel
theorem dW_1442 : decode code 1442 = .ok (.iadd, 1) := by decide +kernel
theorem dW_1443 : decode code 1443 = .ok (.iaload, 1) := by decide +kernel
theorem dW_1444 : decode code 1444 = .ok (.invokevirtual 117, 3) := by decide +kernel
theorem dW_1447 : decode code 1447 = .ok (.pop, 1) := by decide +kernel
theorem dW_1448 : decode code 1448 = .ok (.goto 538, 3) := by decide +kernel
theorem dW_1451 : decode code 1451 = .ok (.aload_n 1, 1) := by decide +kernel
theorem dW_1452 : decode code 1452 = .ok (.aload_n 0, 1) := by decide +kernel
theorem dW_1453 : decode code 1453 = .ok (.iload 4, 2) := by decide +kernel
theorem dW_1455 : decode code 1455 = .ok (.iconst 1, 1) := by decide +kernel
theorem dW_1456 : decode code 1456 = .ok (.iadd, 1) := by decide +kernel
theorem dW_1457 : decode code 1457 = .ok (.iaload, 1) := by decide +kernel
theorem dW_1458 : decode code 1458 = .ok (.aload_n 0, 1) := by decide +kernel
theorem dW_1459 : decode code 1459 = .ok (.iload 4, 2) := by decide +kernel
theorem dW_1461 : decode code 1461 = .ok (.iconst 2, 1) := by decide +kernel
theorem dW_1462 : decode code 1462 = .ok (.iadd, 1) := by decide +kernel
theorem dW_1463 : decode code 1463 = .ok (.iaload, 1) := by decide +kernel
theorem dW_1464 : decode code 1464 = .ok (.aload_n 0, 1) := by decide +kernel
theorem dW_1465 : decode code 1465 = .ok (.iload 4, 2) := by decide +kernel
theorem dW_1467 : decode code 1467 = .ok (.iconst 3, 1) := by decide +kernel
theorem dW_1468 : decode code 1468 = .ok (.iadd, 1) := by decide +kernel
theorem dW_1469 : decode code 1469 = .ok (.iaload, 1) := by decide +kernel
theorem dW_1470 : decode code 1470 = .ok (.aload_n 0, 1) := by decide +kernel
theorem dW_1471 : decode code 1471 = .ok (.iload 4, 2) := by decide +kernel
theorem dW_1473 : decode code 1473 = .ok (.iconst 4, 1) := by decide +kernel
theorem dW_1474 : decode code 1474 = .ok (.iadd, 1) := by decide +kernel
theorem dW_1475 : decode code 1475 = .ok (.iaload, 1) := by decide +kernel
theorem dW_1476 : decode code 1476 = .ok (.ifCond .eq 7, 3) := by decide +kernel
theorem dW_1479 : decode code 1479 = .ok (.iconst 1, 1) := by decide +kernel
theorem dW_1480 : decode code 1480 = .ok (.goto 4, 3) := by decide +kernel
theorem dW_1483 : decode code 1483 = .ok (.iconst 0, 1) := by decide +kernel
theorem dW_1484 : decode code 1484 = .ok (.invokevirtual 118, 3) := by decide +kernel
theorem dW_1487 : decode code 1487 = .ok (.pop, 1) := by decide +kernel
theorem dW_1488 : decode code 1488 = .ok (.aload_n 2, 1) := by decide +kernel
theorem dW_1489 : decode code 1489 = .ok (.aload_n 0, 1) := by decide +kernel
theorem dW_1490 : decode code 1490 = .ok (.iload 4, 2) := by decide +kernel
theorem dW_1492 : decode code 1492 = .ok (.iconst 1, 1) := by decide +kernel
theorem dW_1493 : decode code 1493 = .ok (.iadd, 1) := by decide +kernel
theorem dW_1494 : decode code 1494 = .ok (.iaload, 1) := by decide +kernel
theorem dW_1495 : decode code 1495 = .ok (.aload_n 0, 1) := by decide +kernel
theorem dW_1496 : decode code 1496 = .ok (.iload 4, 2) := by decide +kernel
theorem dW_1498 : decode code 1498 = .ok (.iconst 2, 1) := by decide +kernel
theorem dW_1499 : decode code 1499 = .ok (.iadd, 1) := by decide +kernel
theorem dW_1500 : decode code 1500 = .ok (.iaload, 1) := by decide +kernel
theorem dW_1501 : decode code 1501 = .ok (.aload_n 0, 1) := by decide +kernel
theorem dW_1502 : decode code 1502 = .ok (.iload 4, 2) := by decide +kernel
theorem dW_1504 : decode code 1504 = .ok (.iconst 3, 1) := by decide +kernel
theorem dW_1505 : decode code 1505 = .ok (.iadd, 1) := by decide +kernel
theorem dW_1506 : decode code 1506 = .ok (.iaload, 1) := by decide +kernel
theorem dW_1507 : decode code 1507 = .ok (.aload_n 0, 1) := by decide +kernel
theorem dW_1508 : decode code 1508 = .ok (.iload 4, 2) := by decide +kernel
theorem dW_1510 : decode code 1510 = .ok (.iconst 4, 1) := by decide +kernel
theorem dW_1511 : decode code 1511 = .ok (.iadd, 1) := by decide +kernel
theorem dW_1512 : decode code 1512 = .ok (.iaload, 1) := by decide +kernel
theorem dW_1513 : decode code 1513 = .ok (.ifCond .eq 7, 3) := by decide +kernel
theorem dW_1516 : decode code 1516 = .ok (.iconst 1, 1) := by decide +kernel
theorem dW_1517 : decode code 1517 = .ok (.goto 4, 3) := by decide +kernel
theorem dW_1520 : decode code 1520 = .ok (.iconst 0, 1) := by decide +kernel
theorem dW_1521 : decode code 1521 = .ok (.invokevirtual 122, 3) := by decide +kernel
theorem dW_1524 : decode code 1524 = .ok (.pop, 1) := by decide +kernel
theorem dW_1525 : decode code 1525 = .ok (.goto 461, 3) := by decide +kernel
theorem dW_1528 : decode code 1528 = .ok (.aload_n 1, 1) := by decide +kernel
theorem dW_1529 : decode code 1529 = .ok (.aload_n 0, 1) := by decide +kernel
theorem dW_1530 : decode code 1530 = .ok (.iload 4, 2) := by decide +kernel
theorem dW_1532 : decode code 1532 = .ok (.iconst 1, 1) := by decide +kernel
theorem dW_1533 : decode code 1533 = .ok (.iadd, 1) := by decide +kernel
theorem dW_1534 : decode code 1534 = .ok (.iaload, 1) := by decide +kernel
theorem dW_1535 : decode code 1535 = .ok (.aload_n 0, 1) := by decide +kernel
theorem dW_1536 : decode code 1536 = .ok (.iload 4, 2) := by decide +kernel
theorem dW_1538 : decode code 1538 = .ok (.iconst 2, 1) := by decide +kernel
theorem dW_1539 : decode code 1539 = .ok (.iadd, 1) := by decide +kernel
theorem dW_1540 : decode code 1540 = .ok (.iaload, 1) := by decide +kernel
theorem dW_1541 : decode code 1541 = .ok (.aload_n 0, 1) := by decide +kernel
theorem dW_1542 : decode code 1542 = .ok (.iload 4, 2) := by decide +kernel
theorem dW_1544 : decode code 1544 = .ok (.iconst 3, 1) := by decide +kernel
theorem dW_1545 : decode code 1545 = .ok (.iadd, 1) := by decide +kernel
theorem dW_1546 : decode code 1546 = .ok (.iaload, 1) := by decide +kernel
theorem dW_1547 : decode code 1547 = .ok (.aload_n 0, 1) := by decide +kernel
theorem dW_1548 : decode code 1548 = .ok (.iload 4, 2) := by decide +kernel
theorem dW_1550 : decode code 1550 = .ok (.iconst 4, 1) := by decide +kernel
theorem dW_1551 : decode code 1551 = .ok (.iadd, 1) := by decide +kernel
theorem dW_1552 : decode code 1552 = .ok (.iaload, 1) := by decide +kernel
theorem dW_1553 : decode code 1553 = .ok (.invokevirtual 123, 3) := by decide +kernel
theorem dW_1556 : decode code 1556 = .ok (.pop2, 1) := by decide +kernel
theorem dW_1557 : decode code 1557 = .ok (.aload_n 2, 1) := by decide +kernel
theorem dW_1558 : decode code 1558 = .ok (.aload_n 0, 1) := by decide +kernel
theorem dW_1559 : decode code 1559 = .ok (.iload 4, 2) := by decide +kernel
theorem dW_1561 : decode code 1561 = .ok (.iconst 1, 1) := by decide +kernel
theorem dW_1562 : decode code 1562 = .ok (.iadd, 1) := by decide +kernel
theorem dW_1563 : decode code 1563 = .ok (.iaload, 1) := by decide +kernel
theorem dW_1564 : decode code 1564 = .ok (.aload_n 0, 1) := by decide +kernel
theorem dW_1565 : decode code 1565 = .ok (.iload 4, 2) := by decide +kernel
theorem dW_1567 : decode code 1567 = .ok (.iconst 2, 1) := by decide +kernel
theorem dW_1568 : decode code 1568 = .ok (.iadd, 1) := by decide +kernel
theorem dW_1569 : decode code 1569 = .ok (.iaload, 1) := by decide +kernel
theorem dW_1570 : decode code 1570 = .ok (.aload_n 0, 1) := by decide +kernel
theorem dW_1571 : decode code 1571 = .ok (.iload 4, 2) := by decide +kernel
theorem dW_1573 : decode code 1573 = .ok (.iconst 3, 1) := by decide +kernel
theorem dW_1574 : decode code 1574 = .ok (.iadd, 1) := by decide +kernel
theorem dW_1575 : decode code 1575 = .ok (.iaload, 1) := by decide +kernel
theorem dW_1576 : decode code 1576 = .ok (.aload_n 0, 1) := by decide +kernel
theorem dW_1577 : decode code 1577 = .ok (.iload 4, 2) := by decide +kernel
theorem dW_1579 : decode code 1579 = .ok (.iconst 4, 1) := by decide +kernel
theorem dW_1580 : decode code 1580 = .ok (.iadd, 1) := by decide +kernel
theorem dW_1581 : decode code 1581 = .ok (.iaload, 1) := by decide +kernel
theorem dW_1582 : decode code 1582 = .ok (.invokevirtual 127, 3) := by decide +kernel
theorem dW_1585 : decode code 1585 = .ok (.pop2, 1) := by decide +kernel
theorem dW_1586 : decode code 1586 = .ok (.goto 400, 3) := by decide +kernel
theorem dW_1589 : decode code 1589 = .ok (.aload_n 1, 1) := by decide +kernel
theorem dW_1590 : decode code 1590 = .ok (.aload_n 0, 1) := by decide +kernel
theorem dW_1591 : decode code 1591 = .ok (.iload 4, 2) := by decide +kernel
theorem dW_1593 : decode code 1593 = .ok (.iconst 1, 1) := by decide +kernel
theorem dW_1594 : decode code 1594 = .ok (.iadd, 1) := by decide +kernel
theorem dW_1595 : decode code 1595 = .ok (.iaload, 1) := by decide +kernel
theorem dW_1596 : decode code 1596 = .ok (.aload_n 0, 1) := by decide +kernel
theorem dW_1597 : decode code 1597 = .ok (.iload 4, 2) := by decide +kernel
theorem dW_1599 : decode code 1599 = .ok (.iconst 2, 1) := by decide +kernel
theorem dW_1600 : decode code 1600 = .ok (.iadd, 1) := by decide +kernel
theorem dW_1601 : decode code 1601 = .ok (.iaload, 1) := by decide +kernel
theorem dW_1602 : decode code 1602 = .ok (.aload_n 0, 1) := by decide +kernel
theorem dW_1603 : decode code 1603 = .ok (.iload 4, 2) := by decide +kernel
theorem dW_1605 : decode code 1605 = .ok (.iconst 3, 1) := by decide +kernel
theorem dW_1606 : decode code 1606 = .ok (.iadd, 1) := by decide +kernel
theorem dW_1607 : decode code 1607 = .ok (.iaload, 1) := by decide +kernel
theorem dW_1608 : decode code 1608 = .ok (.aload_n 0, 1) := by decide +kernel
theorem dW_1609 : decode code 1609 = .ok (.iload 4, 2) := by decide +kernel
theorem dW_1611 : decode code 1611 = .ok (.iconst 4, 1) := by decide +kernel
theorem dW_1612 : decode code 1612 = .ok (.iadd, 1) := by decide +kernel
theorem dW_1613 : decode code 1613 = .ok (.iaload, 1) := by decide +kernel
theorem dW_1614 : decode code 1614 = .ok (.invokevirtual 128, 3) := by decide +kernel
theorem dW_1617 : decode code 1617 = .ok (.pop, 1) := by decide +kernel
theorem dW_1618 : decode code 1618 = .ok (.aload_n 2, 1) := by decide +kernel
theorem dW_1619 : decode code 1619 = .ok (.aload_n 0, 1) := by decide +kernel
theorem dW_1620 : decode code 1620 = .ok (.iload 4, 2) := by decide +kernel
theorem dW_1622 : decode code 1622 = .ok (.iconst 1, 1) := by decide +kernel
theorem dW_1623 : decode code 1623 = .ok (.iadd, 1) := by decide +kernel
theorem dW_1624 : decode code 1624 = .ok (.iaload, 1) := by decide +kernel
theorem dW_1625 : decode code 1625 = .ok (.aload_n 0, 1) := by decide +kernel
theorem dW_1626 : decode code 1626 = .ok (.iload 4, 2) := by decide +kernel
theorem dW_1628 : decode code 1628 = .ok (.iconst 2, 1) := by decide +kernel
theorem dW_1629 : decode code 1629 = .ok (.iadd, 1) := by decide +kernel
theorem dW_1630 : decode code 1630 = .ok (.iaload, 1) := by decide +kernel
theorem dW_1631 : decode code 1631 = .ok (.aload_n 0, 1) := by decide +kernel
theorem dW_1632 : decode code 1632 = .ok (.iload 4, 2) := by decide +kernel
theorem dW_1634 : decode code 1634 = .ok (.iconst 3, 1) := by decide +kernel
theorem dW_1635 : decode code 1635 = .ok (.iadd, 1) := by decide +kernel
theorem dW_1636 : decode code 1636 = .ok (.iaload, 1) := by decide +kernel
theorem dW_1637 : decode code 1637 = .ok (.aload_n 0, 1) := by decide +kernel
theorem dW_1638 : decode code 1638 = .ok (.iload 4, 2) := by decide +kernel
theorem dW_1640 : decode code 1640 = .ok (.iconst 4, 1) := by decide +kernel
theorem dW_1641 : decode code 1641 = .ok (.iadd, 1) := by decide +kernel
theorem dW_1642 : decode code 1642 = .ok (.iaload, 1) := by decide +kernel
theorem dW_1643 : decode code 1643 = .ok (.invokevirtual 131, 3) := by decide +kernel
theorem dW_1646 : decode code 1646 = .ok (.pop, 1) := by decide +kernel
theorem dW_1647 : decode code 1647 = .ok (.goto 339, 3) := by decide +kernel
theorem dW_1650 : decode code 1650 = .ok (.aload_n 1, 1) := by decide +kernel
theorem dW_1651 : decode code 1651 = .ok (.aload_n 0, 1) := by decide +kernel
theorem dW_1652 : decode code 1652 = .ok (.iload 4, 2) := by decide +kernel
theorem dW_1654 : decode code 1654 = .ok (.iconst 1, 1) := by decide +kernel
theorem dW_1655 : decode code 1655 = .ok (.iadd, 1) := by decide +kernel
theorem dW_1656 : decode code 1656 = .ok (.iaload, 1) := by decide +kernel
theorem dW_1657 : decode code 1657 = .ok (.aload_n 0, 1) := by decide +kernel
theorem dW_1658 : decode code 1658 = .ok (.iload 4, 2) := by decide +kernel
theorem dW_1660 : decode code 1660 = .ok (.iconst 2, 1) := by decide +kernel
theorem dW_1661 : decode code 1661 = .ok (.iadd, 1) := by decide +kernel
theorem dW_1662 : decode code 1662 = .ok (.iaload, 1) := by decide +kernel
theorem dW_1663 : decode code 1663 = .ok (.invokevirtual 132, 3) := by decide +kernel
theorem dW_1666 : decode code 1666 = .ok (.pop, 1) := by decide +kernel
theorem dW_1667 : decode code 1667 = .ok (.aload_n 2, 1) := by decide +kernel
theorem dW_1668 : decode code 1668 = .ok (.aload_n 0, 1) := by decide +kernel
theorem dW_1669 : decode code 1669 = .ok (.iload 4, 2) := by decide +kernel
theorem dW_1671 : decode code 1671 = .ok (.iconst 1, 1) := by decide +kernel
theorem dW_1672 : decode code 1672 = .ok (.iadd, 1) := by decide +kernel
theorem dW_1673 : decode code 1673 = .ok (.iaload, 1) := by decide +kernel
theorem dW_1674 : decode code 1674 = .ok (.aload_n 0, 1) := by decide +kernel
theorem dW_1675 : decode code 1675 = .ok (.iload 4, 2) := by decide +kernel
theorem dW_1677 : decode code 1677 = .ok (.iconst 2, 1) := by decide +kernel
theorem dW_1678 : decode code 1678 = .ok (.iadd, 1) := by decide +kernel
theorem dW_1679 : decode code 1679 = .ok (.iaload, 1) := by decide +kernel
theorem dW_1680 : decode code 1680 = .ok (.invokevirtual 135, 3) := by decide +kernel
theorem dW_1683 : decode code 1683 = .ok (.pop, 1) := by decide +kernel
theorem dW_1684 : decode code 1684 = .ok (.goto 302, 3) := by decide +kernel
theorem dW_1687 : decode code 1687 = .ok (.aload_n 1, 1) := by decide +kernel
theorem dW_1688 : decode code 1688 = .ok (.aload_n 0, 1) := by decide +kernel
theorem dW_1689 : decode code 1689 = .ok (.iload 4, 2) := by decide +kernel
theorem dW_1691 : decode code 1691 = .ok (.iconst 1, 1) := by decide +kernel
theorem dW_1692 : decode code 1692 = .ok (.iadd, 1) := by decide +kernel
theorem dW_1693 : decode code 1693 = .ok (.iaload, 1) := by decide +kernel
theorem dW_1694 : decode code 1694 = .ok (.aload_n 0, 1) := by decide +kernel
theorem dW_1695 : decode code 1695 = .ok (.iload 4, 2) := by decide +kernel
theorem dW_1697 : decode code 1697 = .ok (.iconst 2, 1) := by decide +kernel
theorem dW_1698 : decode code 1698 = .ok (.iadd, 1) := by decide +kernel
theorem dW_1699 : decode code 1699 = .ok (.iaload, 1) := by decide +kernel
theorem dW_1700 : decode code 1700 = .ok (.aload_n 0, 1) := by decide +kernel
theorem dW_1701 : decode code 1701 = .ok (.iload 4, 2) := by decide +kernel
theorem dW_1703 : decode code 1703 = .ok (.iconst 3, 1) := by decide +kernel
theorem dW_1704 : decode code 1704 = .ok (.iadd, 1) := by decide +kernel
theorem dW_1705 : decode code 1705 = .ok (.iaload, 1) := by decide +kernel
theorem dW_1706 : decode code 1706 = .ok (.invokevirtual 136, 3) := by decide +kernel
theorem dW_1709 : decode code 1709 = .ok (.pop, 1) := by decide +kernel
theorem dW_1710 : decode code 1710 = .ok (.aload_n 2, 1) := by decide +kernel
theorem dW_1711 : decode code 1711 = .ok (.aload_n 0, 1) := by decide +kernel
theorem dW_1712 : decode code 1712 = .ok (.iload 4, 2) := by decide +kernel
theorem dW_1714 : decode code 1714 = .ok (.iconst 1, 1) := by decide +kernel
theorem dW_1715 : decode code 1715 = .ok (.iadd, 1) := by decide +kernel
theorem dW_1716 : decode code 1716 = .ok (.iaload, 1) := by decide +kernel
theorem dW_1717 : decode code 1717 = .ok (.aload_n 0, 1) := by decide +kernel
theorem dW_1718 : decode code 1718 = .ok (.iload 4, 2) := by decide +kernel
theorem dW_1720 : decode code 1720 = .ok (.iconst 2, 1) := by decide +kernel
theorem dW_1721 : decode code 1721 = .ok (.iadd, 1) := by decide +kernel
theorem dW_1722 : decode code 1722 = .ok (.iaload, 1) := by decide +kernel
theorem dW_1723 : decode code 1723 = .ok (.aload_n 0, 1) := by decide +kernel
theorem dW_1724 : decode code 1724 = .ok (.iload 4, 2) := by decide +kernel
theorem dW_1726 : decode code 1726 = .ok (.iconst 3, 1) := by decide +kernel
theorem dW_1727 : decode code 1727 = .ok (.iadd, 1) := by decide +kernel
theorem dW_1728 : decode code 1728 = .ok (.iaload, 1) := by decide +kernel
theorem dW_1729 : decode code 1729 = .ok (.invokevirtual 139, 3) := by decide +kernel
theorem dW_1732 : decode code 1732 = .ok (.pop, 1) := by decide +kernel
theorem dW_1733 : decode code 1733 = .ok (.goto 253, 3) := by decide +kernel
theorem dW_1736 : decode code 1736 = .ok (.aload_n 1, 1) := by decide +kernel
theorem dW_1737 : decode code 1737 = .ok (.aload_n 0, 1) := by decide +kernel
theorem dW_1738 : decode code 1738 = .ok (.iload 4, 2) := by decide +kernel
theorem dW_1740 : decode code 1740 = .ok (.iconst 1, 1) := by decide +kernel
theorem dW_1741 : decode code 1741 = .ok (.iadd, 1) := by decide +kernel
theorem dW_1742 : decode code 1742 = .ok (.iaload, 1) := by decide +kernel
theorem dW_1743 : decode code 1743 = .ok (.aload_n 0, 1) := by decide +kernel
theorem dW_1744 : decode code 1744 = .ok (.iload 4, 2) := by decide +kernel
theorem dW_1746 : decode code 1746 = .ok (.iconst 2, 1) := by decide +kernel
theorem dW_1747 : decode code 1747 = .ok (.iadd, 1) := by decide +kernel
theorem dW_1748 : decode code 1748 = .ok (.iaload, 1) := by decide +kernel
theorem dW_1749 : decode code 1749 = .ok (.aload_n 0, 1) := by decide +kernel
theorem dW_1750 : decode code 1750 = .ok (.iload 4, 2) := by decide +kernel
theorem dW_1752 : decode code 1752 = .ok (.iconst 3, 1) := by decide +kernel
theorem dW_1753 : decode code 1753 = .ok (.iadd, 1) := by decide +kernel
theorem dW_1754 : decode code 1754 = .ok (.iaload, 1) := by decide +kernel
theorem dW_1755 : decode code 1755 = .ok (.invokevirtual 140, 3) := by decide +kernel
theorem dW_1758 : decode code 1758 = .ok (.pop, 1) := by decide +kernel
theorem dW_1759 : decode code 1759 = .ok (.aload_n 2, 1) := by decide +kernel
theorem dW_1760 : decode code 1760 = .ok (.aload_n 0, 1) := by decide +kernel
theorem dW_1761 : decode code 1761 = .ok (.iload 4, 2) := by decide +kernel
theorem dW_1763 : decode code 1763 = .ok (.iconst 1, 1) := by decide +kernel
theorem dW_1764 : decode code 1764 = .ok (.iadd, 1) := by decide +kernel
theorem dW_1765 : decode code 1765 = .ok (.iaload, 1) := by decide +kernel
theorem dW_1766 : decode code 1766 = .ok (.aload_n 0, 1) := by decide +kernel
theorem dW_1767 : decode code 1767 = .ok (.iload 4, 2) := by decide +kernel
theorem dW_1769 : decode code 1769 = .ok (.iconst 2, 1) := by decide +kernel
theorem dW_1770 : decode code 1770 = .ok (.iadd, 1) := by decide +kernel
theorem dW_1771 : decode code 1771 = .ok (.iaload, 1) := by decide +kernel
theorem dW_1772 : decode code 1772 = .ok (.aload_n 0, 1) := by decide +kernel
theorem dW_1773 : decode code 1773 = .ok (.iload 4, 2) := by decide +kernel
theorem dW_1775 : decode code 1775 = .ok (.iconst 3, 1) := by decide +kernel
theorem dW_1776 : decode code 1776 = .ok (.iadd, 1) := by decide +kernel
theorem dW_1777 : decode code 1777 = .ok (.iaload, 1) := by decide +kernel
theorem dW_1778 : decode code 1778 = .ok (.invokevirtual 143, 3) := by decide +kernel
theorem dW_1781 : decode code 1781 = .ok (.pop, 1) := by decide +kernel
theorem dW_1782 : decode code 1782 = .ok (.goto 204, 3) := by decide +kernel
theorem dW_1785 : decode code 1785 = .ok (.aload_n 1, 1) := by decide +kernel
theorem dW_1786 : decode code 1786 = .ok (.aload_n 0, 1) := by decide +kernel
theorem dW_1787 : decode code 1787 = .ok (.iload 4, 2) := by decide +kernel
theorem dW_1789 : decode code 1789 = .ok (.iconst 1, 1) := by decide +kernel
theorem dW_1790 : decode code 1790 = .ok (.iadd, 1) := by decide +kernel
theorem dW_1791 : decode code 1791 = .ok (.iaload, 1) := by decide +kernel
theorem dW_1792 : decode code 1792 = .ok (.aload_n 0, 1) := by decide +kernel
theorem dW_1793 : decode code 1793 = .ok (.iload 4, 2) := by decide +kernel
theorem dW_1795 : decode code 1795 = .ok (.iconst 2, 1) := by decide +kernel
theorem dW_1796 : decode code 1796 = .ok (.iadd, 1) := by decide +kernel
theorem dW_1797 : decode code 1797 = .ok (.iaload, 1) := by decide +kernel
theorem dW_1798 : decode code 1798 = .ok (.invokevirtual 144, 3) := by decide +kernel
theorem dW_1801 : decode code 1801 = .ok (.pop, 1) := by decide +kernel
theorem dW_1802 : decode code 1802 = .ok (.aload_n 2, 1) := by decide +kernel
theorem dW_1803 : decode code 1803 = .ok (.aload_n 0, 1) := by decide +kernel
theorem dW_1804 : decode code 1804 = .ok (.iload 4, 2) := by decide +kernel
theorem dW_1806 : decode code 1806 = .ok (.iconst 1, 1) := by decide +kernel
theorem dW_1807 : decode code 1807 = .ok (.iadd, 1) := by decide +kernel
theorem dW_1808 : decode code 1808 = .ok (.iaload, 1) := by decide +kernel
theorem dW_1809 : decode code 1809 = .ok (.aload_n 0, 1) := by decide +kernel
theorem dW_1810 : decode code 1810 = .ok (.iload 4, 2) := by decide +kernel
theorem dW_1812 : decode code 1812 = .ok (.iconst 2, 1) := by decide +kernel
theorem dW_1813 : decode code 1813 = .ok (.iadd, 1) := by decide +kernel
theorem dW_1814 : decode code 1814 = .ok (.iaload, 1) := by decide +kernel
theorem dW_1815 : decode code 1815 = .ok (.invokevirtual 147, 3) := by decide +kernel
theorem dW_1818 : decode code 1818 = .ok (.pop, 1) := by decide +kernel
theorem dW_1819 : decode code 1819 = .ok (.goto 167, 3) := by decide +kernel
theorem dW_1822 : decode code 1822 = .ok (.aload_n 1, 1) := by decide +kernel
theorem dW_1823 : decode code 1823 = .ok (.aload_n 0, 1) := by decide +kernel
theorem dW_1824 : decode code 1824 = .ok (.iload 4, 2) := by decide +kernel
theorem dW_1826 : decode code 1826 = .ok (.iconst 1, 1) := by decide +kernel
theorem dW_1827 : decode code 1827 = .ok (.iadd, 1) := by decide +kernel
theorem dW_1828 : decode code 1828 = .ok (.iaload, 1) := by decide +kernel
theorem dW_1829 : decode code 1829 = .ok (.aload_n 0, 1) := by decide +kernel
theorem dW_1830 : decode code 1830 = .ok (.iload 4, 2) := by decide +kernel
theorem dW_1832 : decode code 1832 = .ok (.iconst 2, 1) := by decide +kernel
theorem dW_1833 : decode code 1833 = .ok (.iadd, 1) := by decide +kernel
theorem dW_1834 : decode code 1834 = .ok (.iaload, 1) := by decide +kernel
theorem dW_1835 : decode code 1835 = .ok (.invokevirtual 148, 3) := by decide +kernel
theorem dW_1838 : decode code 1838 = .ok (.pop, 1) := by decide +kernel
theorem dW_1839 : decode code 1839 = .ok (.aload_n 2, 1) := by decide +kernel
theorem dW_1840 : decode code 1840 = .ok (.aload_n 0, 1) := by decide +kernel
theorem dW_1841 : decode code 1841 = .ok (.iload 4, 2) := by decide +kernel
theorem dW_1843 : decode code 1843 = .ok (.iconst 1, 1) := by decide +kernel
theorem dW_1844 : decode code 1844 = .ok (.iadd, 1) := by decide +kernel
theorem dW_1845 : decode code 1845 = .ok (.iaload, 1) := by decide +kernel
theorem dW_1846 : decode code 1846 = .ok (.aload_n 0, 1) := by decide +kernel
theorem dW_1847 : decode code 1847 = .ok (.iload 4, 2) := by decide +kernel
theorem dW_1849 : decode code 1849 = .ok (.iconst 2, 1) := by decide +kernel
theorem dW_1850 : decode code 1850 = .ok (.iadd, 1) := by decide +kernel
theorem dW_1851 : decode code 1851 = .ok (.iaload, 1) := by decide +kernel
theorem dW_1852 : decode code 1852 = .ok (.invokevirtual 151, 3) := by decide +kernel
theorem dW_1855 : decode code 1855 = .ok (.pop, 1) := by decide +kernel
theorem dW_1856 : decode code 1856 = .ok (.goto 130, 3) := by decide +kernel
theorem dW_1859 : decode code 1859 = .ok (.aload_n 1, 1) := by decide +kernel
theorem dW_1860 : decode code 1860 = .ok (.aload_n 0, 1) := by decide +kernel
theorem dW_1861 : decode code 1861 = .ok (.iload 4, 2) := by decide +kernel
theorem dW_1863 : decode code 1863 = .ok (.iconst 1, 1) := by decide +kernel
theorem dW_1864 : decode code 1864 = .ok (.iadd, 1) := by decide +kernel
theorem dW_1865 : decode code 1865 = .ok (.iaload, 1) := by decide +kernel
theorem dW_1866 : decode code 1866 = .ok (.aload_n 0, 1) := by decide +kernel
theorem dW_1867 : decode code 1867 = .ok (.iload 4, 2) := by decide +kernel
theorem dW_1869 : decode code 1869 = .ok (.iconst 2, 1) := by decide +kernel
theorem dW_1870 : decode code 1870 = .ok (.iadd, 1) := by decide +kernel
theorem dW_1871 : decode code 1871 = .ok (.iaload, 1) := by decide +kernel
theorem dW_1872 : decode code 1872 = .ok (.aload_n 0, 1) := by decide +kernel
theorem dW_1873 : decode code 1873 = .ok (.iload 4, 2) := by decide +kernel
theorem dW_1875 : decode code 1875 = .ok (.iconst 3, 1) := by decide +kernel
theorem dW_1876 : decode code 1876 = .ok (.iadd, 1) := by decide +kernel
theorem dW_1877 : decode code 1877 = .ok (.iaload, 1) := by decide +kernel
theorem dW_1878 : decode code 1878 = .ok (.invokevirtual 152, 3) := by decide +kernel
theorem dW_1881 : decode code 1881 = .ok (.pop, 1) := by decide +kernel
theorem dW_1882 : decode code 1882 = .ok (.aload_n 2, 1) := by decide +kernel
theorem dW_1883 : decode code 1883 = .ok (.aload_n 0, 1) := by decide +kernel
theorem dW_1884 : decode code 1884 = .ok (.iload 4, 2) := by decide +kernel
theorem dW_1886 : decode code 1886 = .ok (.iconst 1, 1) := by decide +kernel
theorem dW_1887 : decode code 1887 = .ok (.iadd, 1) := by decide +kernel
theorem dW_1888 : decode code 1888 = .ok (.iaload, 1) := by decide +kernel
theorem dW_1889 : decode code 1889 = .ok (.aload_n 0, 1) := by decide +kernel
theorem dW_1890 : decode code 1890 = .ok (.iload 4, 2) := by decide +kernel
theorem dW_1892 : decode code 1892 = .ok (.iconst 2, 1) := by decide +kernel
theorem dW_1893 : decode code 1893 = .ok (.iadd, 1) := by decide +kernel
theorem dW_1894 : decode code 1894 = .ok (.iaload, 1) := by decide +kernel
theorem dW_1895 : decode code 1895 = .ok (.aload_n 0, 1) := by decide +kernel
theorem dW_1896 : decode code 1896 = .ok (.iload 4, 2) := by decide +kernel
theorem dW_1898 : decode code 1898 = .ok (.iconst 3, 1) := by decide +kernel
theorem dW_1899 : decode code 1899 = .ok (.iadd, 1) := by decide +kernel
theorem dW_1900 : decode code 1900 = .ok (.iaload, 1) := by decide +kernel
theorem dW_1901 : decode code 1901 = .ok (.invokevirtual 155, 3) := by decide +kernel
theorem dW_1904 : decode code 1904 = .ok (.pop, 1) := by decide +kernel
theorem dW_1905 : decode code 1905 = .ok (.goto 81, 3) := by decide +kernel
theorem dW_1908 : decode code 1908 = .ok (.aload_n 1, 1) := by decide +kernel
theorem dW_1909 : decode code 1909 = .ok (.aload_n 0, 1) := by decide +kernel
theorem dW_1910 : decode code 1910 = .ok (.iload 4, 2) := by decide +kernel
theorem dW_1912 : decode code 1912 = .ok (.iconst 1, 1) := by decide +kernel
theorem dW_1913 : decode code 1913 = .ok (.iadd, 1) := by decide +kernel
theorem dW_1914 : decode code 1914 = .ok (.iaload, 1) := by decide +kernel
theorem dW_1915 : decode code 1915 = .ok (.aload_n 0, 1) := by decide +kernel
theorem dW_1916 : decode code 1916 = .ok (.iload 4, 2) := by decide +kernel
theorem dW_1918 : decode code 1918 = .ok (.iconst 2, 1) := by decide +kernel
theorem dW_1919 : decode code 1919 = .ok (.iadd, 1) := by decide +kernel
theorem dW_1920 : decode code 1920 = .ok (.iaload, 1) := by decide +kernel
theorem dW_1921 : decode code 1921 = .ok (.ifCond .eq 7, 3) := by decide +kernel
theorem dW_1924 : decode code 1924 = .ok (.iconst 1, 1) := by decide +kernel
theorem dW_1925 : decode code 1925 = .ok (.goto 4, 3) := by decide +kernel
theorem dW_1928 : decode code 1928 = .ok (.iconst 0, 1) := by decide +kernel
theorem dW_1929 : decode code 1929 = .ok (.invokevirtual 156, 3) := by decide +kernel
theorem dW_1932 : decode code 1932 = .ok (.pop, 1) := by decide +kernel
theorem dW_1933 : decode code 1933 = .ok (.aload_n 2, 1) := by decide +kernel
theorem dW_1934 : decode code 1934 = .ok (.aload_n 0, 1) := by decide +kernel
theorem dW_1935 : decode code 1935 = .ok (.iload 4, 2) := by decide +kernel
theorem dW_1937 : decode code 1937 = .ok (.iconst 1, 1) := by decide +kernel
theorem dW_1938 : decode code 1938 = .ok (.iadd, 1) := by decide +kernel
theorem dW_1939 : decode code 1939 = .ok (.iaload, 1) := by decide +kernel
theorem dW_1940 : decode code 1940 = .ok (.aload_n 0, 1) := by decide +kernel
theorem dW_1941 : decode code 1941 = .ok (.iload 4, 2) := by decide +kernel
theorem dW_1943 : decode code 1943 = .ok (.iconst 2, 1) := by decide +kernel
theorem dW_1944 : decode code 1944 = .ok (.iadd, 1) := by decide +kernel
theorem dW_1945 : decode code 1945 = .ok (.iaload, 1) := by decide +kernel
theorem dW_1946 : decode code 1946 = .ok (.ifCond .eq 7, 3) := by decide +kernel
theorem dW_1949 : decode code 1949 = .ok (.iconst 1, 1) := by decide +kernel
theorem dW_1950 : decode code 1950 = .ok (.goto 4, 3) := by decide +kernel
theorem dW_1953 : decode code 1953 = .ok (.iconst 0, 1) := by decide +kernel
theorem dW_1954 : decode code 1954 = .ok (.invokevirtual 160, 3) := by decide +kernel
theorem dW_1957 : decode code 1957 = .ok (.pop, 1) := by decide +kernel
theorem dW_1958 : decode code 1958 = .ok (.goto 28, 3) := by decide +kernel
theorem dW_1961 : decode code 1961 = .ok (.aload_n 1, 1) := by decide +kernel
theorem dW_1962 : decode code 1962 = .ok (.aload_n 0, 1) := by decide +kernel
theorem dW_1963 : decode code 1963 = .ok (.iload 4, 2) := by decide +kernel
theorem dW_1965 : decode code 1965 = .ok (.iconst 1, 1) := by decide +kernel
theorem dW_1966 : decode code 1966 = .ok (.iadd, 1) := by decide +kernel
theorem dW_1967 : decode code 1967 = .ok (.iaload, 1) := by decide +kernel
theorem dW_1968 : decode code 1968 = .ok (.invokevirtual 161, 3) := by decide +kernel
theorem dW_1971 : decode code 1971 = .ok (.pop, 1) := by decide +kernel
theorem dW_1972 : decode code 1972 = .ok (.aload_n 2, 1) := by decide +kernel
theorem dW_1973 : decode code 1973 = .ok (.aload_n 0, 1) := by decide +kernel
theorem dW_1974 : decode code 1974 = .ok (.iload 4, 2) := by decide +kernel
theorem dW_1976 : decode code 1976 = .ok (.iconst 1, 1) := by decide +kernel
theorem dW_1977 : decode code 1977 = .ok (.iadd, 1) := by decide +kernel
theorem dW_1978 : decode code 1978 = .ok (.iaload, 1) := by decide +kernel
theorem dW_1979 : decode code 1979 = .ok (.invokevirtual 164, 3) := by decide +kernel
theorem dW_1982 : decode code 1982 = .ok (.pop, 1) := by decide +kernel
theorem dW_1983 : decode code 1983 = .ok (.goto 3, 3) := by decide +kernel
theorem dW_1986 : decode code 1986 = .ok (.iinc 4 7, 3) := by decide +kernel
theorem dW_1989 : decode code 1989 = .ok (.goto (-1966), 3) := by decide +kernel
theorem dW_1992 : decode code 1992 = .ok (.iconst 1, 1) := by decide +kernel
theorem dW_1993 : decode code 1993 = .ok (.ireturn, 1) := by decide +kernel

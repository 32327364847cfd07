theorem dL_1120 : decode code 1120 = .ok (.aload_n 0, 1) := by decide +kernel
theorem dL_1121 : decode code 1121 = .ok (.iload_n 3, 1) := by decide +kernel
theorem dL_1122 : decode code 1122 = .ok (.iconst 1, 1) := by decide +kernel
theorem dL_1123 : decode code 1123 = .ok (.iadd, 1) := by decide +kernel
theorem dL_1124 : decode code 1124 = .ok (.iaload, 1) := by decide +kernel
theorem dL_1125 : decode code 1125 = .ok (.aload_n 0, 1) := by decide +kernel
theorem dL_1126 : decode code 1126 = .ok (.iload_n 3, 1) := by decide +kernel
theorem dL_1127 : decode code 1127 = .ok (.iconst 2, 1) := by decide +kernel
theorem dL_1128 : decode code 1128 = .ok (.iadd, 1) := by decide +kernel
theorem dL_1129 : decode code 1129 = .ok (.iaload, 1) := by decide +kernel
theorem dL_1130 : decode code 1130 = .ok (.aload_n 0, 1) := by decide +kernel
theorem dL_1131 : decode code 1131 = .ok (.iload_n 3, 1) := by decide +kernel
theorem dL_1132 : decode code 1132 = .ok (.iconst 3, 1) := by decide +kernel
theorem dL_1133 : decode code 1133 = .ok (.iadd, 1) := by decide +kernel
theorem dL_1134 : decode code 1134 = .ok (.iaload, 1) := by decide +kernel
theorem dL_1135 : decode code 1135 = .ok (.aload_n 0, 1) := by decide +kernel
theorem dL_1136 : decode code 1136 = .ok (.iload_n 3, 1) := by decide +kernel
theorem dL_1137 : decode code 1137 = .ok (.iconst 4, 1) := by decide +kernel
theorem dL_1138 : decode code 1138 = .ok (.iadd, 1) := by decide +kernel
theorem dL_1139 : decode code 1139 = .ok (.iaload, 1) := by decide +kernel
theorem dL_1140 : decode code 1140 = .ok (.invokevirtual 110, 3) := by decide +kernel
theorem dL_1143 : decode code 1143 = .ok (.if_icmp .eq 487, 3) := by decide +kernel
theorem dL_1146 : decode code 1146 = .ok (.iconst 0, 1) := by decide +kernel
theorem dL_1147 : decode code 1147 = .ok (.ireturn, 1) := by decide +kernel
theorem dL_1148 : decode code 1148 = .ok (.aload_n 1, 1) := by decide +kernel
theorem dL_1149 : decode code 1149 = .ok (.aload_n 0, 1) := by decide +kernel
theorem dL_1150 : decode code 1150 = .ok (.iload_n 3, 1) := by decide +kernel
theorem dL_1151 : decode code 1151 = .ok (.iconst 1, 1) := by decide +kernel
theorem dL_1152 : decode code 1152 = .ok (.iadd, 1) := by decide +kernel
theorem dL_1153 : decode code 1153 = .ok (.iaload, 1) := by decide +kernel
theorem dL_1154 : decode code 1154 = .ok (.aload_n 0, 1) := by decide +kernel
theorem dL_1155 : decode code 1155 = .ok (.iload_n 3, 1) := by decide +kernel
theorem dL_1156 : decode code 1156 = .ok (.iconst 2, 1) := by decide +kernel
theorem dL_1157 : decode code 1157 = .ok (.iadd, 1) := by decide +kernel
theorem dL_1158 : decode code 1158 = .ok (.iaload, 1) := by decide +kernel
theorem dL_1159 : decode code 1159 = .ok (.invokevirtual 111, 3) := by decide +kernel
theorem dL_1162 : decode code 1162 = .ok (.aload_n 2, 1) := by decide +kernel
theorem dL_1163 : decode code 1163 = .ok (.aload_n 0, 1) := by decide +kernel
theorem dL_1164 : decode code 1164 = .ok (.iload_n 3, 1) := by decide +kernel
theorem dL_1165 : decode code 1165 = .ok (.iconst 1, 1) := by decide +kernel
theorem dL_1166 : decode code 1166 = .ok (.iadd, 1) := by decide +kernel
theorem dL_1167 : decode code 1167 = .ok (.iaload, 1) := by decide +kernel
theorem dL_1168 : decode code 1168 = .ok (.aload_n 0, 1) := by decide +kernel
theorem dL_1169 : decode code 1169 = .ok (.iload_n 3, 1) := by decide +kernel
theorem dL_1170 : decode code 1170 = .ok (.iconst 2, 1) := by decide +kernel
theorem dL_1171 : decode code 1171 = .ok (.iadd, 1) := by decide +kernel
theorem dL_1172 : decode code 1172 = .ok (.iaload, 1) := by decide +kernel
theorem dL_1173 : decode code 1173 = .ok (.invokevirtual 114, 3) := by decide +kernel
theorem dL_1176 : decode code 1176 = .ok (.if_icmp .eq 454, 3) := by decide +kernel
theorem dL_1179 : decode code 1179 = .ok (.iconst 0, 1) := by decide +kernel
theorem dL_1180 : decode code 1180 = .ok (.ireturn, 1) := by decide +kernel
theorem dL_1181 : decode code 1181 = .ok (.aload_n 1, 1) := by decide +kernel
theorem dL_1182 : decode code 1182 = .ok (.aload_n 0, 1) := by decide +kernel
theorem dL_1183 : decode code 1183 = .ok (.iload_n 3, 1) := by decide +kernel
theorem dL_1184 : decode code 1184 = .ok (.iconst 1, 1) := by decide +kernel
theorem dL_1185 : decode code 1185 = .ok (.iadd, 1) := by decide +kernel
theorem dL_1186 : decode code 1186 = .ok (.iaload, 1) := by decide +kernel
theorem dL_1187 : decode code 1187 = .ok (.invokevirtual 115, 3) := by decide +kernel
theorem dL_1190 : decode code 1190 = .ok (.aload_n 2, 1) := by decide +kernel
theorem dL_1191 : decode code 1191 = .ok (.aload_n 0, 1) := by decide +kernel
theorem dL_1192 : decode code 1192 = .ok (.iload_n 3, 1) := by decide +kernel
theorem dL_1193 : decode code 1193 = .ok (.iconst 1, 1) := by decide +kernel
theorem dL_1194 : decode code 1194 = .ok (.iadd, 1) := by decide +kernel
theorem dL_1195 : decode code 1195 = .ok (.iaload, 1) := by decide +kernel
theorem dL_1196 : decode code 1196 = .ok (.invokevirtual 119, 3) := by decide +kernel
theorem dL_1199 : decode code 1199 = .ok (.if_icmp .eq 431, 3) := by decide +kernel
theorem dL_1202 : decode code 1202 = .ok (.iconst 0, 1) := by decide +kernel
theorem dL_1203 : decode code 1203 = .ok (.ireturn, 1) := by decide +kernel
theorem dL_1204 : decode code 1204 = .ok (.aload_n 1, 1) := by decide +kernel
theorem dL_1205 : decode code 1205 = .ok (.aload_n 0, 1) := by decide +kernel
theorem dL_1206 : decode code 1206 = .ok (.iload_n 3, 1) := by decide +kernel
theorem dL_1207 : decode code 1207 = .ok (.iconst 1, 1) := by decide +kernel
theorem dL_1208 : decode code 1208 = .ok (.iadd, 1) := by decide +kernel
theorem dL_1209 : decode code 1209 = .ok (.iaload, 1) := by decide +kernel
theorem dL_1210 : decode code 1210 = .ok (.aload_n 0, 1) := by decide +kernel
theorem dL_1211 : decode code 1211 = .ok (.iload_n 3, 1) := by decide +kernel
theorem dL_1212 : decode code 1212 = .ok (.iconst 2, 1) := by decide +kernel
theorem dL_1213 : decode code 1213 = .ok (.iadd, 1) := by decide +kernel
theorem dL_1214 : decode code 1214 = .ok (.iaload, 1) := by decide +kernel
theorem dL_1215 : decode code 1215 = .ok (.invokevirtual 120, 3) := by decide +kernel
theorem dL_1218 : decode code 1218 = .ok (.aload_n 2, 1) := by decide +kernel
theorem dL_1219 : decode code 1219 = .ok (.aload_n 0, 1) := by decide +kernel
theorem dL_1220 : decode code 1220 = .ok (.iload_n 3, 1) := by decide +kernel
theorem dL_1221 : decode code 1221 = .ok (.iconst 1, 1) := by decide +kernel
theorem dL_1222 : decode code 1222 = .ok (.iadd, 1) := by decide +kernel
theorem dL_1223 : decode code 1223 = .ok (.iaload, 1) := by decide +kernel
theorem dL_1224 : decode code 1224 = .ok (.aload_n 0, 1) := by decide +kernel
theorem dL_1225 : decode code 1225 = .ok (.iload_n 3, 1) := by decide +kernel
theorem dL_1226 : decode code 1226 = .ok (.iconst 2, 1) := by decide +kernel
theorem dL_1227 : decode code 1227 = .ok (.iadd, 1) := by decide +kernel
theorem dL_1228 : decode code 1228 = .ok (.iaload, 1) := by decide +kernel
theorem dL_1229 : decode code 1229 = .ok (.invokevirtual 123, 3) := by decide +kernel
theorem dL_1232 : decode code 1232 = .ok (.if_icmp .eq 398, 3) := by decide +kernel
theorem dL_1235 : decode code 1235 = .ok (.iconst 0, 1) := by decide +kernel
theorem dL_1236 : decode code 1236 = .ok (.ireturn, 1) := by decide +kernel
theorem dL_1237 : decode code 1237 = .ok (.aload_n 1, 1) := by decide +kernel
theorem dL_1238 : decode code 1238 = .ok (.invokevirtual 124, 3) := by decide +kernel
theorem dL_1241 : decode code 1241 = .ok (.aload_n 2, 1) := by decide +kernel
theorem dL_1242 : decode code 1242 = .ok (.invokevirtual 127, 3) := by decide +kernel
theorem dL_1245 : decode code 1245 = .ok (.if_icmp .eq 385, 3) := by decide +kernel
theorem dL_1248 : decode code 1248 = .ok (.iconst 0, 1) := by decide +kernel
theorem dL_1249 : decode code 1249 = .ok (.ireturn, 1) := by decide +kernel
theorem dL_1250 : decode code 1250 = .ok (.aload_n 1, 1) := by decide +kernel
theorem dL_1251 : decode code 1251 = .ok (.invokevirtual 128, 3) := by decide +kernel
theorem dL_1254 : decode code 1254 = .ok (.aload_n 2, 1) := by decide +kernel
theorem dL_1255 : decode code 1255 = .ok (.invokevirtual 131, 3) := by decide +kernel
theorem dL_1258 : decode code 1258 = .ok (.if_icmp .eq 372, 3) := by decide +kernel
theorem dL_1261 : decode code 1261 = .ok (.iconst 0, 1) := by decide +kernel
theorem dL_1262 : decode code 1262 = .ok (.ireturn, 1) := by decide +kernel
theorem dL_1263 : decode code 1263 = .ok (.aload_n 1, 1) := by decide +kernel
theorem dL_1264 : decode code 1264 = .ok (.aload_n 0, 1) := by decide +kernel
theorem dL_1265 : decode code 1265 = .ok (.iload_n 3, 1) := by decide +kernel
theorem dL_1266 : decode code 1266 = .ok (.iconst 1, 1) := by decide +kernel
theorem dL_1267 : decode code 1267 = .ok (.iadd, 1) := by decide +kernel
theorem dL_1268 : decode code 1268 = .ok (.iaload, 1) := by decide +kernel
theorem dL_1269 : decode code 1269 = .ok (.aload_n 0, 1) := by decide +kernel
theorem dL_1270 : decode code 1270 = .ok (.iload_n 3, 1) := by decide +kernel
theorem dL_1271 : decode code 1271 = .ok (.iconst 2, 1) := by decide +kernel
theorem dL_1272 : decode code 1272 = .ok (.iadd, 1) := by decide +kernel
theorem dL_1273 : decode code 1273 = .ok (.iaload, 1) := by decide +kernel
theorem dL_1274 : decode code 1274 = .ok (.invokevirtual 132, 3) := by decide +kernel
theorem dL_1277 : decode code 1277 = .ok (.aload_n 2, 1) := by decide +kernel
theorem dL_1278 : decode code 1278 = .ok (.aload_n 0, 1) := by decide +kernel
theorem dL_1279 : decode code 1279 = .ok (.iload_n 3, 1) := by decide +kernel
theorem dL_1280 : decode code 1280 = .ok (.iconst 1, 1) := by decide +kernel
theorem dL_1281 : decode code 1281 = .ok (.iadd, 1) := by decide +kernel
theorem dL_1282 : decode code 1282 = .ok (.iaload, 1) := by decide +kernel
theorem dL_1283 : decode code 1283 = .ok (.aload_n 0, 1) := by decide +kernel
theorem dL_1284 : decode code 1284 = .ok (.iload_n 3, 1) := by decide +kernel
theorem dL_1285 : decode code 1285 = .ok (.iconst 2, 1) := by decide +kernel
theorem dL_1286 : decode code 1286 = .ok (.iadd, 1) := by decide +kernel
theorem dL_1287 : decode code 1287 = .ok (.iaload, 1) := by decide +kernel
theorem dL_1288 : decode code 1288 = .ok (.invokevirtual 135, 3) := by decide +kernel
theorem dL_1291 : decode code 1291 = .ok (.if_icmp .eq 339, 3) := by decide +kernel
theorem dL_1294 : decode code 1294 = .ok (.iconst 0, 1) := by decide +kernel
theorem dL_1295 : decode code 1295 = .ok (.ireturn, 1) := by decide +kernel
theorem dL_1296 : decode code 1296 = .ok (.aload_n 1, 1) := by decide +kernel
theorem dL_1297 : decode code 1297 = .ok (.invokevirtual 136, 3) := by decide +kernel
theorem dL_1300 : decode code 1300 = .ok (.aload_n 2, 1) := by decide +kernel
theorem dL_1301 : decode code 1301 = .ok (.invokevirtual 139, 3) := by decide +kernel
theorem dL_1304 : decode code 1304 = .ok (.if_icmp .eq 326, 3) := by decide +kernel
theorem dL_1307 : decode code 1307 = .ok (.iconst 0, 1) := by decide +kernel
theorem dL_1308 : decode code 1308 = .ok (.ireturn, 1) := by decide +kernel
theorem dL_1309 : decode code 1309 = .ok (.aload_n 1, 1) := by decide +kernel
theorem dL_1310 : decode code 1310 = .ok (.invokevirtual 140, 3) := by decide +kernel
theorem dL_1313 : decode code 1313 = .ok (.aload_n 2, 1) := by decide +kernel
theorem dL_1314 : decode code 1314 = .ok (.invokevirtual 143, 3) := by decide +kernel
theorem dL_1317 : decode code 1317 = .ok (.if_icmp .eq 313, 3) := by decide +kernel
theorem dL_1320 : decode code 1320 = .ok (.iconst 0, 1) := by decide +kernel
theorem dL_1321 : decode code 1321 = .ok (.ireturn, 1) := by decide +kernel
theorem dL_1322 : decode code 1322 = .ok (.aload_n 1, 1) := by decide +kernel
theorem dL_1323 : decode code 1323 = .ok (.aload_n 0, 1) := by decide +kernel
theorem dL_1324 : decode code 1324 = .ok (.iload_n 3, 1) := by decide +kernel
theorem dL_1325 : decode code 1325 = .ok (.iconst 1, 1) := by decide +kernel
theorem dL_1326 : decode code 1326 = .ok (.iadd, 1) := by decide +kernel
theorem dL_1327 : decode code 1327 = .ok (.iaload, 1) := by decide +kernel
theorem dL_1328 : decode code 1328 = .ok (.invokevirtual 144, 3) := by decide +kernel
theorem dL_1331 : decode code 1331 = .ok (.aload_n 2, 1) := by decide +kernel
theorem dL_1332 : decode code 1332 = .ok (.aload_n 0, 1) := by decide +kernel
theorem dL_1333 : decode code 1333 = .ok (.iload_n 3, 1) := by decide +kernel

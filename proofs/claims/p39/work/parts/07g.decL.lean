theorem dL_law_1146 : decode cL_law 1146 = .ok (.goto 350, 3) := o167 hcL_law (a := 350) rfl rfl
theorem dL_law_1149 : decode cL_law 1149 = .ok (.aload_n 1, 1) := o43 hcL_law rfl
theorem dL_law_1150 : decode cL_law 1150 = .ok (.invokevirtual 138, 3) := o182 hcL_law rfl
theorem dL_law_1153 : decode cL_law 1153 = .ok (.pop, 1) := o87 hcL_law rfl
theorem dL_law_1154 : decode cL_law 1154 = .ok (.aload_n 2, 1) := o44 hcL_law rfl
theorem dL_law_1155 : decode cL_law 1155 = .ok (.invokevirtual 141, 3) := o182 hcL_law rfl
theorem dL_law_1158 : decode cL_law 1158 = .ok (.pop, 1) := o87 hcL_law rfl
theorem dL_law_1159 : decode cL_law 1159 = .ok (.goto 337, 3) := o167 hcL_law (a := 337) rfl rfl
theorem dL_law_1162 : decode cL_law 1162 = .ok (.aload_n 1, 1) := o43 hcL_law rfl
theorem dL_law_1163 : decode cL_law 1163 = .ok (.aload_n 0, 1) := o42 hcL_law rfl
theorem dL_law_1164 : decode cL_law 1164 = .ok (.iload_n 3, 1) := o29 hcL_law rfl
theorem dL_law_1165 : decode cL_law 1165 = .ok (.iconst 1, 1) := o4 hcL_law rfl
theorem dL_law_1166 : decode cL_law 1166 = .ok (.iadd, 1) := o96 hcL_law rfl
theorem dL_law_1167 : decode cL_law 1167 = .ok (.iaload, 1) := o46 hcL_law rfl
theorem dL_law_1168 : decode cL_law 1168 = .ok (.aload_n 0, 1) := o42 hcL_law rfl
theorem dL_law_1169 : decode cL_law 1169 = .ok (.iload_n 3, 1) := o29 hcL_law rfl
theorem dL_law_1170 : decode cL_law 1170 = .ok (.iconst 2, 1) := o5 hcL_law rfl
theorem dL_law_1171 : decode cL_law 1171 = .ok (.iadd, 1) := o96 hcL_law rfl
theorem dL_law_1172 : decode cL_law 1172 = .ok (.iaload, 1) := o46 hcL_law rfl
theorem dL_law_1173 : decode cL_law 1173 = .ok (.aload_n 0, 1) := o42 hcL_law rfl
theorem dL_law_1174 : decode cL_law 1174 = .ok (.iload_n 3, 1) := o29 hcL_law rfl
theorem dL_law_1175 : decode cL_law 1175 = .ok (.iconst 3, 1) := o6 hcL_law rfl
theorem dL_law_1176 : decode cL_law 1176 = .ok (.iadd, 1) := o96 hcL_law rfl
theorem dL_law_1177 : decode cL_law 1177 = .ok (.iaload, 1) := o46 hcL_law rfl
theorem dL_law_1178 : decode cL_law 1178 = .ok (.invokevirtual 142, 3) := o182 hcL_law rfl
theorem dL_law_1181 : decode cL_law 1181 = .ok (.pop, 1) := o87 hcL_law rfl
theorem dL_law_1182 : decode cL_law 1182 = .ok (.aload_n 2, 1) := o44 hcL_law rfl
theorem dL_law_1183 : decode cL_law 1183 = .ok (.aload_n 0, 1) := o42 hcL_law rfl
theorem dL_law_1184 : decode cL_law 1184 = .ok (.iload_n 3, 1) := o29 hcL_law rfl
theorem dL_law_1185 : decode cL_law 1185 = .ok (.iconst 1, 1) := o4 hcL_law rfl
theorem dL_law_1186 : decode cL_law 1186 = .ok (.iadd, 1) := o96 hcL_law rfl
theorem dL_law_1187 : decode cL_law 1187 = .ok (.iaload, 1) := o46 hcL_law rfl
theorem dL_law_1188 : decode cL_law 1188 = .ok (.aload_n 0, 1) := o42 hcL_law rfl
theorem dL_law_1189 : decode cL_law 1189 = .ok (.iload_n 3, 1) := o29 hcL_law rfl
theorem dL_law_1190 : decode cL_law 1190 = .ok (.iconst 2, 1) := o5 hcL_law rfl
theorem dL_law_1191 : decode cL_law 1191 = .ok (.iadd, 1) := o96 hcL_law rfl
theorem dL_law_1192 : decode cL_law 1192 = .ok (.iaload, 1) := o46 hcL_law rfl
theorem dL_law_1193 : decode cL_law 1193 = .ok (.aload_n 0, 1) := o42 hcL_law rfl
theorem dL_law_1194 : decode cL_law 1194 = .ok (.iload_n 3, 1) := o29 hcL_law rfl
theorem dL_law_1195 : decode cL_law 1195 = .ok (.iconst 3, 1) := o6 hcL_law rfl
theorem dL_law_1196 : decode cL_law 1196 = .ok (.iadd, 1) := o96 hcL_law rfl
theorem dL_law_1197 : decode cL_law 1197 = .ok (.iaload, 1) := o46 hcL_law rfl
theorem dL_law_1198 : decode cL_law 1198 = .ok (.invokevirtual 145, 3) := o182 hcL_law rfl
theorem dL_law_1201 : decode cL_law 1201 = .ok (.pop, 1) := o87 hcL_law rfl
theorem dL_law_1202 : decode cL_law 1202 = .ok (.goto 294, 3) := o167 hcL_law (a := 294) rfl rfl
theorem dL_law_1205 : decode cL_law 1205 = .ok (.aload_n 1, 1) := o43 hcL_law rfl
theorem dL_law_1206 : decode cL_law 1206 = .ok (.aload_n 0, 1) := o42 hcL_law rfl
theorem dL_law_1207 : decode cL_law 1207 = .ok (.iload_n 3, 1) := o29 hcL_law rfl
theorem dL_law_1208 : decode cL_law 1208 = .ok (.iconst 1, 1) := o4 hcL_law rfl
theorem dL_law_1209 : decode cL_law 1209 = .ok (.iadd, 1) := o96 hcL_law rfl
theorem dL_law_1210 : decode cL_law 1210 = .ok (.iaload, 1) := o46 hcL_law rfl
theorem dL_law_1211 : decode cL_law 1211 = .ok (.invokevirtual 146, 3) := o182 hcL_law rfl
theorem dL_law_1214 : decode cL_law 1214 = .ok (.pop, 1) := o87 hcL_law rfl
theorem dL_law_1215 : decode cL_law 1215 = .ok (.aload_n 2, 1) := o44 hcL_law rfl
theorem dL_law_1216 : decode cL_law 1216 = .ok (.aload_n 0, 1) := o42 hcL_law rfl
theorem dL_law_1217 : decode cL_law 1217 = .ok (.iload_n 3, 1) := o29 hcL_law rfl
theorem dL_law_1218 : decode cL_law 1218 = .ok (.iconst 1, 1) := o4 hcL_law rfl
theorem dL_law_1219 : decode cL_law 1219 = .ok (.iadd, 1) := o96 hcL_law rfl
theorem dL_law_1220 : decode cL_law 1220 = .ok (.iaload, 1) := o46 hcL_law rfl
theorem dL_law_1221 : decode cL_law 1221 = .ok (.invokevirtual 149, 3) := o182 hcL_law rfl
theorem dL_law_1224 : decode cL_law 1224 = .ok (.pop, 1) := o87 hcL_law rfl
theorem dL_law_1225 : decode cL_law 1225 = .ok (.goto 271, 3) := o167 hcL_law (a := 271) rfl rfl
theorem dL_law_1228 : decode cL_law 1228 = .ok (.aload_n 1, 1) := o43 hcL_law rfl
theorem dL_law_1229 : decode cL_law 1229 = .ok (.aload_n 0, 1) := o42 hcL_law rfl
theorem dL_law_1230 : decode cL_law 1230 = .ok (.iload_n 3, 1) := o29 hcL_law rfl
theorem dL_law_1231 : decode cL_law 1231 = .ok (.iconst 1, 1) := o4 hcL_law rfl
theorem dL_law_1232 : decode cL_law 1232 = .ok (.iadd, 1) := o96 hcL_law rfl
theorem dL_law_1233 : decode cL_law 1233 = .ok (.iaload, 1) := o46 hcL_law rfl
theorem dL_law_1234 : decode cL_law 1234 = .ok (.aload_n 0, 1) := o42 hcL_law rfl
theorem dL_law_1235 : decode cL_law 1235 = .ok (.iload_n 3, 1) := o29 hcL_law rfl
theorem dL_law_1236 : decode cL_law 1236 = .ok (.iconst 2, 1) := o5 hcL_law rfl
theorem dL_law_1237 : decode cL_law 1237 = .ok (.iadd, 1) := o96 hcL_law rfl
theorem dL_law_1238 : decode cL_law 1238 = .ok (.iaload, 1) := o46 hcL_law rfl
theorem dL_law_1239 : decode cL_law 1239 = .ok (.invokevirtual 150, 3) := o182 hcL_law rfl
theorem dL_law_1242 : decode cL_law 1242 = .ok (.pop, 1) := o87 hcL_law rfl
theorem dL_law_1243 : decode cL_law 1243 = .ok (.aload_n 2, 1) := o44 hcL_law rfl
theorem dL_law_1244 : decode cL_law 1244 = .ok (.aload_n 0, 1) := o42 hcL_law rfl
theorem dL_law_1245 : decode cL_law 1245 = .ok (.iload_n 3, 1) := o29 hcL_law rfl
theorem dL_law_1246 : decode cL_law 1246 = .ok (.iconst 1, 1) := o4 hcL_law rfl
theorem dL_law_1247 : decode cL_law 1247 = .ok (.iadd, 1) := o96 hcL_law rfl
theorem dL_law_1248 : decode cL_law 1248 = .ok (.iaload, 1) := o46 hcL_law rfl
theorem dL_law_1249 : decode cL_law 1249 = .ok (.aload_n 0, 1) := o42 hcL_law rfl
theorem dL_law_1250 : decode cL_law 1250 = .ok (.iload_n 3, 1) := o29 hcL_law rfl
theorem dL_law_1251 : decode cL_law 1251 = .ok (.iconst 2, 1) := o5 hcL_law rfl
theorem dL_law_1252 : decode cL_law 1252 = .ok (.iadd, 1) := o96 hcL_law rfl
theorem dL_law_1253 : decode cL_law 1253 = .ok (.iaload, 1) := o46 hcL_law rfl
theorem dL_law_1254 : decode cL_law 1254 = .ok (.invokevirtual 153, 3) := o182 hcL_law rfl
theorem dL_law_1257 : decode cL_law 1257 = .ok (.pop, 1) := o87 hcL_law rfl
theorem dL_law_1258 : decode cL_law 1258 = .ok (.goto 238, 3) := o167 hcL_law (a := 238) rfl rfl
theorem dL_law_1261 : decode cL_law 1261 = .ok (.aload_n 1, 1) := o43 hcL_law rfl
theorem dL_law_1262 : decode cL_law 1262 = .ok (.aload_n 0, 1) := o42 hcL_law rfl
theorem dL_law_1263 : decode cL_law 1263 = .ok (.iload_n 3, 1) := o29 hcL_law rfl
theorem dL_law_1264 : decode cL_law 1264 = .ok (.iconst 1, 1) := o4 hcL_law rfl
theorem dL_law_1265 : decode cL_law 1265 = .ok (.iadd, 1) := o96 hcL_law rfl
theorem dL_law_1266 : decode cL_law 1266 = .ok (.iaload, 1) := o46 hcL_law rfl
theorem dL_law_1267 : decode cL_law 1267 = .ok (.invokevirtual 154, 3) := o182 hcL_law rfl
theorem dL_law_1270 : decode cL_law 1270 = .ok (.pop, 1) := o87 hcL_law rfl
theorem dL_law_1271 : decode cL_law 1271 = .ok (.aload_n 2, 1) := o44 hcL_law rfl
theorem dL_law_1272 : decode cL_law 1272 = .ok (.aload_n 0, 1) := o42 hcL_law rfl
theorem dL_law_1273 : decode cL_law 1273 = .ok (.iload_n 3, 1) := o29 hcL_law rfl
theorem dL_law_1274 : decode cL_law 1274 = .ok (.iconst 1, 1) := o4 hcL_law rfl
theorem dL_law_1275 : decode cL_law 1275 = .ok (.iadd, 1) := o96 hcL_law rfl
theorem dL_law_1276 : decode cL_law 1276 = .ok (.iaload, 1) := o46 hcL_law rfl
theorem dL_law_1277 : decode cL_law 1277 = .ok (.invokevirtual 157, 3) := o182 hcL_law rfl
theorem dL_law_1280 : decode cL_law 1280 = .ok (.pop, 1) := o87 hcL_law rfl
theorem dL_law_1281 : decode cL_law 1281 = .ok (.goto 215, 3) := o167 hcL_law (a := 215) rfl rfl
theorem dL_law_1284 : decode cL_law 1284 = .ok (.aload_n 1, 1) := o43 hcL_law rfl
theorem dL_law_1285 : decode cL_law 1285 = .ok (.aload_n 0, 1) := o42 hcL_law rfl
theorem dL_law_1286 : decode cL_law 1286 = .ok (.iload_n 3, 1) := o29 hcL_law rfl
theorem dL_law_1287 : decode cL_law 1287 = .ok (.iconst 1, 1) := o4 hcL_law rfl
theorem dL_law_1288 : decode cL_law 1288 = .ok (.iadd, 1) := o96 hcL_law rfl
theorem dL_law_1289 : decode cL_law 1289 = .ok (.iaload, 1) := o46 hcL_law rfl
theorem dL_law_1290 : decode cL_law 1290 = .ok (.aload_n 0, 1) := o42 hcL_law rfl
theorem dL_law_1291 : decode cL_law 1291 = .ok (.iload_n 3, 1) := o29 hcL_law rfl
theorem dL_law_1292 : decode cL_law 1292 = .ok (.iconst 2, 1) := o5 hcL_law rfl
theorem dL_law_1293 : decode cL_law 1293 = .ok (.iadd, 1) := o96 hcL_law rfl
theorem dL_law_1294 : decode cL_law 1294 = .ok (.iaload, 1) := o46 hcL_law rfl
theorem dL_law_1295 : decode cL_law 1295 = .ok (.aload_n 0, 1) := o42 hcL_law rfl
theorem dL_law_1296 : decode cL_law 1296 = .ok (.iload_n 3, 1) := o29 hcL_law rfl
theorem dL_law_1297 : decode cL_law 1297 = .ok (.iconst 3, 1) := o6 hcL_law rfl
theorem dL_law_1298 : decode cL_law 1298 = .ok (.iadd, 1) := o96 hcL_law rfl
theorem dL_law_1299 : decode cL_law 1299 = .ok (.iaload, 1) := o46 hcL_law rfl
theorem dL_law_1300 : decode cL_law 1300 = .ok (.invokevirtual 158, 3) := o182 hcL_law rfl
theorem dL_law_1303 : decode cL_law 1303 = .ok (.pop, 1) := o87 hcL_law rfl
theorem dL_law_1304 : decode cL_law 1304 = .ok (.aload_n 2, 1) := o44 hcL_law rfl
theorem dL_law_1305 : decode cL_law 1305 = .ok (.aload_n 0, 1) := o42 hcL_law rfl
theorem dL_law_1306 : decode cL_law 1306 = .ok (.iload_n 3, 1) := o29 hcL_law rfl
theorem dL_law_1307 : decode cL_law 1307 = .ok (.iconst 1, 1) := o4 hcL_law rfl
theorem dL_law_1308 : decode cL_law 1308 = .ok (.iadd, 1) := o96 hcL_law rfl
theorem dL_law_1309 : decode cL_law 1309 = .ok (.iaload, 1) := o46 hcL_law rfl

theorem dL_law_1146 : decode cL_law 1146 = .ok (.pop, 1) := o87 hcL_law rfl
theorem dL_law_1147 : decode cL_law 1147 = .ok (.goto 350, 3) := o167 hcL_law (a := 350) rfl rfl
theorem dL_law_1150 : decode cL_law 1150 = .ok (.aload_n 1, 1) := o43 hcL_law rfl
theorem dL_law_1151 : decode cL_law 1151 = .ok (.invokevirtual 138, 3) := o182 hcL_law rfl
theorem dL_law_1154 : decode cL_law 1154 = .ok (.pop, 1) := o87 hcL_law rfl
theorem dL_law_1155 : decode cL_law 1155 = .ok (.aload_n 2, 1) := o44 hcL_law rfl
theorem dL_law_1156 : decode cL_law 1156 = .ok (.invokevirtual 141, 3) := o182 hcL_law rfl
theorem dL_law_1159 : decode cL_law 1159 = .ok (.pop, 1) := o87 hcL_law rfl
theorem dL_law_1160 : decode cL_law 1160 = .ok (.goto 337, 3) := o167 hcL_law (a := 337) rfl rfl
theorem dL_law_1163 : decode cL_law 1163 = .ok (.aload_n 1, 1) := o43 hcL_law rfl
theorem dL_law_1164 : decode cL_law 1164 = .ok (.aload_n 0, 1) := o42 hcL_law rfl
theorem dL_law_1165 : decode cL_law 1165 = .ok (.iload_n 3, 1) := o29 hcL_law rfl
theorem dL_law_1166 : decode cL_law 1166 = .ok (.iconst 1, 1) := o4 hcL_law rfl
theorem dL_law_1167 : decode cL_law 1167 = .ok (.iadd, 1) := o96 hcL_law rfl
theorem dL_law_1168 : decode cL_law 1168 = .ok (.iaload, 1) := o46 hcL_law rfl
theorem dL_law_1169 : decode cL_law 1169 = .ok (.aload_n 0, 1) := o42 hcL_law rfl
theorem dL_law_1170 : decode cL_law 1170 = .ok (.iload_n 3, 1) := o29 hcL_law rfl
theorem dL_law_1171 : decode cL_law 1171 = .ok (.iconst 2, 1) := o5 hcL_law rfl
theorem dL_law_1172 : decode cL_law 1172 = .ok (.iadd, 1) := o96 hcL_law rfl
theorem dL_law_1173 : decode cL_law 1173 = .ok (.iaload, 1) := o46 hcL_law rfl
theorem dL_law_1174 : decode cL_law 1174 = .ok (.aload_n 0, 1) := o42 hcL_law rfl
theorem dL_law_1175 : decode cL_law 1175 = .ok (.iload_n 3, 1) := o29 hcL_law rfl
theorem dL_law_1176 : decode cL_law 1176 = .ok (.iconst 3, 1) := o6 hcL_law rfl
theorem dL_law_1177 : decode cL_law 1177 = .ok (.iadd, 1) := o96 hcL_law rfl
theorem dL_law_1178 : decode cL_law 1178 = .ok (.iaload, 1) := o46 hcL_law rfl
theorem dL_law_1179 : decode cL_law 1179 = .ok (.invokevirtual 142, 3) := o182 hcL_law rfl
theorem dL_law_1182 : decode cL_law 1182 = .ok (.pop, 1) := o87 hcL_law rfl
theorem dL_law_1183 : decode cL_law 1183 = .ok (.aload_n 2, 1) := o44 hcL_law rfl
theorem dL_law_1184 : decode cL_law 1184 = .ok (.aload_n 0, 1) := o42 hcL_law rfl
theorem dL_law_1185 : decode cL_law 1185 = .ok (.iload_n 3, 1) := o29 hcL_law rfl
theorem dL_law_1186 : decode cL_law 1186 = .ok (.iconst 1, 1) := o4 hcL_law rfl
theorem dL_law_1187 : decode cL_law 1187 = .ok (.iadd, 1) := o96 hcL_law rfl
theorem dL_law_1188 : decode cL_law 1188 = .ok (.iaload, 1) := o46 hcL_law rfl
theorem dL_law_1189 : decode cL_law 1189 = .ok (.aload_n 0, 1) := o42 hcL_law rfl
theorem dL_law_1190 : decode cL_law 1190 = .ok (.iload_n 3, 1) := o29 hcL_law rfl
theorem dL_law_1191 : decode cL_law 1191 = .ok (.iconst 2, 1) := o5 hcL_law rfl
theorem dL_law_1192 : decode cL_law 1192 = .ok (.iadd, 1) := o96 hcL_law rfl
theorem dL_law_1193 : decode cL_law 1193 = .ok (.iaload, 1) := o46 hcL_law rfl
theorem dL_law_1194 : decode cL_law 1194 = .ok (.aload_n 0, 1) := o42 hcL_law rfl
theorem dL_law_1195 : decode cL_law 1195 = .ok (.iload_n 3, 1) := o29 hcL_law rfl
theorem dL_law_1196 : decode cL_law 1196 = .ok (.iconst 3, 1) := o6 hcL_law rfl
theorem dL_law_1197 : decode cL_law 1197 = .ok (.iadd, 1) := o96 hcL_law rfl
theorem dL_law_1198 : decode cL_law 1198 = .ok (.iaload, 1) := o46 hcL_law rfl
theorem dL_law_1199 : decode cL_law 1199 = .ok (.invokevirtual 145, 3) := o182 hcL_law rfl
theorem dL_law_1202 : decode cL_law 1202 = .ok (.pop, 1) := o87 hcL_law rfl
theorem dL_law_1203 : decode cL_law 1203 = .ok (.goto 294, 3) := o167 hcL_law (a := 294) rfl rfl
theorem dL_law_1206 : decode cL_law 1206 = .ok (.aload_n 1, 1) := o43 hcL_law rfl
theorem dL_law_1207 : decode cL_law 1207 = .ok (.aload_n 0, 1) := o42 hcL_law rfl
theorem dL_law_1208 : decode cL_law 1208 = .ok (.iload_n 3, 1) := o29 hcL_law rfl
theorem dL_law_1209 : decode cL_law 1209 = .ok (.iconst 1, 1) := o4 hcL_law rfl
theorem dL_law_1210 : decode cL_law 1210 = .ok (.iadd, 1) := o96 hcL_law rfl
theorem dL_law_1211 : decode cL_law 1211 = .ok (.iaload, 1) := o46 hcL_law rfl
theorem dL_law_1212 : decode cL_law 1212 = .ok (.invokevirtual 146, 3) := o182 hcL_law rfl
theorem dL_law_1215 : decode cL_law 1215 = .ok (.pop, 1) := o87 hcL_law rfl
theorem dL_law_1216 : decode cL_law 1216 = .ok (.aload_n 2, 1) := o44 hcL_law rfl
theorem dL_law_1217 : decode cL_law 1217 = .ok (.aload_n 0, 1) := o42 hcL_law rfl
theorem dL_law_1218 : decode cL_law 1218 = .ok (.iload_n 3, 1) := o29 hcL_law rfl
theorem dL_law_1219 : decode cL_law 1219 = .ok (.iconst 1, 1) := o4 hcL_law rfl
theorem dL_law_1220 : decode cL_law 1220 = .ok (.iadd, 1) := o96 hcL_law rfl
theorem dL_law_1221 : decode cL_law 1221 = .ok (.iaload, 1) := o46 hcL_law rfl
theorem dL_law_1222 : decode cL_law 1222 = .ok (.invokevirtual 149, 3) := o182 hcL_law rfl
theorem dL_law_1225 : decode cL_law 1225 = .ok (.pop, 1) := o87 hcL_law rfl
theorem dL_law_1226 : decode cL_law 1226 = .ok (.goto 271, 3) := o167 hcL_law (a := 271) rfl rfl
theorem dL_law_1229 : decode cL_law 1229 = .ok (.aload_n 1, 1) := o43 hcL_law rfl
theorem dL_law_1230 : decode cL_law 1230 = .ok (.aload_n 0, 1) := o42 hcL_law rfl
theorem dL_law_1231 : decode cL_law 1231 = .ok (.iload_n 3, 1) := o29 hcL_law rfl
theorem dL_law_1232 : decode cL_law 1232 = .ok (.iconst 1, 1) := o4 hcL_law rfl
theorem dL_law_1233 : decode cL_law 1233 = .ok (.iadd, 1) := o96 hcL_law rfl
theorem dL_law_1234 : decode cL_law 1234 = .ok (.iaload, 1) := o46 hcL_law rfl
theorem dL_law_1235 : decode cL_law 1235 = .ok (.aload_n 0, 1) := o42 hcL_law rfl
theorem dL_law_1236 : decode cL_law 1236 = .ok (.iload_n 3, 1) := o29 hcL_law rfl
theorem dL_law_1237 : decode cL_law 1237 = .ok (.iconst 2, 1) := o5 hcL_law rfl
theorem dL_law_1238 : decode cL_law 1238 = .ok (.iadd, 1) := o96 hcL_law rfl
theorem dL_law_1239 : decode cL_law 1239 = .ok (.iaload, 1) := o46 hcL_law rfl
theorem dL_law_1240 : decode cL_law 1240 = .ok (.invokevirtual 150, 3) := o182 hcL_law rfl
theorem dL_law_1243 : decode cL_law 1243 = .ok (.pop, 1) := o87 hcL_law rfl
theorem dL_law_1244 : decode cL_law 1244 = .ok (.aload_n 2, 1) := o44 hcL_law rfl
theorem dL_law_1245 : decode cL_law 1245 = .ok (.aload_n 0, 1) := o42 hcL_law rfl
theorem dL_law_1246 : decode cL_law 1246 = .ok (.iload_n 3, 1) := o29 hcL_law rfl
theorem dL_law_1247 : decode cL_law 1247 = .ok (.iconst 1, 1) := o4 hcL_law rfl
theorem dL_law_1248 : decode cL_law 1248 = .ok (.iadd, 1) := o96 hcL_law rfl
theorem dL_law_1249 : decode cL_law 1249 = .ok (.iaload, 1) := o46 hcL_law rfl
theorem dL_law_1250 : decode cL_law 1250 = .ok (.aload_n 0, 1) := o42 hcL_law rfl
theorem dL_law_1251 : decode cL_law 1251 = .ok (.iload_n 3, 1) := o29 hcL_law rfl
theorem dL_law_1252 : decode cL_law 1252 = .ok (.iconst 2, 1) := o5 hcL_law rfl
theorem dL_law_1253 : decode cL_law 1253 = .ok (.iadd, 1) := o96 hcL_law rfl
theorem dL_law_1254 : decode cL_law 1254 = .ok (.iaload, 1) := o46 hcL_law rfl
theorem dL_law_1255 : decode cL_law 1255 = .ok (.invokevirtual 153, 3) := o182 hcL_law rfl
theorem dL_law_1258 : decode cL_law 1258 = .ok (.pop, 1) := o87 hcL_law rfl
theorem dL_law_1259 : decode cL_law 1259 = .ok (.goto 238, 3) := o167 hcL_law (a := 238) rfl rfl
theorem dL_law_1262 : decode cL_law 1262 = .ok (.aload_n 1, 1) := o43 hcL_law rfl
theorem dL_law_1263 : decode cL_law 1263 = .ok (.aload_n 0, 1) := o42 hcL_law rfl
theorem dL_law_1264 : decode cL_law 1264 = .ok (.iload_n 3, 1) := o29 hcL_law rfl
theorem dL_law_1265 : decode cL_law 1265 = .ok (.iconst 1, 1) := o4 hcL_law rfl
theorem dL_law_1266 : decode cL_law 1266 = .ok (.iadd, 1) := o96 hcL_law rfl
theorem dL_law_1267 : decode cL_law 1267 = .ok (.iaload, 1) := o46 hcL_law rfl
theorem dL_law_1268 : decode cL_law 1268 = .ok (.invokevirtual 154, 3) := o182 hcL_law rfl
theorem dL_law_1271 : decode cL_law 1271 = .ok (.pop, 1) := o87 hcL_law rfl
theorem dL_law_1272 : decode cL_law 1272 = .ok (.aload_n 2, 1) := o44 hcL_law rfl
theorem dL_law_1273 : decode cL_law 1273 = .ok (.aload_n 0, 1) := o42 hcL_law rfl
theorem dL_law_1274 : decode cL_law 1274 = .ok (.iload_n 3, 1) := o29 hcL_law rfl
theorem dL_law_1275 : decode cL_law 1275 = .ok (.iconst 1, 1) := o4 hcL_law rfl
theorem dL_law_1276 : decode cL_law 1276 = .ok (.iadd, 1) := o96 hcL_law rfl
theorem dL_law_1277 : decode cL_law 1277 = .ok (.iaload, 1) := o46 hcL_law rfl
theorem dL_law_1278 : decode cL_law 1278 = .ok (.invokevirtual 157, 3) := o182 hcL_law rfl
theorem dL_law_1281 : decode cL_law 1281 = .ok (.pop, 1) := o87 hcL_law rfl
theorem dL_law_1282 : decode cL_law 1282 = .ok (.goto 215, 3) := o167 hcL_law (a := 215) rfl rfl
theorem dL_law_1285 : decode cL_law 1285 = .ok (.aload_n 1, 1) := o43 hcL_law rfl
theorem dL_law_1286 : decode cL_law 1286 = .ok (.aload_n 0, 1) := o42 hcL_law rfl
theorem dL_law_1287 : decode cL_law 1287 = .ok (.iload_n 3, 1) := o29 hcL_law rfl
theorem dL_law_1288 : decode cL_law 1288 = .ok (.iconst 1, 1) := o4 hcL_law rfl
theorem dL_law_1289 : decode cL_law 1289 = .ok (.iadd, 1) := o96 hcL_law rfl
theorem dL_law_1290 : decode cL_law 1290 = .ok (.iaload, 1) := o46 hcL_law rfl
theorem dL_law_1291 : decode cL_law 1291 = .ok (.aload_n 0, 1) := o42 hcL_law rfl
theorem dL_law_1292 : decode cL_law 1292 = .ok (.iload_n 3, 1) := o29 hcL_law rfl
theorem dL_law_1293 : decode cL_law 1293 = .ok (.iconst 2, 1) := o5 hcL_law rfl
theorem dL_law_1294 : decode cL_law 1294 = .ok (.iadd, 1) := o96 hcL_law rfl
theorem dL_law_1295 : decode cL_law 1295 = .ok (.iaload, 1) := o46 hcL_law rfl
theorem dL_law_1296 : decode cL_law 1296 = .ok (.aload_n 0, 1) := o42 hcL_law rfl
theorem dL_law_1297 : decode cL_law 1297 = .ok (.iload_n 3, 1) := o29 hcL_law rfl
theorem dL_law_1298 : decode cL_law 1298 = .ok (.iconst 3, 1) := o6 hcL_law rfl
theorem dL_law_1299 : decode cL_law 1299 = .ok (.iadd, 1) := o96 hcL_law rfl
theorem dL_law_1300 : decode cL_law 1300 = .ok (.iaload, 1) := o46 hcL_law rfl
theorem dL_law_1301 : decode cL_law 1301 = .ok (.invokevirtual 158, 3) := o182 hcL_law rfl
theorem dL_law_1304 : decode cL_law 1304 = .ok (.pop, 1) := o87 hcL_law rfl
theorem dL_law_1305 : decode cL_law 1305 = .ok (.aload_n 2, 1) := o44 hcL_law rfl
theorem dL_law_1306 : decode cL_law 1306 = .ok (.aload_n 0, 1) := o42 hcL_law rfl
theorem dL_law_1307 : decode cL_law 1307 = .ok (.iload_n 3, 1) := o29 hcL_law rfl
theorem dL_law_1308 : decode cL_law 1308 = .ok (.iconst 1, 1) := o4 hcL_law rfl
theorem dL_law_1309 : decode cL_law 1309 = .ok (.iadd, 1) := o96 hcL_law rfl

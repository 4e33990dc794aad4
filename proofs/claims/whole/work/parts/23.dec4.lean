theorem dL_law__1087 : decode cL_law_ 1087 = .ok (.laload, 1) := by decide +kernel
theorem dL_law__1088 : decode cL_law_ 1088 = .ok (.iload 6, 2) := by decide +kernel
theorem dL_law__1090 : decode cL_law_ 1090 = .ok (.i2l, 1) := by decide +kernel
theorem dL_law__1091 : decode cL_law_ 1091 = .ok (.lcmp, 1) := by decide +kernel
theorem dL_law__1092 : decode cL_law_ 1092 = .ok (.ifCond .eq 5, 3) := by decide +kernel
theorem dL_law__1095 : decode cL_law_ 1095 = .ok (.iconst 0, 1) := by decide +kernel
theorem dL_law__1096 : decode cL_law_ 1096 = .ok (.ireturn, 1) := by decide +kernel
theorem dL_law__1097 : decode cL_law_ 1097 = .ok (.goto 674, 3) := by decide +kernel
theorem dL_law__1100 : decode cL_law_ 1100 = .ok (.aload_n 1, 1) := by decide +kernel
theorem dL_law__1101 : decode cL_law_ 1101 = .ok (.aload_n 0, 1) := by decide +kernel
theorem dL_law__1102 : decode cL_law_ 1102 = .ok (.iload 4, 2) := by decide +kernel
theorem dL_law__1104 : decode cL_law_ 1104 = .ok (.iconst 1, 1) := by decide +kernel
theorem dL_law__1105 : decode cL_law_ 1105 = .ok (.iadd, 1) := by decide +kernel
theorem dL_law__1106 : decode cL_law_ 1106 = .ok (.iaload, 1) := by decide +kernel
theorem dL_law__1107 : decode cL_law_ 1107 = .ok (.aload_n 0, 1) := by decide +kernel
theorem dL_law__1108 : decode cL_law_ 1108 = .ok (.iload 4, 2) := by decide +kernel
theorem dL_law__1110 : decode cL_law_ 1110 = .ok (.iconst 2, 1) := by decide +kernel
theorem dL_law__1111 : decode cL_law_ 1111 = .ok (.iadd, 1) := by decide +kernel
theorem dL_law__1112 : decode cL_law_ 1112 = .ok (.iaload, 1) := by decide +kernel
theorem dL_law__1113 : decode cL_law_ 1113 = .ok (.aload_n 3, 1) := by decide +kernel
theorem dL_law__1114 : decode cL_law_ 1114 = .ok (.invokestatic 166, 3) := by decide +kernel
theorem dL_law__1117 : decode cL_law_ 1117 = .ok (.istore 5, 2) := by decide +kernel
theorem dL_law__1119 : decode cL_law_ 1119 = .ok (.aload_n 2, 1) := by decide +kernel
theorem dL_law__1120 : decode cL_law_ 1120 = .ok (.aload_n 0, 1) := by decide +kernel
theorem dL_law__1121 : decode cL_law_ 1121 = .ok (.iload 4, 2) := by decide +kernel
theorem dL_law__1123 : decode cL_law_ 1123 = .ok (.iconst 1, 1) := by decide +kernel
theorem dL_law__1124 : decode cL_law_ 1124 = .ok (.iadd, 1) := by decide +kernel
theorem dL_law__1125 : decode cL_law_ 1125 = .ok (.iaload, 1) := by decide +kernel
theorem dL_law__1126 : decode cL_law_ 1126 = .ok (.aload_n 0, 1) := by decide +kernel
theorem dL_law__1127 : decode cL_law_ 1127 = .ok (.iload 4, 2) := by decide +kernel
theorem dL_law__1129 : decode cL_law_ 1129 = .ok (.iconst 2, 1) := by decide +kernel
theorem dL_law__1130 : decode cL_law_ 1130 = .ok (.iadd, 1) := by decide +kernel
theorem dL_law__1131 : decode cL_law_ 1131 = .ok (.iaload, 1) := by decide +kernel
theorem dL_law__1132 : decode cL_law_ 1132 = .ok (.invokevirtual 168, 3) := by decide +kernel
theorem dL_law__1135 : decode cL_law_ 1135 = .ok (.istore 6, 2) := by decide +kernel
theorem dL_law__1137 : decode cL_law_ 1137 = .ok (.aload_n 2, 1) := by decide +kernel
theorem dL_law__1138 : decode cL_law_ 1138 = .ok (.invokevirtual 102, 3) := by decide +kernel
theorem dL_law__1141 : decode cL_law_ 1141 = .ok (.iload 5, 2) := by decide +kernel
theorem dL_law__1143 : decode cL_law_ 1143 = .ok (.if_icmp .eq 5, 3) := by decide +kernel
theorem dL_law__1146 : decode cL_law_ 1146 = .ok (.iconst 0, 1) := by decide +kernel
theorem dL_law__1147 : decode cL_law_ 1147 = .ok (.ireturn, 1) := by decide +kernel
theorem dL_law__1148 : decode cL_law_ 1148 = .ok (.iload 5, 2) := by decide +kernel
theorem dL_law__1150 : decode cL_law_ 1150 = .ok (.ifCond .ne 15, 3) := by decide +kernel
theorem dL_law__1153 : decode cL_law_ 1153 = .ok (.aload_n 3, 1) := by decide +kernel
theorem dL_law__1154 : decode cL_law_ 1154 = .ok (.iconst 0, 1) := by decide +kernel
theorem dL_law__1155 : decode cL_law_ 1155 = .ok (.laload, 1) := by decide +kernel
theorem dL_law__1156 : decode cL_law_ 1156 = .ok (.iload 6, 2) := by decide +kernel
theorem dL_law__1158 : decode cL_law_ 1158 = .ok (.i2l, 1) := by decide +kernel
theorem dL_law__1159 : decode cL_law_ 1159 = .ok (.lcmp, 1) := by decide +kernel
theorem dL_law__1160 : decode cL_law_ 1160 = .ok (.ifCond .eq 5, 3) := by decide +kernel
theorem dL_law__1163 : decode cL_law_ 1163 = .ok (.iconst 0, 1) := by decide +kernel
theorem dL_law__1164 : decode cL_law_ 1164 = .ok (.ireturn, 1) := by decide +kernel
theorem dL_law__1165 : decode cL_law_ 1165 = .ok (.goto 606, 3) := by decide +kernel
theorem dL_law__1168 : decode cL_law_ 1168 = .ok (.aload_n 1, 1) := by decide +kernel
theorem dL_law__1169 : decode cL_law_ 1169 = .ok (.aload_n 0, 1) := by decide +kernel
theorem dL_law__1170 : decode cL_law_ 1170 = .ok (.iload 4, 2) := by decide +kernel
theorem dL_law__1172 : decode cL_law_ 1172 = .ok (.iconst 1, 1) := by decide +kernel
theorem dL_law__1173 : decode cL_law_ 1173 = .ok (.iadd, 1) := by decide +kernel
theorem dL_law__1174 : decode cL_law_ 1174 = .ok (.iaload, 1) := by decide +kernel
theorem dL_law__1175 : decode cL_law_ 1175 = .ok (.aload_n 0, 1) := by decide +kernel
theorem dL_law__1176 : decode cL_law_ 1176 = .ok (.iload 4, 2) := by decide +kernel
theorem dL_law__1178 : decode cL_law_ 1178 = .ok (.iconst 2, 1) := by decide +kernel
theorem dL_law__1179 : decode cL_law_ 1179 = .ok (.iadd, 1) := by decide +kernel
theorem dL_law__1180 : decode cL_law_ 1180 = .ok (.iaload, 1) := by decide +kernel
theorem dL_law__1181 : decode cL_law_ 1181 = .ok (.aload_n 0, 1) := by decide +kernel
theorem dL_law__1182 : decode cL_law_ 1182 = .ok (.iload 4, 2) := by decide +kernel
theorem dL_law__1184 : decode cL_law_ 1184 = .ok (.iconst 3, 1) := by decide +kernel
theorem dL_law__1185 : decode cL_law_ 1185 = .ok (.iadd, 1) := by decide +kernel
theorem dL_law__1186 : decode cL_law_ 1186 = .ok (.iaload, 1) := by decide +kernel
theorem dL_law__1187 : decode cL_law_ 1187 = .ok (.aload_n 3, 1) := by decide +kernel
theorem dL_law__1188 : decode cL_law_ 1188 = .ok (.invokestatic 169, 3) := by decide +kernel
theorem dL_law__1191 : decode cL_law_ 1191 = .ok (.istore 5, 2) := by decide +kernel
theorem dL_law__1193 : decode cL_law_ 1193 = .ok (.aload_n 2, 1) := by decide +kernel
theorem dL_law__1194 : decode cL_law_ 1194 = .ok (.aload_n 0, 1) := by decide +kernel
theorem dL_law__1195 : decode cL_law_ 1195 = .ok (.iload 4, 2) := by decide +kernel
theorem dL_law__1197 : decode cL_law_ 1197 = .ok (.iconst 1, 1) := by decide +kernel
theorem dL_law__1198 : decode cL_law_ 1198 = .ok (.iadd, 1) := by decide +kernel
theorem dL_law__1199 : decode cL_law_ 1199 = .ok (.iaload, 1) := by decide +kernel
theorem dL_law__1200 : decode cL_law_ 1200 = .ok (.aload_n 0, 1) := by decide +kernel
theorem dL_law__1201 : decode cL_law_ 1201 = .ok (.iload 4, 2) := by decide +kernel
theorem dL_law__1203 : decode cL_law_ 1203 = .ok (.iconst 2, 1) := by decide +kernel
theorem dL_law__1204 : decode cL_law_ 1204 = .ok (.iadd, 1) := by decide +kernel
theorem dL_law__1205 : decode cL_law_ 1205 = .ok (.iaload, 1) := by decide +kernel
theorem dL_law__1206 : decode cL_law_ 1206 = .ok (.aload_n 0, 1) := by decide +kernel
theorem dL_law__1207 : decode cL_law_ 1207 = .ok (.iload 4, 2) := by decide +kernel
theorem dL_law__1209 : decode cL_law_ 1209 = .ok (.iconst 3, 1) := by decide +kernel
theorem dL_law__1210 : decode cL_law_ 1210 = .ok (.iadd, 1) := by decide +kernel
theorem dL_law__1211 : decode cL_law_ 1211 = .ok (.iaload, 1) := by decide +kernel
theorem dL_law__1212 : decode cL_law_ 1212 = .ok (.invokevirtual 171, 3) := by decide +kernel
theorem dL_law__1215 : decode cL_law_ 1215 = .ok (.istore 6, 2) := by decide +kernel
theorem dL_law__1217 : decode cL_law_ 1217 = .ok (.aload_n 2, 1) := by decide +kernel
theorem dL_law__1218 : decode cL_law_ 1218 = .ok (.invokevirtual 102, 3) := by decide +kernel
theorem dL_law__1221 : decode cL_law_ 1221 = .ok (.iload 5, 2) := by decide +kernel
theorem dL_law__1223 : decode cL_law_ 1223 = .ok (.if_icmp .eq 5, 3) := by decide +kernel
theorem dL_law__1226 : decode cL_law_ 1226 = .ok (.iconst 0, 1) := by decide +kernel
theorem dL_law__1227 : decode cL_law_ 1227 = .ok (.ireturn, 1) := by decide +kernel
theorem dL_law__1228 : decode cL_law_ 1228 = .ok (.iload 5, 2) := by decide +kernel
theorem dL_law__1230 : decode cL_law_ 1230 = .ok (.ifCond .ne 15, 3) := by decide +kernel
theorem dL_law__1233 : decode cL_law_ 1233 = .ok (.aload_n 3, 1) := by decide +kernel
theorem dL_law__1234 : decode cL_law_ 1234 = .ok (.iconst 0, 1) := by decide +kernel
theorem dL_law__1235 : decode cL_law_ 1235 = .ok (.laload, 1) := by decide +kernel
theorem dL_law__1236 : decode cL_law_ 1236 = .ok (.iload 6, 2) := by decide +kernel
theorem dL_law__1238 : decode cL_law_ 1238 = .ok (.i2l, 1) := by decide +kernel
theorem dL_law__1239 : decode cL_law_ 1239 = .ok (.lcmp, 1) := by decide +kernel
theorem dL_law__1240 : decode cL_law_ 1240 = .ok (.ifCond .eq 5, 3) := by decide +kernel
theorem dL_law__1243 : decode cL_law_ 1243 = .ok (.iconst 0, 1) := by decide +kernel
theorem dL_law__1244 : decode cL_law_ 1244 = .ok (.ireturn, 1) := by decide +kernel
theorem dL_law__1245 : decode cL_law_ 1245 = .ok (.goto 526, 3) := by decide +kernel
theorem dL_law__1248 : decode cL_law_ 1248 = .ok (.aload_n 1, 1) := by decide +kernel
theorem dL_law__1249 : decode cL_law_ 1249 = .ok (.aload_n 0, 1) := by decide +kernel
theorem dL_law__1250 : decode cL_law_ 1250 = .ok (.iload 4, 2) := by decide +kernel
theorem dL_law__1252 : decode cL_law_ 1252 = .ok (.iconst 1, 1) := by decide +kernel
theorem dL_law__1253 : decode cL_law_ 1253 = .ok (.iadd, 1) := by decide +kernel
theorem dL_law__1254 : decode cL_law_ 1254 = .ok (.iaload, 1) := by decide +kernel
theorem dL_law__1255 : decode cL_law_ 1255 = .ok (.aload_n 3, 1) := by decide +kernel
theorem dL_law__1256 : decode cL_law_ 1256 = .ok (.invokestatic 172, 3) := by decide +kernel
theorem dL_law__1259 : decode cL_law_ 1259 = .ok (.istore 5, 2) := by decide +kernel
theorem dL_law__1261 : decode cL_law_ 1261 = .ok (.aload_n 2, 1) := by decide +kernel
theorem dL_law__1262 : decode cL_law_ 1262 = .ok (.aload_n 0, 1) := by decide +kernel
theorem dL_law__1263 : decode cL_law_ 1263 = .ok (.iload 4, 2) := by decide +kernel
theorem dL_law__1265 : decode cL_law_ 1265 = .ok (.iconst 1, 1) := by decide +kernel
theorem dL_law__1266 : decode cL_law_ 1266 = .ok (.iadd, 1) := by decide +kernel
theorem dL_law__1267 : decode cL_law_ 1267 = .ok (.iaload, 1) := by decide +kernel
theorem dL_law__1268 : decode cL_law_ 1268 = .ok (.invokevirtual 174, 3) := by decide +kernel
theorem dL_law__1271 : decode cL_law_ 1271 = .ok (.istore 6, 2) := by decide +kernel
theorem dL_law__1273 : decode cL_law_ 1273 = .ok (.aload_n 2, 1) := by decide +kernel
theorem dL_law__1274 : decode cL_law_ 1274 = .ok (.invokevirtual 102, 3) := by decide +kernel
theorem dL_law__1277 : decode cL_law_ 1277 = .ok (.iload 5, 2) := by decide +kernel
theorem dL_law__1279 : decode cL_law_ 1279 = .ok (.if_icmp .eq 5, 3) := by decide +kernel
theorem dL_law__1282 : decode cL_law_ 1282 = .ok (.iconst 0, 1) := by decide +kernel
theorem dL_law__1283 : decode cL_law_ 1283 = .ok (.ireturn, 1) := by decide +kernel
theorem dL_law__1284 : decode cL_law_ 1284 = .ok (.iload 5, 2) := by decide +kernel
theorem dL_law__1286 : decode cL_law_ 1286 = .ok (.ifCond .ne 15, 3) := by decide +kernel
theorem dL_law__1289 : decode cL_law_ 1289 = .ok (.aload_n 3, 1) := by decide +kernel
theorem dL_law__1290 : decode cL_law_ 1290 = .ok (.iconst 0, 1) := by decide +kernel
theorem dL_law__1291 : decode cL_law_ 1291 = .ok (.laload, 1) := by decide +kernel
theorem dL_law__1292 : decode cL_law_ 1292 = .ok (.iload 6, 2) := by decide +kernel
theorem dL_law__1294 : decode cL_law_ 1294 = .ok (.i2l, 1) := by decide +kernel
theorem dL_law__1295 : decode cL_law_ 1295 = .ok (.lcmp, 1) := by decide +kernel
theorem dL_law__1296 : decode cL_law_ 1296 = .ok (.ifCond .eq 5, 3) := by decide +kernel
theorem dL_law__1299 : decode cL_law_ 1299 = .ok (.iconst 0, 1) := by decide +kernel
theorem dL_law__1300 : decode cL_law_ 1300 = .ok (.ireturn, 1) := by decide +kernel
theorem dL_law__1301 : decode cL_law_ 1301 = .ok (.goto 470, 3) := by decide +kernel
theorem dL_law__1304 : decode cL_law_ 1304 = .ok (.aload_n 1, 1) := by decide +kernel
theorem dL_law__1305 : decode cL_law_ 1305 = .ok (.aload_n 0, 1) := by decide +kernel
theorem dL_law__1306 : decode cL_law_ 1306 = .ok (.iload 4, 2) := by decide +kernel
theorem dL_law__1308 : decode cL_law_ 1308 = .ok (.iconst 1, 1) := by decide +kernel
theorem dL_law__1309 : decode cL_law_ 1309 = .ok (.iadd, 1) := by decide +kernel
theorem dL_law__1310 : decode cL_law_ 1310 = .ok (.iaload, 1) := by decide +kernel
theorem dL_law__1311 : decode cL_law_ 1311 = .ok (.aload_n 3, 1) := by decide +kernel

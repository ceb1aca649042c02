theorem dc_W_law_1066 : decode bc_W_law 1066 = .ok (.iaload, 1) := by decide +kernel
theorem dc_W_law_1067 : decode bc_W_law 1067 = .ok (.invokevirtual 102, 3) := by decide +kernel
theorem dc_W_law_1070 : decode bc_W_law 1070 = .ok (.aload_n 2, 1) := by decide +kernel
theorem dc_W_law_1071 : decode bc_W_law 1071 = .ok (.aload_n 0, 1) := by decide +kernel
theorem dc_W_law_1072 : decode bc_W_law 1072 = .ok (.iload_n 3, 1) := by decide +kernel
theorem dc_W_law_1073 : decode bc_W_law 1073 = .ok (.iconst 1, 1) := by decide +kernel
theorem dc_W_law_1074 : decode bc_W_law 1074 = .ok (.iadd, 1) := by decide +kernel
theorem dc_W_law_1075 : decode bc_W_law 1075 = .ok (.iaload, 1) := by decide +kernel
theorem dc_W_law_1076 : decode bc_W_law 1076 = .ok (.invokevirtual 106, 3) := by decide +kernel
theorem dc_W_law_1079 : decode bc_W_law 1079 = .ok (.if_icmp .eq 276, 3) := by decide +kernel
theorem dc_W_law_1082 : decode bc_W_law 1082 = .ok (.iconst 0, 1) := by decide +kernel
theorem dc_W_law_1083 : decode bc_W_law 1083 = .ok (.ireturn, 1) := by decide +kernel
theorem dc_W_law_1084 : decode bc_W_law 1084 = .ok (.aload_n 1, 1) := by decide +kernel
theorem dc_W_law_1085 : decode bc_W_law 1085 = .ok (.aload_n 0, 1) := by decide +kernel
theorem dc_W_law_1086 : decode bc_W_law 1086 = .ok (.iload_n 3, 1) := by decide +kernel
theorem dc_W_law_1087 : decode bc_W_law 1087 = .ok (.iconst 1, 1) := by decide +kernel
theorem dc_W_law_1088 : decode bc_W_law 1088 = .ok (.iadd, 1) := by decide +kernel
theorem dc_W_law_1089 : decode bc_W_law 1089 = .ok (.iaload, 1) := by decide +kernel
theorem dc_W_law_1090 : decode bc_W_law 1090 = .ok (.invokevirtual 107, 3) := by decide +kernel
theorem dc_W_law_1093 : decode bc_W_law 1093 = .ok (.aload_n 2, 1) := by decide +kernel
theorem dc_W_law_1094 : decode bc_W_law 1094 = .ok (.aload_n 0, 1) := by decide +kernel
theorem dc_W_law_1095 : decode bc_W_law 1095 = .ok (.iload_n 3, 1) := by decide +kernel
theorem dc_W_law_1096 : decode bc_W_law 1096 = .ok (.iconst 1, 1) := by decide +kernel
theorem dc_W_law_1097 : decode bc_W_law 1097 = .ok (.iadd, 1) := by decide +kernel
theorem dc_W_law_1098 : decode bc_W_law 1098 = .ok (.iaload, 1) := by decide +kernel
theorem dc_W_law_1099 : decode bc_W_law 1099 = .ok (.invokevirtual 110, 3) := by decide +kernel
theorem dc_W_law_1102 : decode bc_W_law 1102 = .ok (.if_icmp .eq 253, 3) := by decide +kernel
theorem dc_W_law_1105 : decode bc_W_law 1105 = .ok (.iconst 0, 1) := by decide +kernel
theorem dc_W_law_1106 : decode bc_W_law 1106 = .ok (.ireturn, 1) := by decide +kernel
theorem dc_W_law_1107 : decode bc_W_law 1107 = .ok (.aload_n 1, 1) := by decide +kernel
theorem dc_W_law_1108 : decode bc_W_law 1108 = .ok (.aload_n 0, 1) := by decide +kernel
theorem dc_W_law_1109 : decode bc_W_law 1109 = .ok (.iload_n 3, 1) := by decide +kernel
theorem dc_W_law_1110 : decode bc_W_law 1110 = .ok (.iconst 1, 1) := by decide +kernel
theorem dc_W_law_1111 : decode bc_W_law 1111 = .ok (.iadd, 1) := by decide +kernel
theorem dc_W_law_1112 : decode bc_W_law 1112 = .ok (.iaload, 1) := by decide +kernel
theorem dc_W_law_1113 : decode bc_W_law 1113 = .ok (.aload_n 0, 1) := by decide +kernel
theorem dc_W_law_1114 : decode bc_W_law 1114 = .ok (.iload_n 3, 1) := by decide +kernel
theorem dc_W_law_1115 : decode bc_W_law 1115 = .ok (.iconst 2, 1) := by decide +kernel
theorem dc_W_law_1116 : decode bc_W_law 1116 = .ok (.iadd, 1) := by decide +kernel
theorem dc_W_law_1117 : decode bc_W_law 1117 = .ok (.iaload, 1) := by decide +kernel
theorem dc_W_law_1118 : decode bc_W_law 1118 = .ok (.i2l, 1) := by decide +kernel
theorem dc_W_law_1119 : decode bc_W_law 1119 = .ok (.bipush 32, 2) := by decide +kernel
theorem dc_W_law_1121 : decode bc_W_law 1121 = .ok (.lshl, 1) := by decide +kernel
theorem dc_W_law_1122 : decode bc_W_law 1122 = .ok (.aload_n 0, 1) := by decide +kernel
theorem dc_W_law_1123 : decode bc_W_law 1123 = .ok (.iload_n 3, 1) := by decide +kernel
theorem dc_W_law_1124 : decode bc_W_law 1124 = .ok (.iconst 3, 1) := by decide +kernel
theorem dc_W_law_1125 : decode bc_W_law 1125 = .ok (.iadd, 1) := by decide +kernel
theorem dc_W_law_1126 : decode bc_W_law 1126 = .ok (.iaload, 1) := by decide +kernel
theorem dc_W_law_1127 : decode bc_W_law 1127 = .ok (.i2l, 1) := by decide +kernel
theorem dc_W_law_1128 : decode bc_W_law 1128 = .ok (.ldc2_w 13, 3) := by decide +kernel
theorem dc_W_law_1131 : decode bc_W_law 1131 = .ok (.land, 1) := by decide +kernel
theorem dc_W_law_1132 : decode bc_W_law 1132 = .ok (.lor, 1) := by decide +kernel
theorem dc_W_law_1133 : decode bc_W_law 1133 = .ok (.invokevirtual 111, 3) := by decide +kernel
theorem dc_W_law_1136 : decode bc_W_law 1136 = .ok (.aload_n 2, 1) := by decide +kernel
theorem dc_W_law_1137 : decode bc_W_law 1137 = .ok (.aload_n 0, 1) := by decide +kernel
theorem dc_W_law_1138 : decode bc_W_law 1138 = .ok (.iload_n 3, 1) := by decide +kernel
theorem dc_W_law_1139 : decode bc_W_law 1139 = .ok (.iconst 1, 1) := by decide +kernel
theorem dc_W_law_1140 : decode bc_W_law 1140 = .ok (.iadd, 1) := by decide +kernel
theorem dc_W_law_1141 : decode bc_W_law 1141 = .ok (.iaload, 1) := by decide +kernel
theorem dc_W_law_1142 : decode bc_W_law 1142 = .ok (.aload_n 0, 1) := by decide +kernel
theorem dc_W_law_1143 : decode bc_W_law 1143 = .ok (.iload_n 3, 1) := by decide +kernel
theorem dc_W_law_1144 : decode bc_W_law 1144 = .ok (.iconst 2, 1) := by decide +kernel
theorem dc_W_law_1145 : decode bc_W_law 1145 = .ok (.iadd, 1) := by decide +kernel
theorem dc_W_law_1146 : decode bc_W_law 1146 = .ok (.iaload, 1) := by decide +kernel
theorem dc_W_law_1147 : decode bc_W_law 1147 = .ok (.i2l, 1) := by decide +kernel
theorem dc_W_law_1148 : decode bc_W_law 1148 = .ok (.bipush 32, 2) := by decide +kernel
theorem dc_W_law_1150 : decode bc_W_law 1150 = .ok (.lshl, 1) := by decide +kernel
theorem dc_W_law_1151 : decode bc_W_law 1151 = .ok (.aload_n 0, 1) := by decide +kernel
theorem dc_W_law_1152 : decode bc_W_law 1152 = .ok (.iload_n 3, 1) := by decide +kernel
theorem dc_W_law_1153 : decode bc_W_law 1153 = .ok (.iconst 3, 1) := by decide +kernel
theorem dc_W_law_1154 : decode bc_W_law 1154 = .ok (.iadd, 1) := by decide +kernel
theorem dc_W_law_1155 : decode bc_W_law 1155 = .ok (.iaload, 1) := by decide +kernel
theorem dc_W_law_1156 : decode bc_W_law 1156 = .ok (.i2l, 1) := by decide +kernel
theorem dc_W_law_1157 : decode bc_W_law 1157 = .ok (.ldc2_w 13, 3) := by decide +kernel
theorem dc_W_law_1160 : decode bc_W_law 1160 = .ok (.land, 1) := by decide +kernel
theorem dc_W_law_1161 : decode bc_W_law 1161 = .ok (.lor, 1) := by decide +kernel
theorem dc_W_law_1162 : decode bc_W_law 1162 = .ok (.invokevirtual 115, 3) := by decide +kernel
theorem dc_W_law_1165 : decode bc_W_law 1165 = .ok (.lcmp, 1) := by decide +kernel
theorem dc_W_law_1166 : decode bc_W_law 1166 = .ok (.ifCond .eq 189, 3) := by decide +kernel
theorem dc_W_law_1169 : decode bc_W_law 1169 = .ok (.iconst 0, 1) := by decide +kernel
theorem dc_W_law_1170 : decode bc_W_law 1170 = .ok (.ireturn, 1) := by decide +kernel
theorem dc_W_law_1171 : decode bc_W_law 1171 = .ok (.aload_n 1, 1) := by decide +kernel
theorem dc_W_law_1172 : decode bc_W_law 1172 = .ok (.aload_n 0, 1) := by decide +kernel
theorem dc_W_law_1173 : decode bc_W_law 1173 = .ok (.iload_n 3, 1) := by decide +kernel
theorem dc_W_law_1174 : decode bc_W_law 1174 = .ok (.iconst 1, 1) := by decide +kernel
theorem dc_W_law_1175 : decode bc_W_law 1175 = .ok (.iadd, 1) := by decide +kernel
theorem dc_W_law_1176 : decode bc_W_law 1176 = .ok (.iaload, 1) := by decide +kernel
theorem dc_W_law_1177 : decode bc_W_law 1177 = .ok (.aload_n 0, 1) := by decide +kernel
theorem dc_W_law_1178 : decode bc_W_law 1178 = .ok (.iload_n 3, 1) := by decide +kernel
theorem dc_W_law_1179 : decode bc_W_law 1179 = .ok (.iconst 2, 1) := by decide +kernel
theorem dc_W_law_1180 : decode bc_W_law 1180 = .ok (.iadd, 1) := by decide +kernel
theorem dc_W_law_1181 : decode bc_W_law 1181 = .ok (.iaload, 1) := by decide +kernel
theorem dc_W_law_1182 : decode bc_W_law 1182 = .ok (.i2l, 1) := by decide +kernel
theorem dc_W_law_1183 : decode bc_W_law 1183 = .ok (.bipush 32, 2) := by decide +kernel
theorem dc_W_law_1185 : decode bc_W_law 1185 = .ok (.lshl, 1) := by decide +kernel
theorem dc_W_law_1186 : decode bc_W_law 1186 = .ok (.aload_n 0, 1) := by decide +kernel
theorem dc_W_law_1187 : decode bc_W_law 1187 = .ok (.iload_n 3, 1) := by decide +kernel
theorem dc_W_law_1188 : decode bc_W_law 1188 = .ok (.iconst 3, 1) := by decide +kernel
theorem dc_W_law_1189 : decode bc_W_law 1189 = .ok (.iadd, 1) := by decide +kernel
theorem dc_W_law_1190 : decode bc_W_law 1190 = .ok (.iaload, 1) := by decide +kernel
theorem dc_W_law_1191 : decode bc_W_law 1191 = .ok (.i2l, 1) := by decide +kernel
theorem dc_W_law_1192 : decode bc_W_law 1192 = .ok (.ldc2_w 13, 3) := by decide +kernel
theorem dc_W_law_1195 : decode bc_W_law 1195 = .ok (.land, 1) := by decide +kernel
theorem dc_W_law_1196 : decode bc_W_law 1196 = .ok (.lor, 1) := by decide +kernel
theorem dc_W_law_1197 : decode bc_W_law 1197 = .ok (.aload_n 0, 1) := by decide +kernel
theorem dc_W_law_1198 : decode bc_W_law 1198 = .ok (.iload_n 3, 1) := by decide +kernel
theorem dc_W_law_1199 : decode bc_W_law 1199 = .ok (.iconst 4, 1) := by decide +kernel
theorem dc_W_law_1200 : decode bc_W_law 1200 = .ok (.iadd, 1) := by decide +kernel
theorem dc_W_law_1201 : decode bc_W_law 1201 = .ok (.iaload, 1) := by decide +kernel
theorem dc_W_law_1202 : decode bc_W_law 1202 = .ok (.i2l, 1) := by decide +kernel
theorem dc_W_law_1203 : decode bc_W_law 1203 = .ok (.bipush 32, 2) := by decide +kernel
theorem dc_W_law_1205 : decode bc_W_law 1205 = .ok (.lshl, 1) := by decide +kernel
theorem dc_W_law_1206 : decode bc_W_law 1206 = .ok (.aload_n 0, 1) := by decide +kernel
theorem dc_W_law_1207 : decode bc_W_law 1207 = .ok (.iload_n 3, 1) := by decide +kernel
theorem dc_W_law_1208 : decode bc_W_law 1208 = .ok (.iconst 5, 1) := by decide +kernel
theorem dc_W_law_1209 : decode bc_W_law 1209 = .ok (.iadd, 1) := by decide +kernel
theorem dc_W_law_1210 : decode bc_W_law 1210 = .ok (.iaload, 1) := by decide +kernel
theorem dc_W_law_1211 : decode bc_W_law 1211 = .ok (.i2l, 1) := by decide +kernel
theorem dc_W_law_1212 : decode bc_W_law 1212 = .ok (.ldc2_w 13, 3) := by decide +kernel
theorem dc_W_law_1215 : decode bc_W_law 1215 = .ok (.land, 1) := by decide +kernel
theorem dc_W_law_1216 : decode bc_W_law 1216 = .ok (.lor, 1) := by decide +kernel
theorem dc_W_law_1217 : decode bc_W_law 1217 = .ok (.invokevirtual 116, 3) := by decide +kernel
theorem dc_W_law_1220 : decode bc_W_law 1220 = .ok (.aload_n 2, 1) := by decide +kernel
theorem dc_W_law_1221 : decode bc_W_law 1221 = .ok (.aload_n 0, 1) := by decide +kernel
theorem dc_W_law_1222 : decode bc_W_law 1222 = .ok (.iload_n 3, 1) := by decide +kernel
theorem dc_W_law_1223 : decode bc_W_law 1223 = .ok (.iconst 1, 1) := by decide +kernel
theorem dc_W_law_1224 : decode bc_W_law 1224 = .ok (.iadd, 1) := by decide +kernel
theorem dc_W_law_1225 : decode bc_W_law 1225 = .ok (.iaload, 1) := by decide +kernel
theorem dc_W_law_1226 : decode bc_W_law 1226 = .ok (.aload_n 0, 1) := by decide +kernel
theorem dc_W_law_1227 : decode bc_W_law 1227 = .ok (.iload_n 3, 1) := by decide +kernel
theorem dc_W_law_1228 : decode bc_W_law 1228 = .ok (.iconst 2, 1) := by decide +kernel
theorem dc_W_law_1229 : decode bc_W_law 1229 = .ok (.iadd, 1) := by decide +kernel
theorem dc_W_law_1230 : decode bc_W_law 1230 = .ok (.iaload, 1) := by decide +kernel
theorem dc_W_law_1231 : decode bc_W_law 1231 = .ok (.i2l, 1) := by decide +kernel
theorem dc_W_law_1232 : decode bc_W_law 1232 = .ok (.bipush 32, 2) := by decide +kernel
theorem dc_W_law_1234 : decode bc_W_law 1234 = .ok (.lshl, 1) := by decide +kernel
theorem dc_W_law_1235 : decode bc_W_law 1235 = .ok (.aload_n 0, 1) := by decide +kernel
theorem dc_W_law_1236 : decode bc_W_law 1236 = .ok (.iload_n 3, 1) := by decide +kernel
theorem dc_W_law_1237 : decode bc_W_law 1237 = .ok (.iconst 3, 1) := by decide +kernel
theorem dc_W_law_1238 : decode bc_W_law 1238 = .ok (.iadd, 1) := by decide +kernel
theorem dc_W_law_1239 : decode bc_W_law 1239 = .ok (.iaload, 1) := by decide +kernel
theorem dc_W_law_1240 : decode bc_W_law 1240 = .ok (.i2l, 1) := by decide +kernel
theorem dc_W_law_1241 : decode bc_W_law 1241 = .ok (.ldc2_w 13, 3) := by decide +kernel
theorem dc_W_law_1244 : decode bc_W_law 1244 = .ok (.land, 1) := by decide +kernel
theorem dc_W_law_1245 : decode bc_W_law 1245 = .ok (.lor, 1) := by decide +kernel
theorem dc_W_law_1246 : decode bc_W_law 1246 = .ok (.aload_n 0, 1) := by decide +kernel
theorem dc_W_law_1247 : decode bc_W_law 1247 = .ok (.iload_n 3, 1) := by decide +kernel
theorem dc_W_law_1248 : decode bc_W_law 1248 = .ok (.iconst 4, 1) := by decide +kernel
theorem dc_W_law_1249 : decode bc_W_law 1249 = .ok (.iadd, 1) := by decide +kernel
theorem dc_W_law_1250 : decode bc_W_law 1250 = .ok (.iaload, 1) := by decide +kernel
theorem dc_W_law_1251 : decode bc_W_law 1251 = .ok (.i2l, 1) := by decide +kernel
theorem dc_W_law_1252 : decode bc_W_law 1252 = .ok (.bipush 32, 2) := by decide +kernel
theorem dc_W_law_1254 : decode bc_W_law 1254 = .ok (.lshl, 1) := by decide +kernel
theorem dc_W_law_1255 : decode bc_W_law 1255 = .ok (.aload_n 0, 1) := by decide +kernel
theorem dc_W_law_1256 : decode bc_W_law 1256 = .ok (.iload_n 3, 1) := by decide +kernel
theorem dc_W_law_1257 : decode bc_W_law 1257 = .ok (.iconst 5, 1) := by decide +kernel
theorem dc_W_law_1258 : decode bc_W_law 1258 = .ok (.iadd, 1) := by decide +kernel
theorem dc_W_law_1259 : decode bc_W_law 1259 = .ok (.iaload, 1) := by decide +kernel
theorem dc_W_law_1260 : decode bc_W_law 1260 = .ok (.i2l, 1) := by decide +kernel
theorem dc_W_law_1261 : decode bc_W_law 1261 = .ok (.ldc2_w 13, 3) := by decide +kernel
theorem dc_W_law_1264 : decode bc_W_law 1264 = .ok (.land, 1) := by decide +kernel
theorem dc_W_law_1265 : decode bc_W_law 1265 = .ok (.lor, 1) := by decide +kernel
theorem dc_W_law_1266 : decode bc_W_law 1266 = .ok (.invokevirtual 120, 3) := by decide +kernel
theorem dc_W_law_1269 : decode bc_W_law 1269 = .ok (.if_icmp .eq 86, 3) := by decide +kernel
theorem dc_W_law_1272 : decode bc_W_law 1272 = .ok (.iconst 0, 1) := by decide +kernel
theorem dc_W_law_1273 : decode bc_W_law 1273 = .ok (.ireturn, 1) := by decide +kernel
theorem dc_W_law_1274 : decode bc_W_law 1274 = .ok (.aload_n 1, 1) := by decide +kernel
theorem dc_W_law_1275 : decode bc_W_law 1275 = .ok (.aload_n 0, 1) := by decide +kernel
theorem dc_W_law_1276 : decode bc_W_law 1276 = .ok (.iload_n 3, 1) := by decide +kernel
theorem dc_W_law_1277 : decode bc_W_law 1277 = .ok (.iconst 1, 1) := by decide +kernel
theorem dc_W_law_1278 : decode bc_W_law 1278 = .ok (.iadd, 1) := by decide +kernel
theorem dc_W_law_1279 : decode bc_W_law 1279 = .ok (.iaload, 1) := by decide +kernel
theorem dc_W_law_1280 : decode bc_W_law 1280 = .ok (.invokevirtual 121, 3) := by decide +kernel
theorem dc_W_law_1283 : decode bc_W_law 1283 = .ok (.aload_n 2, 1) := by decide +kernel
theorem dc_W_law_1284 : decode bc_W_law 1284 = .ok (.aload_n 0, 1) := by decide +kernel
theorem dc_W_law_1285 : decode bc_W_law 1285 = .ok (.iload_n 3, 1) := by decide +kernel
theorem dc_W_law_1286 : decode bc_W_law 1286 = .ok (.iconst 1, 1) := by decide +kernel
theorem dc_W_law_1287 : decode bc_W_law 1287 = .ok (.iadd, 1) := by decide +kernel
theorem dc_W_law_1288 : decode bc_W_law 1288 = .ok (.iaload, 1) := by decide +kernel
theorem dc_W_law_1289 : decode bc_W_law 1289 = .ok (.invokevirtual 125, 3) := by decide +kernel
theorem dc_W_law_1292 : decode bc_W_law 1292 = .ok (.lcmp, 1) := by decide +kernel
theorem dc_W_law_1293 : decode bc_W_law 1293 = .ok (.ifCond .eq 62, 3) := by decide +kernel
theorem dc_W_law_1296 : decode bc_W_law 1296 = .ok (.iconst 0, 1) := by decide +kernel
theorem dc_W_law_1297 : decode bc_W_law 1297 = .ok (.ireturn, 1) := by decide +kernel
theorem dc_W_law_1298 : decode bc_W_law 1298 = .ok (.aload_n 1, 1) := by decide +kernel
theorem dc_W_law_1299 : decode bc_W_law 1299 = .ok (.aload_n 0, 1) := by decide +kernel
theorem dc_W_law_1300 : decode bc_W_law 1300 = .ok (.iload_n 3, 1) := by decide +kernel
theorem dc_W_law_1301 : decode bc_W_law 1301 = .ok (.iconst 1, 1) := by decide +kernel
theorem dc_W_law_1302 : decode bc_W_law 1302 = .ok (.iadd, 1) := by decide +kernel
theorem dc_W_law_1303 : decode bc_W_law 1303 = .ok (.iaload, 1) := by decide +kernel
theorem dc_W_law_1304 : decode bc_W_law 1304 = .ok (.aload_n 0, 1) := by decide +kernel
theorem dc_W_law_1305 : decode bc_W_law 1305 = .ok (.iload_n 3, 1) := by decide +kernel
theorem dc_W_law_1306 : decode bc_W_law 1306 = .ok (.iconst 2, 1) := by decide +kernel
theorem dc_W_law_1307 : decode bc_W_law 1307 = .ok (.iadd, 1) := by decide +kernel
theorem dc_W_law_1308 : decode bc_W_law 1308 = .ok (.iaload, 1) := by decide +kernel
theorem dc_W_law_1309 : decode bc_W_law 1309 = .ok (.invokevirtual 126, 3) := by decide +kernel
theorem dc_W_law_1312 : decode bc_W_law 1312 = .ok (.aload_n 2, 1) := by decide +kernel
theorem dc_W_law_1313 : decode bc_W_law 1313 = .ok (.aload_n 0, 1) := by decide +kernel
theorem dc_W_law_1314 : decode bc_W_law 1314 = .ok (.iload_n 3, 1) := by decide +kernel
theorem dc_W_law_1315 : decode bc_W_law 1315 = .ok (.iconst 1, 1) := by decide +kernel
theorem dc_W_law_1316 : decode bc_W_law 1316 = .ok (.iadd, 1) := by decide +kernel
theorem dc_W_law_1317 : decode bc_W_law 1317 = .ok (.iaload, 1) := by decide +kernel
theorem dc_W_law_1318 : decode bc_W_law 1318 = .ok (.aload_n 0, 1) := by decide +kernel
theorem dc_W_law_1319 : decode bc_W_law 1319 = .ok (.iload_n 3, 1) := by decide +kernel
theorem dc_W_law_1320 : decode bc_W_law 1320 = .ok (.iconst 2, 1) := by decide +kernel
theorem dc_W_law_1321 : decode bc_W_law 1321 = .ok (.iadd, 1) := by decide +kernel
theorem dc_W_law_1322 : decode bc_W_law 1322 = .ok (.iaload, 1) := by decide +kernel
theorem dc_W_law_1323 : decode bc_W_law 1323 = .ok (.invokevirtual 129, 3) := by decide +kernel
theorem dc_W_law_1326 : decode bc_W_law 1326 = .ok (.lcmp, 1) := by decide +kernel
theorem dc_W_law_1327 : decode bc_W_law 1327 = .ok (.ifCond .eq 28, 3) := by decide +kernel
theorem dc_W_law_1330 : decode bc_W_law 1330 = .ok (.iconst 0, 1) := by decide +kernel
theorem dc_W_law_1331 : decode bc_W_law 1331 = .ok (.ireturn, 1) := by decide +kernel
theorem dc_W_law_1332 : decode bc_W_law 1332 = .ok (.aload_n 1, 1) := by decide +kernel
theorem dc_W_law_1333 : decode bc_W_law 1333 = .ok (.aload_n 0, 1) := by decide +kernel
theorem dc_W_law_1334 : decode bc_W_law 1334 = .ok (.iload_n 3, 1) := by decide +kernel
theorem dc_W_law_1335 : decode bc_W_law 1335 = .ok (.iconst 1, 1) := by decide +kernel
theorem dc_W_law_1336 : decode bc_W_law 1336 = .ok (.iadd, 1) := by decide +kernel
theorem dc_W_law_1337 : decode bc_W_law 1337 = .ok (.iaload, 1) := by decide +kernel
theorem dc_W_law_1338 : decode bc_W_law 1338 = .ok (.invokevirtual 130, 3) := by decide +kernel
theorem dc_W_law_1341 : decode bc_W_law 1341 = .ok (.aload_n 2, 1) := by decide +kernel
theorem dc_W_law_1342 : decode bc_W_law 1342 = .ok (.aload_n 0, 1) := by decide +kernel
theorem dc_W_law_1343 : decode bc_W_law 1343 = .ok (.iload_n 3, 1) := by decide +kernel
theorem dc_W_law_1344 : decode bc_W_law 1344 = .ok (.iconst 1, 1) := by decide +kernel
theorem dc_W_law_1345 : decode bc_W_law 1345 = .ok (.iadd, 1) := by decide +kernel
theorem dc_W_law_1346 : decode bc_W_law 1346 = .ok (.iaload, 1) := by decide +kernel
theorem dc_W_law_1347 : decode bc_W_law 1347 = .ok (.invokevirtual 133, 3) := by decide +kernel
theorem dc_W_law_1350 : decode bc_W_law 1350 = .ok (.if_icmp .eq 5, 3) := by decide +kernel
theorem dc_W_law_1353 : decode bc_W_law 1353 = .ok (.iconst 0, 1) := by decide +kernel
theorem dc_W_law_1354 : decode bc_W_law 1354 = .ok (.ireturn, 1) := by decide +kernel
theorem dc_W_law_1355 : decode bc_W_law 1355 = .ok (.iinc 3 8, 3) := by decide +kernel
theorem dc_W_law_1358 : decode bc_W_law 1358 = .ok (.goto (-1340), 3) := by decide +kernel
theorem dc_W_law_1361 : decode bc_W_law 1361 = .ok (.iconst 1, 1) := by decide +kernel
theorem dc_W_law_1362 : decode bc_W_law 1362 = .ok (.ireturn, 1) := by decide +kernel

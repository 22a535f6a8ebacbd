/-! WHAT STANDS WHERE IN THE LAW (printed by wip/gen8.py) -/
theorem dl_1030 : decode code 1030 = .ok ((.iload_n 3), 1) := by decide +kernel
theorem dl_1031 : decode code 1031 = .ok ((.iconst 2), 1) := by decide +kernel
theorem dl_1032 : decode code 1032 = .ok (.iadd, 1) := by decide +kernel
theorem dl_1033 : decode code 1033 = .ok (.iaload, 1) := by decide +kernel
theorem dl_1034 : decode code 1034 = .ok ((.aload_n 0), 1) := by decide +kernel
theorem dl_1035 : decode code 1035 = .ok ((.iload_n 3), 1) := by decide +kernel
theorem dl_1036 : decode code 1036 = .ok ((.iconst 3), 1) := by decide +kernel
theorem dl_1037 : decode code 1037 = .ok (.iadd, 1) := by decide +kernel
theorem dl_1038 : decode code 1038 = .ok (.iaload, 1) := by decide +kernel
theorem dl_1039 : decode code 1039 = .ok ((.invokevirtual 109), 3) := by decide +kernel
theorem dl_1042 : decode code 1042 = .ok ((.aload_n 2), 1) := by decide +kernel
theorem dl_1043 : decode code 1043 = .ok ((.aload_n 0), 1) := by decide +kernel
theorem dl_1044 : decode code 1044 = .ok ((.iload_n 3), 1) := by decide +kernel
theorem dl_1045 : decode code 1045 = .ok ((.iconst 1), 1) := by decide +kernel
theorem dl_1046 : decode code 1046 = .ok (.iadd, 1) := by decide +kernel
theorem dl_1047 : decode code 1047 = .ok (.iaload, 1) := by decide +kernel
theorem dl_1048 : decode code 1048 = .ok ((.aload_n 0), 1) := by decide +kernel
theorem dl_1049 : decode code 1049 = .ok ((.iload_n 3), 1) := by decide +kernel
theorem dl_1050 : decode code 1050 = .ok ((.iconst 2), 1) := by decide +kernel
theorem dl_1051 : decode code 1051 = .ok (.iadd, 1) := by decide +kernel
theorem dl_1052 : decode code 1052 = .ok (.iaload, 1) := by decide +kernel
theorem dl_1053 : decode code 1053 = .ok ((.aload_n 0), 1) := by decide +kernel
theorem dl_1054 : decode code 1054 = .ok ((.iload_n 3), 1) := by decide +kernel
theorem dl_1055 : decode code 1055 = .ok ((.iconst 3), 1) := by decide +kernel
theorem dl_1056 : decode code 1056 = .ok (.iadd, 1) := by decide +kernel
theorem dl_1057 : decode code 1057 = .ok (.iaload, 1) := by decide +kernel
theorem dl_1058 : decode code 1058 = .ok ((.invokevirtual 112), 3) := by decide +kernel
theorem dl_1061 : decode code 1061 = .ok ((.if_icmp .eq 710), 3) := by decide +kernel
theorem dl_1064 : decode code 1064 = .ok ((.iconst 0), 1) := by decide +kernel
theorem dl_1065 : decode code 1065 = .ok (.ireturn, 1) := by decide +kernel
theorem dl_1066 : decode code 1066 = .ok ((.aload_n 1), 1) := by decide +kernel
theorem dl_1067 : decode code 1067 = .ok ((.aload_n 0), 1) := by decide +kernel
theorem dl_1068 : decode code 1068 = .ok ((.iload_n 3), 1) := by decide +kernel
theorem dl_1069 : decode code 1069 = .ok ((.iconst 1), 1) := by decide +kernel
theorem dl_1070 : decode code 1070 = .ok (.iadd, 1) := by decide +kernel
theorem dl_1071 : decode code 1071 = .ok (.iaload, 1) := by decide +kernel
theorem dl_1072 : decode code 1072 = .ok ((.aload_n 0), 1) := by decide +kernel
theorem dl_1073 : decode code 1073 = .ok ((.iload_n 3), 1) := by decide +kernel
theorem dl_1074 : decode code 1074 = .ok ((.iconst 2), 1) := by decide +kernel
theorem dl_1075 : decode code 1075 = .ok (.iadd, 1) := by decide +kernel
theorem dl_1076 : decode code 1076 = .ok (.iaload, 1) := by decide +kernel
theorem dl_1077 : decode code 1077 = .ok ((.invokevirtual 113), 3) := by decide +kernel
theorem dl_1080 : decode code 1080 = .ok ((.aload_n 2), 1) := by decide +kernel
theorem dl_1081 : decode code 1081 = .ok ((.aload_n 0), 1) := by decide +kernel
theorem dl_1082 : decode code 1082 = .ok ((.iload_n 3), 1) := by decide +kernel
theorem dl_1083 : decode code 1083 = .ok ((.iconst 1), 1) := by decide +kernel
theorem dl_1084 : decode code 1084 = .ok (.iadd, 1) := by decide +kernel
theorem dl_1085 : decode code 1085 = .ok (.iaload, 1) := by decide +kernel
theorem dl_1086 : decode code 1086 = .ok ((.aload_n 0), 1) := by decide +kernel
theorem dl_1087 : decode code 1087 = .ok ((.iload_n 3), 1) := by decide +kernel
theorem dl_1088 : decode code 1088 = .ok ((.iconst 2), 1) := by decide +kernel
theorem dl_1089 : decode code 1089 = .ok (.iadd, 1) := by decide +kernel
theorem dl_1090 : decode code 1090 = .ok (.iaload, 1) := by decide +kernel
theorem dl_1091 : decode code 1091 = .ok ((.invokevirtual 116), 3) := by decide +kernel
theorem dl_1094 : decode code 1094 = .ok ((.if_icmp .eq 677), 3) := by decide +kernel
theorem dl_1097 : decode code 1097 = .ok ((.iconst 0), 1) := by decide +kernel
theorem dl_1098 : decode code 1098 = .ok (.ireturn, 1) := by decide +kernel
theorem dl_1099 : decode code 1099 = .ok ((.aload_n 1), 1) := by decide +kernel
theorem dl_1100 : decode code 1100 = .ok ((.aload_n 0), 1) := by decide +kernel
theorem dl_1101 : decode code 1101 = .ok ((.iload_n 3), 1) := by decide +kernel
theorem dl_1102 : decode code 1102 = .ok ((.iconst 1), 1) := by decide +kernel
theorem dl_1103 : decode code 1103 = .ok (.iadd, 1) := by decide +kernel
theorem dl_1104 : decode code 1104 = .ok (.iaload, 1) := by decide +kernel
theorem dl_1105 : decode code 1105 = .ok ((.aload_n 0), 1) := by decide +kernel
theorem dl_1106 : decode code 1106 = .ok ((.iload_n 3), 1) := by decide +kernel
theorem dl_1107 : decode code 1107 = .ok ((.iconst 2), 1) := by decide +kernel
theorem dl_1108 : decode code 1108 = .ok (.iadd, 1) := by decide +kernel
theorem dl_1109 : decode code 1109 = .ok (.iaload, 1) := by decide +kernel
theorem dl_1110 : decode code 1110 = .ok ((.invokevirtual 117), 3) := by decide +kernel
theorem dl_1113 : decode code 1113 = .ok ((.aload_n 2), 1) := by decide +kernel
theorem dl_1114 : decode code 1114 = .ok ((.aload_n 0), 1) := by decide +kernel
theorem dl_1115 : decode code 1115 = .ok ((.iload_n 3), 1) := by decide +kernel
theorem dl_1116 : decode code 1116 = .ok ((.iconst 1), 1) := by decide +kernel
theorem dl_1117 : decode code 1117 = .ok (.iadd, 1) := by decide +kernel
theorem dl_1118 : decode code 1118 = .ok (.iaload, 1) := by decide +kernel
theorem dl_1119 : decode code 1119 = .ok ((.aload_n 0), 1) := by decide +kernel
theorem dl_1120 : decode code 1120 = .ok ((.iload_n 3), 1) := by decide +kernel
theorem dl_1121 : decode code 1121 = .ok ((.iconst 2), 1) := by decide +kernel
theorem dl_1122 : decode code 1122 = .ok (.iadd, 1) := by decide +kernel
theorem dl_1123 : decode code 1123 = .ok (.iaload, 1) := by decide +kernel
theorem dl_1124 : decode code 1124 = .ok ((.invokevirtual 120), 3) := by decide +kernel
theorem dl_1127 : decode code 1127 = .ok ((.if_icmp .eq 644), 3) := by decide +kernel
theorem dl_1130 : decode code 1130 = .ok ((.iconst 0), 1) := by decide +kernel
theorem dl_1131 : decode code 1131 = .ok (.ireturn, 1) := by decide +kernel
theorem dl_1132 : decode code 1132 = .ok ((.aload_n 1), 1) := by decide +kernel
theorem dl_1133 : decode code 1133 = .ok ((.aload_n 0), 1) := by decide +kernel
theorem dl_1134 : decode code 1134 = .ok ((.iload_n 3), 1) := by decide +kernel
theorem dl_1135 : decode code 1135 = .ok ((.iconst 1), 1) := by decide +kernel
theorem dl_1136 : decode code 1136 = .ok (.iadd, 1) := by decide +kernel
theorem dl_1137 : decode code 1137 = .ok (.iaload, 1) := by decide +kernel
theorem dl_1138 : decode code 1138 = .ok ((.invokevirtual 121), 3) := by decide +kernel
theorem dl_1141 : decode code 1141 = .ok ((.aload_n 2), 1) := by decide +kernel
theorem dl_1142 : decode code 1142 = .ok ((.aload_n 0), 1) := by decide +kernel
theorem dl_1143 : decode code 1143 = .ok ((.iload_n 3), 1) := by decide +kernel
theorem dl_1144 : decode code 1144 = .ok ((.iconst 1), 1) := by decide +kernel
theorem dl_1145 : decode code 1145 = .ok (.iadd, 1) := by decide +kernel
theorem dl_1146 : decode code 1146 = .ok (.iaload, 1) := by decide +kernel
theorem dl_1147 : decode code 1147 = .ok ((.invokevirtual 124), 3) := by decide +kernel
theorem dl_1150 : decode code 1150 = .ok ((.if_icmp .eq 621), 3) := by decide +kernel
theorem dl_1153 : decode code 1153 = .ok ((.iconst 0), 1) := by decide +kernel
theorem dl_1154 : decode code 1154 = .ok (.ireturn, 1) := by decide +kernel
theorem dl_1155 : decode code 1155 = .ok ((.aload_n 1), 1) := by decide +kernel
theorem dl_1156 : decode code 1156 = .ok ((.aload_n 0), 1) := by decide +kernel
theorem dl_1157 : decode code 1157 = .ok ((.iload_n 3), 1) := by decide +kernel
theorem dl_1158 : decode code 1158 = .ok ((.iconst 1), 1) := by decide +kernel
theorem dl_1159 : decode code 1159 = .ok (.iadd, 1) := by decide +kernel
theorem dl_1160 : decode code 1160 = .ok (.iaload, 1) := by decide +kernel
theorem dl_1161 : decode code 1161 = .ok ((.aload_n 0), 1) := by decide +kernel
theorem dl_1162 : decode code 1162 = .ok ((.iload_n 3), 1) := by decide +kernel
theorem dl_1163 : decode code 1163 = .ok ((.iconst 2), 1) := by decide +kernel
theorem dl_1164 : decode code 1164 = .ok (.iadd, 1) := by decide +kernel
theorem dl_1165 : decode code 1165 = .ok (.iaload, 1) := by decide +kernel
theorem dl_1166 : decode code 1166 = .ok ((.invokevirtual 125), 3) := by decide +kernel
theorem dl_1169 : decode code 1169 = .ok ((.aload_n 2), 1) := by decide +kernel
theorem dl_1170 : decode code 1170 = .ok ((.aload_n 0), 1) := by decide +kernel
theorem dl_1171 : decode code 1171 = .ok ((.iload_n 3), 1) := by decide +kernel
theorem dl_1172 : decode code 1172 = .ok ((.iconst 1), 1) := by decide +kernel
theorem dl_1173 : decode code 1173 = .ok (.iadd, 1) := by decide +kernel
theorem dl_1174 : decode code 1174 = .ok (.iaload, 1) := by decide +kernel
theorem dl_1175 : decode code 1175 = .ok ((.aload_n 0), 1) := by decide +kernel
theorem dl_1176 : decode code 1176 = .ok ((.iload_n 3), 1) := by decide +kernel
theorem dl_1177 : decode code 1177 = .ok ((.iconst 2), 1) := by decide +kernel
theorem dl_1178 : decode code 1178 = .ok (.iadd, 1) := by decide +kernel
theorem dl_1179 : decode code 1179 = .ok (.iaload, 1) := by decide +kernel
theorem dl_1180 : decode code 1180 = .ok ((.invokevirtual 128), 3) := by decide +kernel
theorem dl_1183 : decode code 1183 = .ok ((.if_icmp .eq 588), 3) := by decide +kernel
theorem dl_1186 : decode code 1186 = .ok ((.iconst 0), 1) := by decide +kernel
theorem dl_1187 : decode code 1187 = .ok (.ireturn, 1) := by decide +kernel
theorem dl_1188 : decode code 1188 = .ok ((.aload_n 1), 1) := by decide +kernel
theorem dl_1189 : decode code 1189 = .ok ((.aload_n 0), 1) := by decide +kernel
theorem dl_1190 : decode code 1190 = .ok ((.iload_n 3), 1) := by decide +kernel
theorem dl_1191 : decode code 1191 = .ok ((.iconst 1), 1) := by decide +kernel
theorem dl_1192 : decode code 1192 = .ok (.iadd, 1) := by decide +kernel
theorem dl_1193 : decode code 1193 = .ok (.iaload, 1) := by decide +kernel
theorem dl_1194 : decode code 1194 = .ok ((.aload_n 0), 1) := by decide +kernel
theorem dl_1195 : decode code 1195 = .ok ((.iload_n 3), 1) := by decide +kernel
theorem dl_1196 : decode code 1196 = .ok ((.iconst 2), 1) := by decide +kernel
theorem dl_1197 : decode code 1197 = .ok (.iadd, 1) := by decide +kernel
theorem dl_1198 : decode code 1198 = .ok (.iaload, 1) := by decide +kernel
theorem dl_1199 : decode code 1199 = .ok ((.aload_n 0), 1) := by decide +kernel
theorem dl_1200 : decode code 1200 = .ok ((.iload_n 3), 1) := by decide +kernel
theorem dl_1201 : decode code 1201 = .ok ((.iconst 3), 1) := by decide +kernel
theorem dl_1202 : decode code 1202 = .ok (.iadd, 1) := by decide +kernel
theorem dl_1203 : decode code 1203 = .ok (.iaload, 1) := by decide +kernel
theorem dl_1204 : decode code 1204 = .ok ((.aload_n 0), 1) := by decide +kernel
theorem dl_1205 : decode code 1205 = .ok ((.iload_n 3), 1) := by decide +kernel
theorem dl_1206 : decode code 1206 = .ok ((.iconst 4), 1) := by decide +kernel
theorem dl_1207 : decode code 1207 = .ok (.iadd, 1) := by decide +kernel
theorem dl_1208 : decode code 1208 = .ok (.iaload, 1) := by decide +kernel
theorem dl_1209 : decode code 1209 = .ok ((.invokevirtual 129), 3) := by decide +kernel
theorem dl_1212 : decode code 1212 = .ok ((.aload_n 2), 1) := by decide +kernel
theorem dl_1213 : decode code 1213 = .ok ((.aload_n 0), 1) := by decide +kernel
theorem dl_1214 : decode code 1214 = .ok ((.iload_n 3), 1) := by decide +kernel
theorem dl_1215 : decode code 1215 = .ok ((.iconst 1), 1) := by decide +kernel
theorem dl_1216 : decode code 1216 = .ok (.iadd, 1) := by decide +kernel
theorem dl_1217 : decode code 1217 = .ok (.iaload, 1) := by decide +kernel
theorem dl_1218 : decode code 1218 = .ok ((.aload_n 0), 1) := by decide +kernel
theorem dl_1219 : decode code 1219 = .ok ((.iload_n 3), 1) := by decide +kernel
theorem dl_1220 : decode code 1220 = .ok ((.iconst 2), 1) := by decide +kernel
theorem dl_1221 : decode code 1221 = .ok (.iadd, 1) := by decide +kernel
theorem dl_1222 : decode code 1222 = .ok (.iaload, 1) := by decide +kernel
theorem dl_1223 : decode code 1223 = .ok ((.aload_n 0), 1) := by decide +kernel
theorem dl_1224 : decode code 1224 = .ok ((.iload_n 3), 1) := by decide +kernel
theorem dl_1225 : decode code 1225 = .ok ((.iconst 3), 1) := by decide +kernel
theorem dl_1226 : decode code 1226 = .ok (.iadd, 1) := by decide +kernel
theorem dl_1227 : decode code 1227 = .ok (.iaload, 1) := by decide +kernel
theorem dl_1228 : decode code 1228 = .ok ((.aload_n 0), 1) := by decide +kernel
theorem dl_1229 : decode code 1229 = .ok ((.iload_n 3), 1) := by decide +kernel
theorem dl_1230 : decode code 1230 = .ok ((.iconst 4), 1) := by decide +kernel
theorem dl_1231 : decode code 1231 = .ok (.iadd, 1) := by decide +kernel
theorem dl_1232 : decode code 1232 = .ok (.iaload, 1) := by decide +kernel
theorem dl_1233 : decode code 1233 = .ok ((.invokevirtual 132), 3) := by decide +kernel
theorem dl_1236 : decode code 1236 = .ok ((.if_icmp .eq 535), 3) := by decide +kernel
theorem dl_1239 : decode code 1239 = .ok ((.iconst 0), 1) := by decide +kernel
theorem dl_1240 : decode code 1240 = .ok (.ireturn, 1) := by decide +kernel
theorem dl_1241 : decode code 1241 = .ok ((.aload_n 1), 1) := by decide +kernel
theorem dl_1242 : decode code 1242 = .ok ((.aload_n 0), 1) := by decide +kernel
theorem dl_1243 : decode code 1243 = .ok ((.iload_n 3), 1) := by decide +kernel
theorem dl_1244 : decode code 1244 = .ok ((.iconst 1), 1) := by decide +kernel
theorem dl_1245 : decode code 1245 = .ok (.iadd, 1) := by decide +kernel
theorem dl_1246 : decode code 1246 = .ok (.iaload, 1) := by decide +kernel
theorem dl_1247 : decode code 1247 = .ok ((.aload_n 0), 1) := by decide +kernel
theorem dl_1248 : decode code 1248 = .ok ((.iload_n 3), 1) := by decide +kernel
theorem dl_1249 : decode code 1249 = .ok ((.iconst 2), 1) := by decide +kernel
theorem dl_1250 : decode code 1250 = .ok (.iadd, 1) := by decide +kernel
theorem dl_1251 : decode code 1251 = .ok (.iaload, 1) := by decide +kernel
theorem dl_1252 : decode code 1252 = .ok ((.aload_n 0), 1) := by decide +kernel
theorem dl_1253 : decode code 1253 = .ok ((.iload_n 3), 1) := by decide +kernel
theorem dl_1254 : decode code 1254 = .ok ((.iconst 3), 1) := by decide +kernel
theorem dl_1255 : decode code 1255 = .ok (.iadd, 1) := by decide +kernel
theorem dl_1256 : decode code 1256 = .ok (.iaload, 1) := by decide +kernel
theorem dl_1257 : decode code 1257 = .ok ((.invokevirtual 133), 3) := by decide +kernel
theorem dl_1260 : decode code 1260 = .ok ((.aload_n 2), 1) := by decide +kernel
theorem dl_1261 : decode code 1261 = .ok ((.aload_n 0), 1) := by decide +kernel
theorem dl_1262 : decode code 1262 = .ok ((.iload_n 3), 1) := by decide +kernel
theorem dl_1263 : decode code 1263 = .ok ((.iconst 1), 1) := by decide +kernel
theorem dl_1264 : decode code 1264 = .ok (.iadd, 1) := by decide +kernel
theorem dl_1265 : decode code 1265 = .ok (.iaload, 1) := by decide +kernel
theorem dl_1266 : decode code 1266 = .ok ((.aload_n 0), 1) := by decide +kernel
theorem dl_1267 : decode code 1267 = .ok ((.iload_n 3), 1) := by decide +kernel
theorem dl_1268 : decode code 1268 = .ok ((.iconst 2), 1) := by decide +kernel
theorem dl_1269 : decode code 1269 = .ok (.iadd, 1) := by decide +kernel
theorem dl_1270 : decode code 1270 = .ok (.iaload, 1) := by decide +kernel
theorem dl_1271 : decode code 1271 = .ok ((.aload_n 0), 1) := by decide +kernel
theorem dl_1272 : decode code 1272 = .ok ((.iload_n 3), 1) := by decide +kernel
theorem dl_1273 : decode code 1273 = .ok ((.iconst 3), 1) := by decide +kernel
theorem dl_1274 : decode code 1274 = .ok (.iadd, 1) := by decide +kernel
theorem dl_1275 : decode code 1275 = .ok (.iaload, 1) := by decide +kernel
theorem dl_1276 : decode code 1276 = .ok ((.invokevirtual 136), 3) := by decide +kernel
theorem dl_1279 : decode code 1279 = .ok ((.if_icmp .eq 492), 3) := by decide +kernel
theorem dl_1282 : decode code 1282 = .ok ((.iconst 0), 1) := by decide +kernel
theorem dl_1283 : decode code 1283 = .ok (.ireturn, 1) := by decide +kernel
theorem dl_1284 : decode code 1284 = .ok ((.aload_n 1), 1) := by decide +kernel
theorem dl_1285 : decode code 1285 = .ok ((.aload_n 0), 1) := by decide +kernel
theorem dl_1286 : decode code 1286 = .ok ((.iload_n 3), 1) := by decide +kernel
theorem dl_1287 : decode code 1287 = .ok ((.iconst 1), 1) := by decide +kernel
theorem dl_1288 : decode code 1288 = .ok (.iadd, 1) := by decide +kernel
theorem dl_1289 : decode code 1289 = .ok (.iaload, 1) := by decide +kernel
theorem dl_1290 : decode code 1290 = .ok ((.invokevirtual 137), 3) := by decide +kernel
theorem dl_1293 : decode code 1293 = .ok ((.aload_n 2), 1) := by decide +kernel
theorem dl_1294 : decode code 1294 = .ok ((.aload_n 0), 1) := by decide +kernel
theorem dl_1295 : decode code 1295 = .ok ((.iload_n 3), 1) := by decide +kernel
theorem dl_1296 : decode code 1296 = .ok ((.iconst 1), 1) := by decide +kernel
theorem dl_1297 : decode code 1297 = .ok (.iadd, 1) := by decide +kernel
theorem dl_1298 : decode code 1298 = .ok (.iaload, 1) := by decide +kernel
theorem dl_1299 : decode code 1299 = .ok ((.invokevirtual 140), 3) := by decide +kernel
theorem dl_1302 : decode code 1302 = .ok ((.if_icmp .eq 469), 3) := by decide +kernel
theorem dl_1305 : decode code 1305 = .ok ((.iconst 0), 1) := by decide +kernel
theorem dl_1306 : decode code 1306 = .ok (.ireturn, 1) := by decide +kernel
theorem dl_1307 : decode code 1307 = .ok ((.aload_n 1), 1) := by decide +kernel
theorem dl_1308 : decode code 1308 = .ok ((.aload_n 0), 1) := by decide +kernel
theorem dl_1309 : decode code 1309 = .ok ((.iload_n 3), 1) := by decide +kernel
theorem dl_1310 : decode code 1310 = .ok ((.iconst 1), 1) := by decide +kernel
theorem dl_1311 : decode code 1311 = .ok (.iadd, 1) := by decide +kernel
theorem dl_1312 : decode code 1312 = .ok (.iaload, 1) := by decide +kernel
theorem dl_1313 : decode code 1313 = .ok ((.aload_n 0), 1) := by decide +kernel
theorem dl_1314 : decode code 1314 = .ok ((.iload_n 3), 1) := by decide +kernel
theorem dl_1315 : decode code 1315 = .ok ((.iconst 2), 1) := by decide +kernel
theorem dl_1316 : decode code 1316 = .ok (.iadd, 1) := by decide +kernel
theorem dl_1317 : decode code 1317 = .ok (.iaload, 1) := by decide +kernel
theorem dl_1318 : decode code 1318 = .ok ((.invokevirtual 141), 3) := by decide +kernel
theorem dl_1321 : decode code 1321 = .ok ((.aload_n 2), 1) := by decide +kernel
theorem dl_1322 : decode code 1322 = .ok ((.aload_n 0), 1) := by decide +kernel
theorem dl_1323 : decode code 1323 = .ok ((.iload_n 3), 1) := by decide +kernel
theorem dl_1324 : decode code 1324 = .ok ((.iconst 1), 1) := by decide +kernel
theorem dl_1325 : decode code 1325 = .ok (.iadd, 1) := by decide +kernel
theorem dl_1326 : decode code 1326 = .ok (.iaload, 1) := by decide +kernel
theorem dl_1327 : decode code 1327 = .ok ((.aload_n 0), 1) := by decide +kernel
theorem dl_1328 : decode code 1328 = .ok ((.iload_n 3), 1) := by decide +kernel
theorem dl_1329 : decode code 1329 = .ok ((.iconst 2), 1) := by decide +kernel
theorem dl_1330 : decode code 1330 = .ok (.iadd, 1) := by decide +kernel
theorem dl_1331 : decode code 1331 = .ok (.iaload, 1) := by decide +kernel
theorem dl_1332 : decode code 1332 = .ok ((.invokevirtual 144), 3) := by decide +kernel
theorem dl_1335 : decode code 1335 = .ok ((.if_icmp .eq 436), 3) := by decide +kernel
theorem dl_1338 : decode code 1338 = .ok ((.iconst 0), 1) := by decide +kernel
theorem dl_1339 : decode code 1339 = .ok (.ireturn, 1) := by decide +kernel
theorem dl_1340 : decode code 1340 = .ok ((.aload_n 1), 1) := by decide +kernel
theorem dl_1341 : decode code 1341 = .ok ((.aload_n 0), 1) := by decide +kernel
theorem dl_1342 : decode code 1342 = .ok ((.iload_n 3), 1) := by decide +kernel
theorem dl_1343 : decode code 1343 = .ok ((.iconst 1), 1) := by decide +kernel
theorem dl_1344 : decode code 1344 = .ok (.iadd, 1) := by decide +kernel
theorem dl_1345 : decode code 1345 = .ok (.iaload, 1) := by decide +kernel
theorem dl_1346 : decode code 1346 = .ok ((.aload_n 0), 1) := by decide +kernel
theorem dl_1347 : decode code 1347 = .ok ((.iload_n 3), 1) := by decide +kernel
theorem dl_1348 : decode code 1348 = .ok ((.iconst 2), 1) := by decide +kernel
theorem dl_1349 : decode code 1349 = .ok (.iadd, 1) := by decide +kernel
theorem dl_1350 : decode code 1350 = .ok (.iaload, 1) := by decide +kernel
theorem dl_1351 : decode code 1351 = .ok ((.aload_n 0), 1) := by decide +kernel
theorem dl_1352 : decode code 1352 = .ok ((.iload_n 3), 1) := by decide +kernel
theorem dl_1353 : decode code 1353 = .ok ((.iconst 3), 1) := by decide +kernel
theorem dl_1354 : decode code 1354 = .ok (.iadd, 1) := by decide +kernel
theorem dl_1355 : decode code 1355 = .ok (.iaload, 1) := by decide +kernel
theorem dl_1356 : decode code 1356 = .ok ((.aload_n 0), 1) := by decide +kernel
theorem dl_1357 : decode code 1357 = .ok ((.iload_n 3), 1) := by decide +kernel
theorem dl_1358 : decode code 1358 = .ok ((.iconst 4), 1) := by decide +kernel
theorem dl_1359 : decode code 1359 = .ok (.iadd, 1) := by decide +kernel
theorem dl_1360 : decode code 1360 = .ok (.iaload, 1) := by decide +kernel
theorem dl_1361 : decode code 1361 = .ok ((.aload_n 0), 1) := by decide +kernel
theorem dl_1362 : decode code 1362 = .ok ((.iload_n 3), 1) := by decide +kernel
theorem dl_1363 : decode code 1363 = .ok ((.iconst 5), 1) := by decide +kernel
theorem dl_1364 : decode code 1364 = .ok (.iadd, 1) := by decide +kernel
theorem dl_1365 : decode code 1365 = .ok (.iaload, 1) := by decide +kernel
theorem dl_1366 : decode code 1366 = .ok ((.aload_n 0), 1) := by decide +kernel
theorem dl_1367 : decode code 1367 = .ok ((.iload_n 3), 1) := by decide +kernel
theorem dl_1368 : decode code 1368 = .ok ((.bipush 6), 2) := by decide +kernel
theorem dl_1370 : decode code 1370 = .ok (.iadd, 1) := by decide +kernel
theorem dl_1371 : decode code 1371 = .ok (.iaload, 1) := by decide +kernel
theorem dl_1372 : decode code 1372 = .ok ((.invokevirtual 145), 3) := by decide +kernel
theorem dl_1375 : decode code 1375 = .ok ((.aload_n 2), 1) := by decide +kernel
theorem dl_1376 : decode code 1376 = .ok ((.aload_n 0), 1) := by decide +kernel
theorem dl_1377 : decode code 1377 = .ok ((.iload_n 3), 1) := by decide +kernel
theorem dl_1378 : decode code 1378 = .ok ((.iconst 1), 1) := by decide +kernel
theorem dl_1379 : decode code 1379 = .ok (.iadd, 1) := by decide +kernel
theorem dl_1380 : decode code 1380 = .ok (.iaload, 1) := by decide +kernel
theorem dl_1381 : decode code 1381 = .ok ((.aload_n 0), 1) := by decide +kernel
theorem dl_1382 : decode code 1382 = .ok ((.iload_n 3), 1) := by decide +kernel
theorem dl_1383 : decode code 1383 = .ok ((.iconst 2), 1) := by decide +kernel
theorem dl_1384 : decode code 1384 = .ok (.iadd, 1) := by decide +kernel
theorem dl_1385 : decode code 1385 = .ok (.iaload, 1) := by decide +kernel
theorem dl_1386 : decode code 1386 = .ok ((.aload_n 0), 1) := by decide +kernel
theorem dl_1387 : decode code 1387 = .ok ((.iload_n 3), 1) := by decide +kernel
theorem dl_1388 : decode code 1388 = .ok ((.iconst 3), 1) := by decide +kernel
theorem dl_1389 : decode code 1389 = .ok (.iadd, 1) := by decide +kernel
theorem dl_1390 : decode code 1390 = .ok (.iaload, 1) := by decide +kernel
theorem dl_1391 : decode code 1391 = .ok ((.aload_n 0), 1) := by decide +kernel
theorem dl_1392 : decode code 1392 = .ok ((.iload_n 3), 1) := by decide +kernel
theorem dl_1393 : decode code 1393 = .ok ((.iconst 4), 1) := by decide +kernel
theorem dl_1394 : decode code 1394 = .ok (.iadd, 1) := by decide +kernel
theorem dl_1395 : decode code 1395 = .ok (.iaload, 1) := by decide +kernel
theorem dl_1396 : decode code 1396 = .ok ((.aload_n 0), 1) := by decide +kernel
theorem dl_1397 : decode code 1397 = .ok ((.iload_n 3), 1) := by decide +kernel
theorem dl_1398 : decode code 1398 = .ok ((.iconst 5), 1) := by decide +kernel
theorem dl_1399 : decode code 1399 = .ok (.iadd, 1) := by decide +kernel
theorem dl_1400 : decode code 1400 = .ok (.iaload, 1) := by decide +kernel
theorem dl_1401 : decode code 1401 = .ok ((.aload_n 0), 1) := by decide +kernel
theorem dl_1402 : decode code 1402 = .ok ((.iload_n 3), 1) := by decide +kernel
theorem dl_1403 : decode code 1403 = .ok ((.bipush 6), 2) := by decide +kernel
theorem dl_1405 : decode code 1405 = .ok (.iadd, 1) := by decide +kernel
theorem dl_1406 : decode code 1406 = .ok (.iaload, 1) := by decide +kernel
theorem dl_1407 : decode code 1407 = .ok ((.invokevirtual 149), 3) := by decide +kernel
theorem dl_1410 : decode code 1410 = .ok ((.if_icmp .eq 361), 3) := by decide +kernel
theorem dl_1413 : decode code 1413 = .ok ((.iconst 0), 1) := by decide +kernel
theorem dl_1414 : decode code 1414 = .ok (.ireturn, 1) := by decide +kernel
theorem dl_1415 : decode code 1415 = .ok ((.aload_n 1), 1) := by decide +kernel
theorem dl_1416 : decode code 1416 = .ok ((.aload_n 0), 1) := by decide +kernel
theorem dl_1417 : decode code 1417 = .ok ((.iload_n 3), 1) := by decide +kernel
theorem dl_1418 : decode code 1418 = .ok ((.iconst 1), 1) := by decide +kernel
theorem dl_1419 : decode code 1419 = .ok (.iadd, 1) := by decide +kernel
theorem dl_1420 : decode code 1420 = .ok (.iaload, 1) := by decide +kernel
theorem dl_1421 : decode code 1421 = .ok ((.aload_n 0), 1) := by decide +kernel

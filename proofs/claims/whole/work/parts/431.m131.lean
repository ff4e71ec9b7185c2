/-! rows of the law -/
theorem dL_1014 : decode code 1014 = .ok (.aload_n 1, 1) := by decide +kernel
theorem dL_1015 : decode code 1015 = .ok (.aload_n 0, 1) := by decide +kernel
theorem dL_1016 : decode code 1016 = .ok (.iload_n 3, 1) := by decide +kernel
theorem dL_1017 : decode code 1017 = .ok (.iconst 1, 1) := by decide +kernel
theorem dL_1018 : decode code 1018 = .ok (.iadd, 1) := by decide +kernel
theorem dL_1019 : decode code 1019 = .ok (.iaload, 1) := by decide +kernel
theorem dL_1020 : decode code 1020 = .ok (.aload_n 0, 1) := by decide +kernel
theorem dL_1021 : decode code 1021 = .ok (.iload_n 3, 1) := by decide +kernel
theorem dL_1022 : decode code 1022 = .ok (.iconst 2, 1) := by decide +kernel
theorem dL_1023 : decode code 1023 = .ok (.iadd, 1) := by decide +kernel
theorem dL_1024 : decode code 1024 = .ok (.iaload, 1) := by decide +kernel
theorem dL_1025 : decode code 1025 = .ok (.invokevirtual 125, 3) := by decide +kernel
theorem dL_1028 : decode code 1028 = .ok (.aload_n 2, 1) := by decide +kernel
theorem dL_1029 : decode code 1029 = .ok (.aload_n 0, 1) := by decide +kernel
theorem dL_1030 : decode code 1030 = .ok (.iload_n 3, 1) := by decide +kernel
theorem dL_1031 : decode code 1031 = .ok (.iconst 1, 1) := by decide +kernel
theorem dL_1032 : decode code 1032 = .ok (.iadd, 1) := by decide +kernel
theorem dL_1033 : decode code 1033 = .ok (.iaload, 1) := by decide +kernel
theorem dL_1034 : decode code 1034 = .ok (.aload_n 0, 1) := by decide +kernel
theorem dL_1035 : decode code 1035 = .ok (.iload_n 3, 1) := by decide +kernel
theorem dL_1036 : decode code 1036 = .ok (.iconst 2, 1) := by decide +kernel
theorem dL_1037 : decode code 1037 = .ok (.iadd, 1) := by decide +kernel
theorem dL_1038 : decode code 1038 = .ok (.iaload, 1) := by decide +kernel
theorem dL_1039 : decode code 1039 = .ok (.invokevirtual 128, 3) := by decide +kernel
theorem dL_1042 : decode code 1042 = .ok (.if_icmp .eq 740, 3) := by decide +kernel
theorem dL_1045 : decode code 1045 = .ok (.iconst 0, 1) := by decide +kernel
theorem dL_1046 : decode code 1046 = .ok (.ireturn, 1) := by decide +kernel
theorem dL_1047 : decode code 1047 = .ok (.aload_n 1, 1) := by decide +kernel
theorem dL_1048 : decode code 1048 = .ok (.aload_n 0, 1) := by decide +kernel
theorem dL_1049 : decode code 1049 = .ok (.iload_n 3, 1) := by decide +kernel
theorem dL_1050 : decode code 1050 = .ok (.iconst 1, 1) := by decide +kernel
theorem dL_1051 : decode code 1051 = .ok (.iadd, 1) := by decide +kernel
theorem dL_1052 : decode code 1052 = .ok (.iaload, 1) := by decide +kernel
theorem dL_1053 : decode code 1053 = .ok (.invokevirtual 129, 3) := by decide +kernel
theorem dL_1056 : decode code 1056 = .ok (.aload_n 2, 1) := by decide +kernel
theorem dL_1057 : decode code 1057 = .ok (.aload_n 0, 1) := by decide +kernel
theorem dL_1058 : decode code 1058 = .ok (.iload_n 3, 1) := by decide +kernel
theorem dL_1059 : decode code 1059 = .ok (.iconst 1, 1) := by decide +kernel
theorem dL_1060 : decode code 1060 = .ok (.iadd, 1) := by decide +kernel
theorem dL_1061 : decode code 1061 = .ok (.iaload, 1) := by decide +kernel
theorem dL_1062 : decode code 1062 = .ok (.invokevirtual 132, 3) := by decide +kernel
theorem dL_1065 : decode code 1065 = .ok (.if_icmp .eq 717, 3) := by decide +kernel
theorem dL_1068 : decode code 1068 = .ok (.iconst 0, 1) := by decide +kernel
theorem dL_1069 : decode code 1069 = .ok (.ireturn, 1) := by decide +kernel
theorem dL_1070 : decode code 1070 = .ok (.aload_n 1, 1) := by decide +kernel
theorem dL_1071 : decode code 1071 = .ok (.aload_n 0, 1) := by decide +kernel
theorem dL_1072 : decode code 1072 = .ok (.iload_n 3, 1) := by decide +kernel
theorem dL_1073 : decode code 1073 = .ok (.iconst 1, 1) := by decide +kernel
theorem dL_1074 : decode code 1074 = .ok (.iadd, 1) := by decide +kernel
theorem dL_1075 : decode code 1075 = .ok (.iaload, 1) := by decide +kernel
theorem dL_1076 : decode code 1076 = .ok (.invokevirtual 133, 3) := by decide +kernel
theorem dL_1079 : decode code 1079 = .ok (.aload_n 2, 1) := by decide +kernel
theorem dL_1080 : decode code 1080 = .ok (.aload_n 0, 1) := by decide +kernel
theorem dL_1081 : decode code 1081 = .ok (.iload_n 3, 1) := by decide +kernel
theorem dL_1082 : decode code 1082 = .ok (.iconst 1, 1) := by decide +kernel
theorem dL_1083 : decode code 1083 = .ok (.iadd, 1) := by decide +kernel
theorem dL_1084 : decode code 1084 = .ok (.iaload, 1) := by decide +kernel
theorem dL_1085 : decode code 1085 = .ok (.invokevirtual 136, 3) := by decide +kernel
theorem dL_1088 : decode code 1088 = .ok (.if_icmp .eq 694, 3) := by decide +kernel
theorem dL_1091 : decode code 1091 = .ok (.iconst 0, 1) := by decide +kernel
theorem dL_1092 : decode code 1092 = .ok (.ireturn, 1) := by decide +kernel
theorem dL_1093 : decode code 1093 = .ok (.aload_n 1, 1) := by decide +kernel
theorem dL_1094 : decode code 1094 = .ok (.aload_n 0, 1) := by decide +kernel
theorem dL_1095 : decode code 1095 = .ok (.iload_n 3, 1) := by decide +kernel
theorem dL_1096 : decode code 1096 = .ok (.iconst 1, 1) := by decide +kernel
theorem dL_1097 : decode code 1097 = .ok (.iadd, 1) := by decide +kernel
theorem dL_1098 : decode code 1098 = .ok (.iaload, 1) := by decide +kernel
theorem dL_1099 : decode code 1099 = .ok (.aload_n 0, 1) := by decide +kernel
theorem dL_1100 : decode code 1100 = .ok (.iload_n 3, 1) := by decide +kernel
theorem dL_1101 : decode code 1101 = .ok (.iconst 2, 1) := by decide +kernel
theorem dL_1102 : decode code 1102 = .ok (.iadd, 1) := by decide +kernel
theorem dL_1103 : decode code 1103 = .ok (.iaload, 1) := by decide +kernel
theorem dL_1104 : decode code 1104 = .ok (.aload_n 0, 1) := by decide +kernel
theorem dL_1105 : decode code 1105 = .ok (.iload_n 3, 1) := by decide +kernel
theorem dL_1106 : decode code 1106 = .ok (.iconst 3, 1) := by decide +kernel
theorem dL_1107 : decode code 1107 = .ok (.iadd, 1) := by decide +kernel
theorem dL_1108 : decode code 1108 = .ok (.iaload, 1) := by decide +kernel
theorem dL_1109 : decode code 1109 = .ok (.aload_n 0, 1) := by decide +kernel
theorem dL_1110 : decode code 1110 = .ok (.iload_n 3, 1) := by decide +kernel
theorem dL_1111 : decode code 1111 = .ok (.iconst 4, 1) := by decide +kernel
theorem dL_1112 : decode code 1112 = .ok (.iadd, 1) := by decide +kernel
theorem dL_1113 : decode code 1113 = .ok (.iaload, 1) := by decide +kernel
theorem dL_1114 : decode code 1114 = .ok (.invokevirtual 137, 3) := by decide +kernel
theorem dL_1117 : decode code 1117 = .ok (.aload_n 2, 1) := by decide +kernel
theorem dL_1118 : decode code 1118 = .ok (.aload_n 0, 1) := by decide +kernel
theorem dL_1119 : decode code 1119 = .ok (.iload_n 3, 1) := by decide +kernel
theorem dL_1120 : decode code 1120 = .ok (.iconst 1, 1) := by decide +kernel
theorem dL_1121 : decode code 1121 = .ok (.iadd, 1) := by decide +kernel
theorem dL_1122 : decode code 1122 = .ok (.iaload, 1) := by decide +kernel
theorem dL_1123 : decode code 1123 = .ok (.aload_n 0, 1) := by decide +kernel
theorem dL_1124 : decode code 1124 = .ok (.iload_n 3, 1) := by decide +kernel
theorem dL_1125 : decode code 1125 = .ok (.iconst 2, 1) := by decide +kernel
theorem dL_1126 : decode code 1126 = .ok (.iadd, 1) := by decide +kernel
theorem dL_1127 : decode code 1127 = .ok (.iaload, 1) := by decide +kernel
theorem dL_1128 : decode code 1128 = .ok (.aload_n 0, 1) := by decide +kernel
theorem dL_1129 : decode code 1129 = .ok (.iload_n 3, 1) := by decide +kernel
theorem dL_1130 : decode code 1130 = .ok (.iconst 3, 1) := by decide +kernel
theorem dL_1131 : decode code 1131 = .ok (.iadd, 1) := by decide +kernel
theorem dL_1132 : decode code 1132 = .ok (.iaload, 1) := by decide +kernel
theorem dL_1133 : decode code 1133 = .ok (.aload_n 0, 1) := by decide +kernel
theorem dL_1134 : decode code 1134 = .ok (.iload_n 3, 1) := by decide +kernel
theorem dL_1135 : decode code 1135 = .ok (.iconst 4, 1) := by decide +kernel
theorem dL_1136 : decode code 1136 = .ok (.iadd, 1) := by decide +kernel
theorem dL_1137 : decode code 1137 = .ok (.iaload, 1) := by decide +kernel
theorem dL_1138 : decode code 1138 = .ok (.invokevirtual 140, 3) := by decide +kernel
theorem dL_1141 : decode code 1141 = .ok (.if_icmp .eq 641, 3) := by decide +kernel
theorem dL_1144 : decode code 1144 = .ok (.iconst 0, 1) := by decide +kernel
theorem dL_1145 : decode code 1145 = .ok (.ireturn, 1) := by decide +kernel
theorem dL_1146 : decode code 1146 = .ok (.aload_n 1, 1) := by decide +kernel
theorem dL_1147 : decode code 1147 = .ok (.invokevirtual 141, 3) := by decide +kernel
theorem dL_1150 : decode code 1150 = .ok (.aload_n 2, 1) := by decide +kernel
theorem dL_1151 : decode code 1151 = .ok (.invokevirtual 144, 3) := by decide +kernel
theorem dL_1154 : decode code 1154 = .ok (.if_icmp .eq 628, 3) := by decide +kernel
theorem dL_1157 : decode code 1157 = .ok (.iconst 0, 1) := by decide +kernel
theorem dL_1158 : decode code 1158 = .ok (.ireturn, 1) := by decide +kernel
theorem dL_1159 : decode code 1159 = .ok (.aload_n 1, 1) := by decide +kernel
theorem dL_1160 : decode code 1160 = .ok (.aload_n 0, 1) := by decide +kernel
theorem dL_1161 : decode code 1161 = .ok (.iload_n 3, 1) := by decide +kernel
theorem dL_1162 : decode code 1162 = .ok (.iconst 1, 1) := by decide +kernel
theorem dL_1163 : decode code 1163 = .ok (.iadd, 1) := by decide +kernel
theorem dL_1164 : decode code 1164 = .ok (.iaload, 1) := by decide +kernel
theorem dL_1165 : decode code 1165 = .ok (.invokevirtual 145, 3) := by decide +kernel
theorem dL_1168 : decode code 1168 = .ok (.aload_n 2, 1) := by decide +kernel
theorem dL_1169 : decode code 1169 = .ok (.aload_n 0, 1) := by decide +kernel
theorem dL_1170 : decode code 1170 = .ok (.iload_n 3, 1) := by decide +kernel
theorem dL_1171 : decode code 1171 = .ok (.iconst 1, 1) := by decide +kernel
theorem dL_1172 : decode code 1172 = .ok (.iadd, 1) := by decide +kernel
theorem dL_1173 : decode code 1173 = .ok (.iaload, 1) := by decide +kernel
theorem dL_1174 : decode code 1174 = .ok (.invokevirtual 148, 3) := by decide +kernel
theorem dL_1177 : decode code 1177 = .ok (.if_icmp .eq 605, 3) := by decide +kernel
theorem dL_1180 : decode code 1180 = .ok (.iconst 0, 1) := by decide +kernel
theorem dL_1181 : decode code 1181 = .ok (.ireturn, 1) := by decide +kernel
theorem dL_1182 : decode code 1182 = .ok (.aload_n 1, 1) := by decide +kernel
theorem dL_1183 : decode code 1183 = .ok (.invokevirtual 149, 3) := by decide +kernel
theorem dL_1186 : decode code 1186 = .ok (.aload_n 2, 1) := by decide +kernel
theorem dL_1187 : decode code 1187 = .ok (.invokevirtual 152, 3) := by decide +kernel
theorem dL_1190 : decode code 1190 = .ok (.if_icmp .eq 592, 3) := by decide +kernel
theorem dL_1193 : decode code 1193 = .ok (.iconst 0, 1) := by decide +kernel
theorem dL_1194 : decode code 1194 = .ok (.ireturn, 1) := by decide +kernel
theorem dL_1195 : decode code 1195 = .ok (.aload_n 1, 1) := by decide +kernel
theorem dL_1196 : decode code 1196 = .ok (.aload_n 0, 1) := by decide +kernel
theorem dL_1197 : decode code 1197 = .ok (.iload_n 3, 1) := by decide +kernel
theorem dL_1198 : decode code 1198 = .ok (.iconst 1, 1) := by decide +kernel
theorem dL_1199 : decode code 1199 = .ok (.iadd, 1) := by decide +kernel
theorem dL_1200 : decode code 1200 = .ok (.iaload, 1) := by decide +kernel
theorem dL_1201 : decode code 1201 = .ok (.invokevirtual 153, 3) := by decide +kernel
theorem dL_1204 : decode code 1204 = .ok (.aload_n 2, 1) := by decide +kernel
theorem dL_1205 : decode code 1205 = .ok (.aload_n 0, 1) := by decide +kernel
theorem dL_1206 : decode code 1206 = .ok (.iload_n 3, 1) := by decide +kernel
theorem dL_1207 : decode code 1207 = .ok (.iconst 1, 1) := by decide +kernel
theorem dL_1208 : decode code 1208 = .ok (.iadd, 1) := by decide +kernel
theorem dL_1209 : decode code 1209 = .ok (.iaload, 1) := by decide +kernel
theorem dL_1210 : decode code 1210 = .ok (.invokevirtual 156, 3) := by decide +kernel
theorem dL_1213 : decode code 1213 = .ok (.if_icmp .eq 569, 3) := by decide +kernel
theorem dL_1216 : decode code 1216 = .ok (.iconst 0, 1) := by decide +kernel
theorem dL_1217 : decode code 1217 = .ok (.ireturn, 1) := by decide +kernel
theorem dL_1218 : decode code 1218 = .ok (.aload_n 1, 1) := by decide +kernel
theorem dL_1219 : decode code 1219 = .ok (.invokevirtual 157, 3) := by decide +kernel
theorem dL_1222 : decode code 1222 = .ok (.aload_n 2, 1) := by decide +kernel
theorem dL_1223 : decode code 1223 = .ok (.invokevirtual 160, 3) := by decide +kernel
theorem dL_1226 : decode code 1226 = .ok (.if_icmp .eq 556, 3) := by decide +kernel
theorem dL_1229 : decode code 1229 = .ok (.iconst 0, 1) := by decide +kernel
theorem dL_1230 : decode code 1230 = .ok (.ireturn, 1) := by decide +kernel
theorem dL_1231 : decode code 1231 = .ok (.aload_n 1, 1) := by decide +kernel
theorem dL_1232 : decode code 1232 = .ok (.aload_n 0, 1) := by decide +kernel
theorem dL_1233 : decode code 1233 = .ok (.iload_n 3, 1) := by decide +kernel
theorem dL_1234 : decode code 1234 = .ok (.iconst 1, 1) := by decide +kernel
theorem dL_1235 : decode code 1235 = .ok (.iadd, 1) := by decide +kernel
theorem dL_1236 : decode code 1236 = .ok (.iaload, 1) := by decide +kernel
theorem dL_1237 : decode code 1237 = .ok (.aload_n 0, 1) := by decide +kernel
theorem dL_1238 : decode code 1238 = .ok (.iload_n 3, 1) := by decide +kernel
theorem dL_1239 : decode code 1239 = .ok (.iconst 2, 1) := by decide +kernel
theorem dL_1240 : decode code 1240 = .ok (.iadd, 1) := by decide +kernel
theorem dL_1241 : decode code 1241 = .ok (.iaload, 1) := by decide +kernel
theorem dL_1242 : decode code 1242 = .ok (.invokevirtual 161, 3) := by decide +kernel
theorem dL_1245 : decode code 1245 = .ok (.aload_n 2, 1) := by decide +kernel
theorem dL_1246 : decode code 1246 = .ok (.aload_n 0, 1) := by decide +kernel
theorem dL_1247 : decode code 1247 = .ok (.iload_n 3, 1) := by decide +kernel
theorem dL_1248 : decode code 1248 = .ok (.iconst 1, 1) := by decide +kernel
theorem dL_1249 : decode code 1249 = .ok (.iadd, 1) := by decide +kernel
theorem dL_1250 : decode code 1250 = .ok (.iaload, 1) := by decide +kernel
theorem dL_1251 : decode code 1251 = .ok (.aload_n 0, 1) := by decide +kernel
theorem dL_1252 : decode code 1252 = .ok (.iload_n 3, 1) := by decide +kernel
theorem dL_1253 : decode code 1253 = .ok (.iconst 2, 1) := by decide +kernel
theorem dL_1254 : decode code 1254 = .ok (.iadd, 1) := by decide +kernel
theorem dL_1255 : decode code 1255 = .ok (.iaload, 1) := by decide +kernel
theorem dL_1256 : decode code 1256 = .ok (.invokevirtual 164, 3) := by decide +kernel
theorem dL_1259 : decode code 1259 = .ok (.if_icmp .eq 523, 3) := by decide +kernel
theorem dL_1262 : decode code 1262 = .ok (.iconst 0, 1) := by decide +kernel
theorem dL_1263 : decode code 1263 = .ok (.ireturn, 1) := by decide +kernel
theorem dL_1264 : decode code 1264 = .ok (.aload_n 1, 1) := by decide +kernel
theorem dL_1265 : decode code 1265 = .ok (.aload_n 0, 1) := by decide +kernel
theorem dL_1266 : decode code 1266 = .ok (.iload_n 3, 1) := by decide +kernel
theorem dL_1267 : decode code 1267 = .ok (.iconst 1, 1) := by decide +kernel
theorem dL_1268 : decode code 1268 = .ok (.iadd, 1) := by decide +kernel
theorem dL_1269 : decode code 1269 = .ok (.iaload, 1) := by decide +kernel
theorem dL_1270 : decode code 1270 = .ok (.invokevirtual 165, 3) := by decide +kernel
theorem dL_1273 : decode code 1273 = .ok (.aload_n 2, 1) := by decide +kernel
theorem dL_1274 : decode code 1274 = .ok (.aload_n 0, 1) := by decide +kernel
theorem dL_1275 : decode code 1275 = .ok (.iload_n 3, 1) := by decide +kernel
theorem dL_1276 : decode code 1276 = .ok (.iconst 1, 1) := by decide +kernel
theorem dL_1277 : decode code 1277 = .ok (.iadd, 1) := by decide +kernel
theorem dL_1278 : decode code 1278 = .ok (.iaload, 1) := by decide +kernel
theorem dL_1279 : decode code 1279 = .ok (.invokevirtual 168, 3) := by decide +kernel
theorem dL_1282 : decode code 1282 = .ok (.if_icmp .eq 500, 3) := by decide +kernel
theorem dL_1285 : decode code 1285 = .ok (.iconst 0, 1) := by decide +kernel
theorem dL_1286 : decode code 1286 = .ok (.ireturn, 1) := by decide +kernel
theorem dL_1287 : decode code 1287 = .ok (.aload_n 1, 1) := by decide +kernel
theorem dL_1288 : decode code 1288 = .ok (.aload_n 0, 1) := by decide +kernel
theorem dL_1289 : decode code 1289 = .ok (.iload_n 3, 1) := by decide +kernel
theorem dL_1290 : decode code 1290 = .ok (.iconst 1, 1) := by decide +kernel
theorem dL_1291 : decode code 1291 = .ok (.iadd, 1) := by decide +kernel
theorem dL_1292 : decode code 1292 = .ok (.iaload, 1) := by decide +kernel
theorem dL_1293 : decode code 1293 = .ok (.aload_n 0, 1) := by decide +kernel
theorem dL_1294 : decode code 1294 = .ok (.iload_n 3, 1) := by decide +kernel
theorem dL_1295 : decode code 1295 = .ok (.iconst 2, 1) := by decide +kernel
theorem dL_1296 : decode code 1296 = .ok (.iadd, 1) := by decide +kernel
theorem dL_1297 : decode code 1297 = .ok (.iaload, 1) := by decide +kernel
theorem dL_1298 : decode code 1298 = .ok (.invokevirtual 169, 3) := by decide +kernel
theorem dL_1301 : decode code 1301 = .ok (.aload_n 2, 1) := by decide +kernel
theorem dL_1302 : decode code 1302 = .ok (.aload_n 0, 1) := by decide +kernel
theorem dL_1303 : decode code 1303 = .ok (.iload_n 3, 1) := by decide +kernel
theorem dL_1304 : decode code 1304 = .ok (.iconst 1, 1) := by decide +kernel
theorem dL_1305 : decode code 1305 = .ok (.iadd, 1) := by decide +kernel
theorem dL_1306 : decode code 1306 = .ok (.iaload, 1) := by decide +kernel
theorem dL_1307 : decode code 1307 = .ok (.aload_n 0, 1) := by decide +kernel
theorem dL_1308 : decode code 1308 = .ok (.iload_n 3, 1) := by decide +kernel
theorem dL_1309 : decode code 1309 = .ok (.iconst 2, 1) := by decide +kernel
theorem dL_1310 : decode code 1310 = .ok (.iadd, 1) := by decide +kernel
theorem dL_1311 : decode code 1311 = .ok (.iaload, 1) := by decide +kernel
theorem dL_1312 : decode code 1312 = .ok (.invokevirtual 172, 3) := by decide +kernel
theorem dL_1315 : decode code 1315 = .ok (.if_icmp .eq 467, 3) := by decide +kernel
theorem dL_1318 : decode code 1318 = .ok (.iconst 0, 1) := by decide +kernel
theorem dL_1319 : decode code 1319 = .ok (.ireturn, 1) := by decide +kernel
theorem dL_1320 : decode code 1320 = .ok (.aload_n 1, 1) := by decide +kernel
theorem dL_1321 : decode code 1321 = .ok (.aload_n 0, 1) := by decide +kernel
theorem dL_1322 : decode code 1322 = .ok (.iload_n 3, 1) := by decide +kernel
theorem dL_1323 : decode code 1323 = .ok (.iconst 1, 1) := by decide +kernel
theorem dL_1324 : decode code 1324 = .ok (.iadd, 1) := by decide +kernel
theorem dL_1325 : decode code 1325 = .ok (.iaload, 1) := by decide +kernel
theorem dL_1326 : decode code 1326 = .ok (.aload_n 0, 1) := by decide +kernel
theorem dL_1327 : decode code 1327 = .ok (.iload_n 3, 1) := by decide +kernel
theorem dL_1328 : decode code 1328 = .ok (.iconst 2, 1) := by decide +kernel
theorem dL_1329 : decode code 1329 = .ok (.iadd, 1) := by decide +kernel
theorem dL_1330 : decode code 1330 = .ok (.iaload, 1) := by decide +kernel
theorem dL_1331 : decode code 1331 = .ok (.aload_n 0, 1) := by decide +kernel
theorem dL_1332 : decode code 1332 = .ok (.iload_n 3, 1) := by decide +kernel
theorem dL_1333 : decode code 1333 = .ok (.iconst 3, 1) := by decide +kernel
theorem dL_1334 : decode code 1334 = .ok (.iadd, 1) := by decide +kernel
theorem dL_1335 : decode code 1335 = .ok (.iaload, 1) := by decide +kernel
theorem dL_1336 : decode code 1336 = .ok (.invokevirtual 173, 3) := by decide +kernel
theorem dL_1339 : decode code 1339 = .ok (.aload_n 2, 1) := by decide +kernel
theorem dL_1340 : decode code 1340 = .ok (.aload_n 0, 1) := by decide +kernel
theorem dL_1341 : decode code 1341 = .ok (.iload_n 3, 1) := by decide +kernel
theorem dL_1342 : decode code 1342 = .ok (.iconst 1, 1) := by decide +kernel
theorem dL_1343 : decode code 1343 = .ok (.iadd, 1) := by decide +kernel
theorem dL_1344 : decode code 1344 = .ok (.iaload, 1) := by decide +kernel
theorem dL_1345 : decode code 1345 = .ok (.aload_n 0, 1) := by decide +kernel
theorem dL_1346 : decode code 1346 = .ok (.iload_n 3, 1) := by decide +kernel
theorem dL_1347 : decode code 1347 = .ok (.iconst 2, 1) := by decide +kernel
theorem dL_1348 : decode code 1348 = .ok (.iadd, 1) := by decide +kernel
theorem dL_1349 : decode code 1349 = .ok (.iaload, 1) := by decide +kernel
theorem dL_1350 : decode code 1350 = .ok (.aload_n 0, 1) := by decide +kernel
theorem dL_1351 : decode code 1351 = .ok (.iload_n 3, 1) := by decide +kernel
theorem dL_1352 : decode code 1352 = .ok (.iconst 3, 1) := by decide +kernel
theorem dL_1353 : decode code 1353 = .ok (.iadd, 1) := by decide +kernel
theorem dL_1354 : decode code 1354 = .ok (.iaload, 1) := by decide +kernel
theorem dL_1355 : decode code 1355 = .ok (.invokevirtual 176, 3) := by decide +kernel
theorem dL_1358 : decode code 1358 = .ok (.if_icmp .eq 424, 3) := by decide +kernel
theorem dL_1361 : decode code 1361 = .ok (.iconst 0, 1) := by decide +kernel
theorem dL_1362 : decode code 1362 = .ok (.ireturn, 1) := by decide +kernel
theorem dL_1363 : decode code 1363 = .ok (.aload_n 1, 1) := by decide +kernel
theorem dL_1364 : decode code 1364 = .ok (.invokevirtual 177, 3) := by decide +kernel
theorem dL_1367 : decode code 1367 = .ok (.aload_n 2, 1) := by decide +kernel
theorem dL_1368 : decode code 1368 = .ok (.invokevirtual 180, 3) := by decide +kernel
theorem dL_1371 : decode code 1371 = .ok (.if_icmp .eq 411, 3) := by decide +kernel
theorem dL_1374 : decode code 1374 = .ok (.iconst 0, 1) := by decide +kernel
theorem dL_1375 : decode code 1375 = .ok (.ireturn, 1) := by decide +kernel
theorem dL_1376 : decode code 1376 = .ok (.aload_n 1, 1) := by decide +kernel
theorem dL_1377 : decode code 1377 = .ok (.aload_n 0, 1) := by decide +kernel
theorem dL_1378 : decode code 1378 = .ok (.iload_n 3, 1) := by decide +kernel
theorem dL_1379 : decode code 1379 = .ok (.iconst 1, 1) := by decide +kernel
theorem dL_1380 : decode code 1380 = .ok (.iadd, 1) := by decide +kernel
theorem dL_1381 : decode code 1381 = .ok (.iaload, 1) := by decide +kernel
theorem dL_1382 : decode code 1382 = .ok (.aload_n 0, 1) := by decide +kernel
theorem dL_1383 : decode code 1383 = .ok (.iload_n 3, 1) := by decide +kernel
theorem dL_1384 : decode code 1384 = .ok (.iconst 2, 1) := by decide +kernel
theorem dL_1385 : decode code 1385 = .ok (.iadd, 1) := by decide +kernel
theorem dL_1386 : decode code 1386 = .ok (.iaload, 1) := by decide +kernel
theorem dL_1387 : decode code 1387 = .ok (.aload_n 0, 1) := by decide +kernel
theorem dL_1388 : decode code 1388 = .ok (.iload_n 3, 1) := by decide +kernel
theorem dL_1389 : decode code 1389 = .ok (.iconst 3, 1) := by decide +kernel
theorem dL_1390 : decode code 1390 = .ok (.iadd, 1) := by decide +kernel
theorem dL_1391 : decode code 1391 = .ok (.iaload, 1) := by decide +kernel
theorem dL_1392 : decode code 1392 = .ok (.invokevirtual 181, 3) := by decide +kernel
theorem dL_1395 : decode code 1395 = .ok (.aload_n 2, 1) := by decide +kernel
theorem dL_1396 : decode code 1396 = .ok (.aload_n 0, 1) := by decide +kernel
theorem dL_1397 : decode code 1397 = .ok (.iload_n 3, 1) := by decide +kernel
theorem dL_1398 : decode code 1398 = .ok (.iconst 1, 1) := by decide +kernel
theorem dL_1399 : decode code 1399 = .ok (.iadd, 1) := by decide +kernel
theorem dL_1400 : decode code 1400 = .ok (.iaload, 1) := by decide +kernel
theorem dL_1401 : decode code 1401 = .ok (.aload_n 0, 1) := by decide +kernel
theorem dL_1402 : decode code 1402 = .ok (.iload_n 3, 1) := by decide +kernel
theorem dL_1403 : decode code 1403 = .ok (.iconst 2, 1) := by decide +kernel
theorem dL_1404 : decode code 1404 = .ok (.iadd, 1) := by decide +kernel
theorem dL_1405 : decode code 1405 = .ok (.iaload, 1) := by decide +kernel
theorem dL_1406 : decode code 1406 = .ok (.aload_n 0, 1) := by decide +kernel
theorem dL_1407 : decode code 1407 = .ok (.iload_n 3, 1) := by decide +kernel
theorem dL_1408 : decode code 1408 = .ok (.iconst 3, 1) := by decide +kernel

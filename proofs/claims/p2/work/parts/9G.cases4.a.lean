theorem dL_law_1022 : decode code 1022 = .ok (.aload_n 1, 1) := by decide +kernel
theorem dL_law_1023 : decode code 1023 = .ok (.aload_n 0, 1) := by decide +kernel
theorem dL_law_1024 : decode code 1024 = .ok (.iload_n 3, 1) := by decide +kernel
theorem dL_law_1025 : decode code 1025 = .ok (.iconst 1, 1) := by decide +kernel
theorem dL_law_1026 : decode code 1026 = .ok (.iadd, 1) := by decide +kernel
theorem dL_law_1027 : decode code 1027 = .ok (.iaload, 1) := by decide +kernel
theorem dL_law_1028 : decode code 1028 = .ok (.invokevirtual 140, 3) := by decide +kernel
theorem dL_law_1031 : decode code 1031 = .ok (.pop, 1) := by decide +kernel
theorem dL_law_1032 : decode code 1032 = .ok (.aload_n 2, 1) := by decide +kernel
theorem dL_law_1033 : decode code 1033 = .ok (.aload_n 0, 1) := by decide +kernel
theorem dL_law_1034 : decode code 1034 = .ok (.iload_n 3, 1) := by decide +kernel
theorem dL_law_1035 : decode code 1035 = .ok (.iconst 1, 1) := by decide +kernel
theorem dL_law_1036 : decode code 1036 = .ok (.iadd, 1) := by decide +kernel
theorem dL_law_1037 : decode code 1037 = .ok (.iaload, 1) := by decide +kernel
theorem dL_law_1038 : decode code 1038 = .ok (.invokevirtual 143, 3) := by decide +kernel
theorem dL_law_1041 : decode code 1041 = .ok (.pop, 1) := by decide +kernel
theorem dL_law_1042 : decode code 1042 = .ok (.goto 353, 3) := by decide +kernel
theorem dL_law_1045 : decode code 1045 = .ok (.aload_n 1, 1) := by decide +kernel
theorem dL_law_1046 : decode code 1046 = .ok (.aload_n 0, 1) := by decide +kernel
theorem dL_law_1047 : decode code 1047 = .ok (.iload_n 3, 1) := by decide +kernel
theorem dL_law_1048 : decode code 1048 = .ok (.iconst 1, 1) := by decide +kernel
theorem dL_law_1049 : decode code 1049 = .ok (.iadd, 1) := by decide +kernel
theorem dL_law_1050 : decode code 1050 = .ok (.iaload, 1) := by decide +kernel
theorem dL_law_1051 : decode code 1051 = .ok (.aload_n 0, 1) := by decide +kernel
theorem dL_law_1052 : decode code 1052 = .ok (.iload_n 3, 1) := by decide +kernel
theorem dL_law_1053 : decode code 1053 = .ok (.iconst 2, 1) := by decide +kernel
theorem dL_law_1054 : decode code 1054 = .ok (.iadd, 1) := by decide +kernel
theorem dL_law_1055 : decode code 1055 = .ok (.iaload, 1) := by decide +kernel
theorem dL_law_1056 : decode code 1056 = .ok (.aload_n 0, 1) := by decide +kernel
theorem dL_law_1057 : decode code 1057 = .ok (.iload_n 3, 1) := by decide +kernel
theorem dL_law_1058 : decode code 1058 = .ok (.iconst 3, 1) := by decide +kernel
theorem dL_law_1059 : decode code 1059 = .ok (.iadd, 1) := by decide +kernel
theorem dL_law_1060 : decode code 1060 = .ok (.iaload, 1) := by decide +kernel
theorem dL_law_1061 : decode code 1061 = .ok (.invokevirtual 144, 3) := by decide +kernel
theorem dL_law_1064 : decode code 1064 = .ok (.pop, 1) := by decide +kernel
theorem dL_law_1065 : decode code 1065 = .ok (.aload_n 2, 1) := by decide +kernel
theorem dL_law_1066 : decode code 1066 = .ok (.aload_n 0, 1) := by decide +kernel
theorem dL_law_1067 : decode code 1067 = .ok (.iload_n 3, 1) := by decide +kernel
theorem dL_law_1068 : decode code 1068 = .ok (.iconst 1, 1) := by decide +kernel
theorem dL_law_1069 : decode code 1069 = .ok (.iadd, 1) := by decide +kernel
theorem dL_law_1070 : decode code 1070 = .ok (.iaload, 1) := by decide +kernel
theorem dL_law_1071 : decode code 1071 = .ok (.aload_n 0, 1) := by decide +kernel
theorem dL_law_1072 : decode code 1072 = .ok (.iload_n 3, 1) := by decide +kernel
theorem dL_law_1073 : decode code 1073 = .ok (.iconst 2, 1) := by decide +kernel
theorem dL_law_1074 : decode code 1074 = .ok (.iadd, 1) := by decide +kernel
theorem dL_law_1075 : decode code 1075 = .ok (.iaload, 1) := by decide +kernel
theorem dL_law_1076 : decode code 1076 = .ok (.aload_n 0, 1) := by decide +kernel
theorem dL_law_1077 : decode code 1077 = .ok (.iload_n 3, 1) := by decide +kernel
theorem dL_law_1078 : decode code 1078 = .ok (.iconst 3, 1) := by decide +kernel
theorem dL_law_1079 : decode code 1079 = .ok (.iadd, 1) := by decide +kernel
theorem dL_law_1080 : decode code 1080 = .ok (.iaload, 1) := by decide +kernel
theorem dL_law_1081 : decode code 1081 = .ok (.invokevirtual 147, 3) := by decide +kernel
theorem dL_law_1084 : decode code 1084 = .ok (.pop, 1) := by decide +kernel
theorem dL_law_1085 : decode code 1085 = .ok (.goto 310, 3) := by decide +kernel
theorem dL_law_1088 : decode code 1088 = .ok (.aload_n 1, 1) := by decide +kernel
theorem dL_law_1089 : decode code 1089 = .ok (.aload_n 0, 1) := by decide +kernel
theorem dL_law_1090 : decode code 1090 = .ok (.iload_n 3, 1) := by decide +kernel
theorem dL_law_1091 : decode code 1091 = .ok (.iconst 1, 1) := by decide +kernel
theorem dL_law_1092 : decode code 1092 = .ok (.iadd, 1) := by decide +kernel
theorem dL_law_1093 : decode code 1093 = .ok (.iaload, 1) := by decide +kernel
theorem dL_law_1094 : decode code 1094 = .ok (.invokevirtual 148, 3) := by decide +kernel
theorem dL_law_1097 : decode code 1097 = .ok (.pop, 1) := by decide +kernel
theorem dL_law_1098 : decode code 1098 = .ok (.aload_n 2, 1) := by decide +kernel
theorem dL_law_1099 : decode code 1099 = .ok (.aload_n 0, 1) := by decide +kernel
theorem dL_law_1100 : decode code 1100 = .ok (.iload_n 3, 1) := by decide +kernel
theorem dL_law_1101 : decode code 1101 = .ok (.iconst 1, 1) := by decide +kernel
theorem dL_law_1102 : decode code 1102 = .ok (.iadd, 1) := by decide +kernel
theorem dL_law_1103 : decode code 1103 = .ok (.iaload, 1) := by decide +kernel
theorem dL_law_1104 : decode code 1104 = .ok (.invokevirtual 151, 3) := by decide +kernel
theorem dL_law_1107 : decode code 1107 = .ok (.pop, 1) := by decide +kernel
theorem dL_law_1108 : decode code 1108 = .ok (.goto 287, 3) := by decide +kernel
theorem dL_law_1111 : decode code 1111 = .ok (.aload_n 1, 1) := by decide +kernel
theorem dL_law_1112 : decode code 1112 = .ok (.aload_n 0, 1) := by decide +kernel
theorem dL_law_1113 : decode code 1113 = .ok (.iload_n 3, 1) := by decide +kernel
theorem dL_law_1114 : decode code 1114 = .ok (.iconst 1, 1) := by decide +kernel
theorem dL_law_1115 : decode code 1115 = .ok (.iadd, 1) := by decide +kernel
theorem dL_law_1116 : decode code 1116 = .ok (.iaload, 1) := by decide +kernel
theorem dL_law_1117 : decode code 1117 = .ok (.aload_n 0, 1) := by decide +kernel
theorem dL_law_1118 : decode code 1118 = .ok (.iload_n 3, 1) := by decide +kernel
theorem dL_law_1119 : decode code 1119 = .ok (.iconst 2, 1) := by decide +kernel
theorem dL_law_1120 : decode code 1120 = .ok (.iadd, 1) := by decide +kernel
theorem dL_law_1121 : decode code 1121 = .ok (.iaload, 1) := by decide +kernel
theorem dL_law_1122 : decode code 1122 = .ok (.invokevirtual 152, 3) := by decide +kernel
theorem dL_law_1125 : decode code 1125 = .ok (.pop, 1) := by decide +kernel
theorem dL_law_1126 : decode code 1126 = .ok (.aload_n 2, 1) := by decide +kernel
theorem dL_law_1127 : decode code 1127 = .ok (.aload_n 0, 1) := by decide +kernel
theorem dL_law_1128 : decode code 1128 = .ok (.iload_n 3, 1) := by decide +kernel
theorem dL_law_1129 : decode code 1129 = .ok (.iconst 1, 1) := by decide +kernel
theorem dL_law_1130 : decode code 1130 = .ok (.iadd, 1) := by decide +kernel
theorem dL_law_1131 : decode code 1131 = .ok (.iaload, 1) := by decide +kernel
theorem dL_law_1132 : decode code 1132 = .ok (.aload_n 0, 1) := by decide +kernel
theorem dL_law_1133 : decode code 1133 = .ok (.iload_n 3, 1) := by decide +kernel
theorem dL_law_1134 : decode code 1134 = .ok (.iconst 2, 1) := by decide +kernel
theorem dL_law_1135 : decode code 1135 = .ok (.iadd, 1) := by decide +kernel
theorem dL_law_1136 : decode code 1136 = .ok (.iaload, 1) := by decide +kernel
theorem dL_law_1137 : decode code 1137 = .ok (.invokevirtual 155, 3) := by decide +kernel
theorem dL_law_1140 : decode code 1140 = .ok (.pop, 1) := by decide +kernel
theorem dL_law_1141 : decode code 1141 = .ok (.goto 254, 3) := by decide +kernel
theorem dL_law_1144 : decode code 1144 = .ok (.aload_n 1, 1) := by decide +kernel
theorem dL_law_1145 : decode code 1145 = .ok (.aload_n 0, 1) := by decide +kernel
theorem dL_law_1146 : decode code 1146 = .ok (.iload_n 3, 1) := by decide +kernel
theorem dL_law_1147 : decode code 1147 = .ok (.iconst 1, 1) := by decide +kernel
theorem dL_law_1148 : decode code 1148 = .ok (.iadd, 1) := by decide +kernel
theorem dL_law_1149 : decode code 1149 = .ok (.iaload, 1) := by decide +kernel
theorem dL_law_1150 : decode code 1150 = .ok (.aload_n 0, 1) := by decide +kernel
theorem dL_law_1151 : decode code 1151 = .ok (.iload_n 3, 1) := by decide +kernel
theorem dL_law_1152 : decode code 1152 = .ok (.iconst 2, 1) := by decide +kernel
theorem dL_law_1153 : decode code 1153 = .ok (.iadd, 1) := by decide +kernel
theorem dL_law_1154 : decode code 1154 = .ok (.iaload, 1) := by decide +kernel
theorem dL_law_1155 : decode code 1155 = .ok (.invokevirtual 156, 3) := by decide +kernel
theorem dL_law_1158 : decode code 1158 = .ok (.pop, 1) := by decide +kernel
theorem dL_law_1159 : decode code 1159 = .ok (.aload_n 2, 1) := by decide +kernel
theorem dL_law_1160 : decode code 1160 = .ok (.aload_n 0, 1) := by decide +kernel
theorem dL_law_1161 : decode code 1161 = .ok (.iload_n 3, 1) := by decide +kernel
theorem dL_law_1162 : decode code 1162 = .ok (.iconst 1, 1) := by decide +kernel
theorem dL_law_1163 : decode code 1163 = .ok (.iadd, 1) := by decide +kernel
theorem dL_law_1164 : decode code 1164 = .ok (.iaload, 1) := by decide +kernel
theorem dL_law_1165 : decode code 1165 = .ok (.aload_n 0, 1) := by decide +kernel
theorem dL_law_1166 : decode code 1166 = .ok (.iload_n 3, 1) := by decide +kernel
theorem dL_law_1167 : decode code 1167 = .ok (.iconst 2, 1) := by decide +kernel
theorem dL_law_1168 : decode code 1168 = .ok (.iadd, 1) := by decide +kernel
theorem dL_law_1169 : decode code 1169 = .ok (.iaload, 1) := by decide +kernel
theorem dL_law_1170 : decode code 1170 = .ok (.invokevirtual 159, 3) := by decide +kernel
theorem dL_law_1173 : decode code 1173 = .ok (.pop, 1) := by decide +kernel
theorem dL_law_1174 : decode code 1174 = .ok (.goto 221, 3) := by decide +kernel
theorem dL_law_1177 : decode code 1177 = .ok (.aload_n 1, 1) := by decide +kernel
theorem dL_law_1178 : decode code 1178 = .ok (.aload_n 0, 1) := by decide +kernel
theorem dL_law_1179 : decode code 1179 = .ok (.iload_n 3, 1) := by decide +kernel
theorem dL_law_1180 : decode code 1180 = .ok (.iconst 1, 1) := by decide +kernel
theorem dL_law_1181 : decode code 1181 = .ok (.iadd, 1) := by decide +kernel
theorem dL_law_1182 : decode code 1182 = .ok (.iaload, 1) := by decide +kernel
theorem dL_law_1183 : decode code 1183 = .ok (.aload_n 0, 1) := by decide +kernel
theorem dL_law_1184 : decode code 1184 = .ok (.iload_n 3, 1) := by decide +kernel
theorem dL_law_1185 : decode code 1185 = .ok (.iconst 2, 1) := by decide +kernel
theorem dL_law_1186 : decode code 1186 = .ok (.iadd, 1) := by decide +kernel
theorem dL_law_1187 : decode code 1187 = .ok (.iaload, 1) := by decide +kernel
theorem dL_law_1188 : decode code 1188 = .ok (.aload_n 0, 1) := by decide +kernel
theorem dL_law_1189 : decode code 1189 = .ok (.iload_n 3, 1) := by decide +kernel
theorem dL_law_1190 : decode code 1190 = .ok (.iconst 3, 1) := by decide +kernel
theorem dL_law_1191 : decode code 1191 = .ok (.iadd, 1) := by decide +kernel
theorem dL_law_1192 : decode code 1192 = .ok (.iaload, 1) := by decide +kernel
theorem dL_law_1193 : decode code 1193 = .ok (.invokevirtual 160, 3) := by decide +kernel
theorem dL_law_1196 : decode code 1196 = .ok (.pop, 1) := by decide +kernel
theorem dL_law_1197 : decode code 1197 = .ok (.aload_n 2, 1) := by decide +kernel
theorem dL_law_1198 : decode code 1198 = .ok (.aload_n 0, 1) := by decide +kernel
theorem dL_law_1199 : decode code 1199 = .ok (.iload_n 3, 1) := by decide +kernel
theorem dL_law_1200 : decode code 1200 = .ok (.iconst 1, 1) := by decide +kernel
theorem dL_law_1201 : decode code 1201 = .ok (.iadd, 1) := by decide +kernel
theorem dL_law_1202 : decode code 1202 = .ok (.iaload, 1) := by decide +kernel
theorem dL_law_1203 : decode code 1203 = .ok (.aload_n 0, 1) := by decide +kernel
theorem dL_law_1204 : decode code 1204 = .ok (.iload_n 3, 1) := by decide +kernel
theorem dL_law_1205 : decode code 1205 = .ok (.iconst 2, 1) := by decide +kernel
theorem dL_law_1206 : decode code 1206 = .ok (.iadd, 1) := by decide +kernel
theorem dL_law_1207 : decode code 1207 = .ok (.iaload, 1) := by decide +kernel
theorem dL_law_1208 : decode code 1208 = .ok (.aload_n 0, 1) := by decide +kernel
theorem dL_law_1209 : decode code 1209 = .ok (.iload_n 3, 1) := by decide +kernel
theorem dL_law_1210 : decode code 1210 = .ok (.iconst 3, 1) := by decide +kernel
theorem dL_law_1211 : decode code 1211 = .ok (.iadd, 1) := by decide +kernel
theorem dL_law_1212 : decode code 1212 = .ok (.iaload, 1) := by decide +kernel
theorem dL_law_1213 : decode code 1213 = .ok (.invokevirtual 163, 3) := by decide +kernel
theorem dL_law_1216 : decode code 1216 = .ok (.pop, 1) := by decide +kernel
theorem dL_law_1217 : decode code 1217 = .ok (.goto 178, 3) := by decide +kernel
theorem dL_law_1220 : decode code 1220 = .ok (.aload_n 1, 1) := by decide +kernel
theorem dL_law_1221 : decode code 1221 = .ok (.aload_n 0, 1) := by decide +kernel
theorem dL_law_1222 : decode code 1222 = .ok (.iload_n 3, 1) := by decide +kernel
theorem dL_law_1223 : decode code 1223 = .ok (.iconst 1, 1) := by decide +kernel
theorem dL_law_1224 : decode code 1224 = .ok (.iadd, 1) := by decide +kernel
theorem dL_law_1225 : decode code 1225 = .ok (.iaload, 1) := by decide +kernel
theorem dL_law_1226 : decode code 1226 = .ok (.aload_n 0, 1) := by decide +kernel
theorem dL_law_1227 : decode code 1227 = .ok (.iload_n 3, 1) := by decide +kernel
theorem dL_law_1228 : decode code 1228 = .ok (.iconst 2, 1) := by decide +kernel
theorem dL_law_1229 : decode code 1229 = .ok (.iadd, 1) := by decide +kernel
theorem dL_law_1230 : decode code 1230 = .ok (.iaload, 1) := by decide +kernel
theorem dL_law_1231 : decode code 1231 = .ok (.aload_n 0, 1) := by decide +kernel
theorem dL_law_1232 : decode code 1232 = .ok (.iload_n 3, 1) := by decide +kernel
theorem dL_law_1233 : decode code 1233 = .ok (.iconst 3, 1) := by decide +kernel
theorem dL_law_1234 : decode code 1234 = .ok (.iadd, 1) := by decide +kernel
theorem dL_law_1235 : decode code 1235 = .ok (.iaload, 1) := by decide +kernel
theorem dL_law_1236 : decode code 1236 = .ok (.i2l, 1) := by decide +kernel
theorem dL_law_1237 : decode code 1237 = .ok (.bipush 32, 2) := by decide +kernel
theorem dL_law_1239 : decode code 1239 = .ok (.lshl, 1) := by decide +kernel
theorem dL_law_1240 : decode code 1240 = .ok (.aload_n 0, 1) := by decide +kernel
theorem dL_law_1241 : decode code 1241 = .ok (.iload_n 3, 1) := by decide +kernel
theorem dL_law_1242 : decode code 1242 = .ok (.iconst 4, 1) := by decide +kernel
theorem dL_law_1243 : decode code 1243 = .ok (.iadd, 1) := by decide +kernel
theorem dL_law_1244 : decode code 1244 = .ok (.iaload, 1) := by decide +kernel
theorem dL_law_1245 : decode code 1245 = .ok (.i2l, 1) := by decide +kernel
theorem dL_law_1246 : decode code 1246 = .ok (.ldc2_w 164, 3) := by decide +kernel
theorem dL_law_1249 : decode code 1249 = .ok (.land, 1) := by decide +kernel
theorem dL_law_1250 : decode code 1250 = .ok (.lor, 1) := by decide +kernel
theorem dL_law_1251 : decode code 1251 = .ok (.invokevirtual 166, 3) := by decide +kernel
theorem dL_law_1254 : decode code 1254 = .ok (.pop2, 1) := by decide +kernel
theorem dL_law_1255 : decode code 1255 = .ok (.aload_n 2, 1) := by decide +kernel
theorem dL_law_1256 : decode code 1256 = .ok (.aload_n 0, 1) := by decide +kernel
theorem dL_law_1257 : decode code 1257 = .ok (.iload_n 3, 1) := by decide +kernel
theorem dL_law_1258 : decode code 1258 = .ok (.iconst 1, 1) := by decide +kernel
theorem dL_law_1259 : decode code 1259 = .ok (.iadd, 1) := by decide +kernel
theorem dL_law_1260 : decode code 1260 = .ok (.iaload, 1) := by decide +kernel
theorem dL_law_1261 : decode code 1261 = .ok (.aload_n 0, 1) := by decide +kernel
theorem dL_law_1262 : decode code 1262 = .ok (.iload_n 3, 1) := by decide +kernel
theorem dL_law_1263 : decode code 1263 = .ok (.iconst 2, 1) := by decide +kernel
theorem dL_law_1264 : decode code 1264 = .ok (.iadd, 1) := by decide +kernel
theorem dL_law_1265 : decode code 1265 = .ok (.iaload, 1) := by decide +kernel
theorem dL_law_1266 : decode code 1266 = .ok (.aload_n 0, 1) := by decide +kernel
theorem dL_law_1267 : decode code 1267 = .ok (.iload_n 3, 1) := by decide +kernel
theorem dL_law_1268 : decode code 1268 = .ok (.iconst 3, 1) := by decide +kernel
theorem dL_law_1269 : decode code 1269 = .ok (.iadd, 1) := by decide +kernel
theorem dL_law_1270 : decode code 1270 = .ok (.iaload, 1) := by decide +kernel
theorem dL_law_1271 : decode code 1271 = .ok (.i2l, 1) := by decide +kernel
theorem dL_law_1272 : decode code 1272 = .ok (.bipush 32, 2) := by decide +kernel
theorem dL_law_1274 : decode code 1274 = .ok (.lshl, 1) := by decide +kernel
theorem dL_law_1275 : decode code 1275 = .ok (.aload_n 0, 1) := by decide +kernel
theorem dL_law_1276 : decode code 1276 = .ok (.iload_n 3, 1) := by decide +kernel
theorem dL_law_1277 : decode code 1277 = .ok (.iconst 4, 1) := by decide +kernel
theorem dL_law_1278 : decode code 1278 = .ok (.iadd, 1) := by decide +kernel
theorem dL_law_1279 : decode code 1279 = .ok (.iaload, 1) := by decide +kernel
theorem dL_law_1280 : decode code 1280 = .ok (.i2l, 1) := by decide +kernel
theorem dL_law_1281 : decode code 1281 = .ok (.ldc2_w 164, 3) := by decide +kernel
theorem dL_law_1284 : decode code 1284 = .ok (.land, 1) := by decide +kernel
theorem dL_law_1285 : decode code 1285 = .ok (.lor, 1) := by decide +kernel
theorem dL_law_1286 : decode code 1286 = .ok (.invokevirtual 170, 3) := by decide +kernel
theorem dL_law_1289 : decode code 1289 = .ok (.pop2, 1) := by decide +kernel
theorem dL_law_1290 : decode code 1290 = .ok (.goto 105, 3) := by decide +kernel
theorem dL_law_1293 : decode code 1293 = .ok (.aload_n 1, 1) := by decide +kernel
theorem dL_law_1294 : decode code 1294 = .ok (.aload_n 0, 1) := by decide +kernel
theorem dL_law_1295 : decode code 1295 = .ok (.iload_n 3, 1) := by decide +kernel
theorem dL_law_1296 : decode code 1296 = .ok (.iconst 1, 1) := by decide +kernel
theorem dL_law_1297 : decode code 1297 = .ok (.iadd, 1) := by decide +kernel
theorem dL_law_1298 : decode code 1298 = .ok (.iaload, 1) := by decide +kernel
theorem dL_law_1299 : decode code 1299 = .ok (.aload_n 0, 1) := by decide +kernel
theorem dL_law_1300 : decode code 1300 = .ok (.iload_n 3, 1) := by decide +kernel
theorem dL_law_1301 : decode code 1301 = .ok (.iconst 2, 1) := by decide +kernel
theorem dL_law_1302 : decode code 1302 = .ok (.iadd, 1) := by decide +kernel
theorem dL_law_1303 : decode code 1303 = .ok (.iaload, 1) := by decide +kernel
theorem dL_law_1304 : decode code 1304 = .ok (.invokevirtual 171, 3) := by decide +kernel
theorem dL_law_1307 : decode code 1307 = .ok (.pop, 1) := by decide +kernel
theorem dL_law_1308 : decode code 1308 = .ok (.aload_n 2, 1) := by decide +kernel
theorem dL_law_1309 : decode code 1309 = .ok (.aload_n 0, 1) := by decide +kernel
theorem dL_law_1310 : decode code 1310 = .ok (.iload_n 3, 1) := by decide +kernel
theorem dL_law_1311 : decode code 1311 = .ok (.iconst 1, 1) := by decide +kernel
theorem dL_law_1312 : decode code 1312 = .ok (.iadd, 1) := by decide +kernel
theorem dL_law_1313 : decode code 1313 = .ok (.iaload, 1) := by decide +kernel
theorem dL_law_1314 : decode code 1314 = .ok (.aload_n 0, 1) := by decide +kernel
theorem dL_law_1315 : decode code 1315 = .ok (.iload_n 3, 1) := by decide +kernel
theorem dL_law_1316 : decode code 1316 = .ok (.iconst 2, 1) := by decide +kernel
theorem dL_law_1317 : decode code 1317 = .ok (.iadd, 1) := by decide +kernel
theorem dL_law_1318 : decode code 1318 = .ok (.iaload, 1) := by decide +kernel
theorem dL_law_1319 : decode code 1319 = .ok (.invokevirtual 174, 3) := by decide +kernel
theorem dL_law_1322 : decode code 1322 = .ok (.pop, 1) := by decide +kernel
theorem dL_law_1323 : decode code 1323 = .ok (.goto 72, 3) := by decide +kernel
theorem dL_law_1326 : decode code 1326 = .ok (.aload_n 1, 1) := by decide +kernel
theorem dL_law_1327 : decode code 1327 = .ok (.aload_n 0, 1) := by decide +kernel
theorem dL_law_1328 : decode code 1328 = .ok (.iload_n 3, 1) := by decide +kernel
theorem dL_law_1329 : decode code 1329 = .ok (.iconst 1, 1) := by decide +kernel
theorem dL_law_1330 : decode code 1330 = .ok (.iadd, 1) := by decide +kernel
theorem dL_law_1331 : decode code 1331 = .ok (.iaload, 1) := by decide +kernel
theorem dL_law_1332 : decode code 1332 = .ok (.invokevirtual 175, 3) := by decide +kernel
theorem dL_law_1335 : decode code 1335 = .ok (.pop, 1) := by decide +kernel
theorem dL_law_1336 : decode code 1336 = .ok (.aload_n 2, 1) := by decide +kernel
theorem dL_law_1337 : decode code 1337 = .ok (.aload_n 0, 1) := by decide +kernel
theorem dL_law_1338 : decode code 1338 = .ok (.iload_n 3, 1) := by decide +kernel
theorem dL_law_1339 : decode code 1339 = .ok (.iconst 1, 1) := by decide +kernel
theorem dL_law_1340 : decode code 1340 = .ok (.iadd, 1) := by decide +kernel
theorem dL_law_1341 : decode code 1341 = .ok (.iaload, 1) := by decide +kernel
theorem dL_law_1342 : decode code 1342 = .ok (.invokevirtual 178, 3) := by decide +kernel
theorem dL_law_1345 : decode code 1345 = .ok (.pop, 1) := by decide +kernel
theorem dL_law_1346 : decode code 1346 = .ok (.goto 49, 3) := by decide +kernel
theorem dL_law_1349 : decode code 1349 = .ok (.aload_n 1, 1) := by decide +kernel
theorem dL_law_1350 : decode code 1350 = .ok (.aload_n 0, 1) := by decide +kernel
theorem dL_law_1351 : decode code 1351 = .ok (.iload_n 3, 1) := by decide +kernel
theorem dL_law_1352 : decode code 1352 = .ok (.iconst 1, 1) := by decide +kernel
theorem dL_law_1353 : decode code 1353 = .ok (.iadd, 1) := by decide +kernel
theorem dL_law_1354 : decode code 1354 = .ok (.iaload, 1) := by decide +kernel
theorem dL_law_1355 : decode code 1355 = .ok (.invokevirtual 179, 3) := by decide +kernel
theorem dL_law_1358 : decode code 1358 = .ok (.pop, 1) := by decide +kernel
theorem dL_law_1359 : decode code 1359 = .ok (.aload_n 2, 1) := by decide +kernel
theorem dL_law_1360 : decode code 1360 = .ok (.aload_n 0, 1) := by decide +kernel
theorem dL_law_1361 : decode code 1361 = .ok (.iload_n 3, 1) := by decide +kernel
theorem dL_law_1362 : decode code 1362 = .ok (.iconst 1, 1) := by decide +kernel
theorem dL_law_1363 : decode code 1363 = .ok (.iadd, 1) := by decide +kernel
theorem dL_law_1364 : decode code 1364 = .ok (.iaload, 1) := by decide +kernel
theorem dL_law_1365 : decode code 1365 = .ok (.invokevirtual 182, 3) := by decide +kernel
theorem dL_law_1368 : decode code 1368 = .ok (.pop, 1) := by decide +kernel
theorem dL_law_1369 : decode code 1369 = .ok (.goto 26, 3) := by decide +kernel
theorem dL_law_1372 : decode code 1372 = .ok (.aload_n 1, 1) := by decide +kernel
theorem dL_law_1373 : decode code 1373 = .ok (.aload_n 0, 1) := by decide +kernel
theorem dL_law_1374 : decode code 1374 = .ok (.iload_n 3, 1) := by decide +kernel
theorem dL_law_1375 : decode code 1375 = .ok (.iconst 1, 1) := by decide +kernel
theorem dL_law_1376 : decode code 1376 = .ok (.iadd, 1) := by decide +kernel
theorem dL_law_1377 : decode code 1377 = .ok (.iaload, 1) := by decide +kernel
theorem dL_law_1378 : decode code 1378 = .ok (.invokevirtual 183, 3) := by decide +kernel
theorem dL_law_1381 : decode code 1381 = .ok (.pop, 1) := by decide +kernel
theorem dL_law_1382 : decode code 1382 = .ok (.aload_n 2, 1) := by decide +kernel
theorem dL_law_1383 : decode code 1383 = .ok (.aload_n 0, 1) := by decide +kernel
theorem dL_law_1384 : decode code 1384 = .ok (.iload_n 3, 1) := by decide +kernel
theorem dL_law_1385 : decode code 1385 = .ok (.iconst 1, 1) := by decide +kernel
theorem dL_law_1386 : decode code 1386 = .ok (.iadd, 1) := by decide +kernel
theorem dL_law_1387 : decode code 1387 = .ok (.iaload, 1) := by decide +kernel
theorem dL_law_1388 : decode code 1388 = .ok (.invokevirtual 186, 3) := by decide +kernel
theorem dL_law_1391 : decode code 1391 = .ok (.pop, 1) := by decide +kernel
theorem dL_law_1392 : decode code 1392 = .ok (.goto 3, 3) := by decide +kernel
theorem kw_1123 : Cond.methodLink "FootholdWallLaw" 140 yX11_whose ∈ gw := gw_of (tb_of 1123 (by decide +kernel)) (by decide +kernel)
theorem kw_1124 : Cond.instanceMethod yX11_whose ∈ gw := gw_of (tb_of 1124 (by decide +kernel)) (by decide +kernel)
theorem kw_1125 : Cond.selects "FootholdWall" yX11_whose yX11_whose ∈ gw := gw_of (tb_of 1125 (by decide +kernel)) (by decide +kernel)
theorem kw_1126 : Cond.code yX11_whose cX11_whose 5 (some (.int)) ∈ gw := gw_of (tb_of 1126 (by decide +kernel)) (by decide +kernel)
theorem kw_1132 : Cond.methodLink "FootholdWallLaw" 144 yX11_order ∈ gw := gw_of (tb_of 1132 (by decide +kernel)) (by decide +kernel)
theorem kw_1133 : Cond.instanceMethod yX11_order ∈ gw := gw_of (tb_of 1133 (by decide +kernel)) (by decide +kernel)
theorem kw_1134 : Cond.selects "FootholdWall" yX11_order yX11_order ∈ gw := gw_of (tb_of 1134 (by decide +kernel)) (by decide +kernel)
theorem kw_1135 : Cond.code yX11_order cX11_order 5 (some (.int)) ∈ gw := gw_of (tb_of 1135 (by decide +kernel)) (by decide +kernel)
theorem kw_1146 : Cond.methodLink "FootholdWallLaw" 148 yX11_saved ∈ gw := gw_of (tb_of 1146 (by decide +kernel)) (by decide +kernel)
theorem kw_1147 : Cond.instanceMethod yX11_saved ∈ gw := gw_of (tb_of 1147 (by decide +kernel)) (by decide +kernel)
theorem kw_1148 : Cond.selects "FootholdWall" yX11_saved yX11_saved ∈ gw := gw_of (tb_of 1148 (by decide +kernel)) (by decide +kernel)
theorem kw_1149 : Cond.code yX11_saved cX11_saved 2 (some (.int)) ∈ gw := gw_of (tb_of 1149 (by decide +kernel)) (by decide +kernel)
theorem kw_1160 : Cond.methodLink "FootholdWallLaw" 152 yX11_leaves ∈ gw := gw_of (tb_of 1160 (by decide +kernel)) (by decide +kernel)
theorem kw_1161 : Cond.instanceMethod yX11_leaves ∈ gw := gw_of (tb_of 1161 (by decide +kernel)) (by decide +kernel)
theorem kw_1162 : Cond.selects "FootholdWall" yX11_leaves yX11_leaves ∈ gw := gw_of (tb_of 1162 (by decide +kernel)) (by decide +kernel)
theorem kw_1163 : Cond.code yX11_leaves cX11_leaves 5 (some (.int)) ∈ gw := gw_of (tb_of 1163 (by decide +kernel)) (by decide +kernel)
theorem kw_1164 : Cond.methodLink "FootholdWallLaw" 156 yX11_inTurn ∈ gw := gw_of (tb_of 1164 (by decide +kernel)) (by decide +kernel)
theorem kw_1165 : Cond.instanceMethod yX11_inTurn ∈ gw := gw_of (tb_of 1165 (by decide +kernel)) (by decide +kernel)
theorem kw_1166 : Cond.selects "FootholdWall" yX11_inTurn yX11_inTurn ∈ gw := gw_of (tb_of 1166 (by decide +kernel)) (by decide +kernel)
theorem kw_1167 : Cond.code yX11_inTurn cX11_inTurn 3 (some (.int)) ∈ gw := gw_of (tb_of 1167 (by decide +kernel)) (by decide +kernel)
theorem kw_1173 : Cond.methodLink "FootholdWallLaw" 160 yX11_numbers ∈ gw := gw_of (tb_of 1173 (by decide +kernel)) (by decide +kernel)
theorem kw_1174 : Cond.instanceMethod yX11_numbers ∈ gw := gw_of (tb_of 1174 (by decide +kernel)) (by decide +kernel)
theorem kw_1175 : Cond.selects "FootholdWall" yX11_numbers yX11_numbers ∈ gw := gw_of (tb_of 1175 (by decide +kernel)) (by decide +kernel)
theorem kw_1176 : Cond.code yX11_numbers cX11_numbers 4 (some (.int)) ∈ gw := gw_of (tb_of 1176 (by decide +kernel)) (by decide +kernel)
theorem kw_1184 : Cond.methodLink "FootholdWallLaw" 166 yX11_write ∈ gw := gw_of (tb_of 1184 (by decide +kernel)) (by decide +kernel)
theorem kw_1185 : Cond.instanceMethod yX11_write ∈ gw := gw_of (tb_of 1185 (by decide +kernel)) (by decide +kernel)
theorem kw_1186 : Cond.selects "FootholdWall" yX11_write yX11_write ∈ gw := gw_of (tb_of 1186 (by decide +kernel)) (by decide +kernel)
theorem kw_1187 : Cond.code yX11_write cX11_write 6 (some (.long)) ∈ gw := gw_of (tb_of 1187 (by decide +kernel)) (by decide +kernel)
theorem kw_1194 : Cond.methodLink "FootholdWallLaw" 171 yX11_lists ∈ gw := gw_of (tb_of 1194 (by decide +kernel)) (by decide +kernel)
theorem kw_1195 : Cond.instanceMethod yX11_lists ∈ gw := gw_of (tb_of 1195 (by decide +kernel)) (by decide +kernel)
theorem kw_1196 : Cond.selects "FootholdWall" yX11_lists yX11_lists ∈ gw := gw_of (tb_of 1196 (by decide +kernel)) (by decide +kernel)
theorem kw_1197 : Cond.code yX11_lists cX11_lists 7 (some (.int)) ∈ gw := gw_of (tb_of 1197 (by decide +kernel)) (by decide +kernel)
theorem kw_1198 : Cond.methodLink "FootholdWallLaw" 175 yX11_image ∈ gw := gw_of (tb_of 1198 (by decide +kernel)) (by decide +kernel)
theorem kw_1199 : Cond.instanceMethod yX11_image ∈ gw := gw_of (tb_of 1199 (by decide +kernel)) (by decide +kernel)
theorem kw_1200 : Cond.selects "FootholdWall" yX11_image yX11_image ∈ gw := gw_of (tb_of 1200 (by decide +kernel)) (by decide +kernel)
theorem kw_1201 : Cond.code yX11_image cX11_image 2 (some (.int)) ∈ gw := gw_of (tb_of 1201 (by decide +kernel)) (by decide +kernel)
theorem kw_1205 : Cond.methodLink "FootholdWallLaw" 179 yX11_restore ∈ gw := gw_of (tb_of 1205 (by decide +kernel)) (by decide +kernel)
theorem kw_1206 : Cond.instanceMethod yX11_restore ∈ gw := gw_of (tb_of 1206 (by decide +kernel)) (by decide +kernel)
theorem kw_1207 : Cond.selects "FootholdWall" yX11_restore yX11_restore ∈ gw := gw_of (tb_of 1207 (by decide +kernel)) (by decide +kernel)
theorem kw_1208 : Cond.code yX11_restore cX11_restore 2 (some (.int)) ∈ gw := gw_of (tb_of 1208 (by decide +kernel)) (by decide +kernel)
theorem kw_1209 : Cond.methodLink "FootholdWallLaw" 183 yX11_count ∈ gw := gw_of (tb_of 1209 (by decide +kernel)) (by decide +kernel)
theorem kw_1210 : Cond.instanceMethod yX11_count ∈ gw := gw_of (tb_of 1210 (by decide +kernel)) (by decide +kernel)
theorem kw_1211 : Cond.selects "FootholdWall" yX11_count yX11_count ∈ gw := gw_of (tb_of 1211 (by decide +kernel)) (by decide +kernel)
theorem kw_1212 : Cond.code yX11_count cX11_count 2 (some (.int)) ∈ gw := gw_of (tb_of 1212 (by decide +kernel)) (by decide +kernel)
theorem kw_1716 : Cond.methodLink "FootholdWallLaw" 143 yX12_whose ∈ gw := gw_of (tb_of 1716 (by decide +kernel)) (by decide +kernel)
theorem kw_1717 : Cond.instanceMethod yX12_whose ∈ gw := gw_of (tb_of 1717 (by decide +kernel)) (by decide +kernel)
theorem kw_1718 : Cond.selects "FootholdWallModel" yX12_whose yX12_whose ∈ gw := gw_of (tb_of 1718 (by decide +kernel)) (by decide +kernel)
theorem kw_1719 : Cond.code yX12_whose cX12_whose 4 (some (.int)) ∈ gw := gw_of (tb_of 1719 (by decide +kernel)) (by decide +kernel)
theorem kw_1740 : Cond.methodLink "FootholdWallLaw" 147 yX12_order ∈ gw := gw_of (tb_of 1740 (by decide +kernel)) (by decide +kernel)
theorem kw_1741 : Cond.instanceMethod yX12_order ∈ gw := gw_of (tb_of 1741 (by decide +kernel)) (by decide +kernel)
theorem kw_1742 : Cond.selects "FootholdWallModel" yX12_order yX12_order ∈ gw := gw_of (tb_of 1742 (by decide +kernel)) (by decide +kernel)
theorem kw_1743 : Cond.code yX12_order cX12_order 11 (some (.int)) ∈ gw := gw_of (tb_of 1743 (by decide +kernel)) (by decide +kernel)
theorem kw_1744 : Cond.methodLink "FootholdWallLaw" 151 yX12_saved ∈ gw := gw_of (tb_of 1744 (by decide +kernel)) (by decide +kernel)
theorem kw_1745 : Cond.instanceMethod yX12_saved ∈ gw := gw_of (tb_of 1745 (by decide +kernel)) (by decide +kernel)
theorem kw_1746 : Cond.selects "FootholdWallModel" yX12_saved yX12_saved ∈ gw := gw_of (tb_of 1746 (by decide +kernel)) (by decide +kernel)
theorem kw_1747 : Cond.code yX12_saved cX12_saved 5 (some (.int)) ∈ gw := gw_of (tb_of 1747 (by decide +kernel)) (by decide +kernel)
theorem kw_1748 : Cond.methodLink "FootholdWallLaw" 155 yX12_leaves ∈ gw := gw_of (tb_of 1748 (by decide +kernel)) (by decide +kernel)
theorem kw_1749 : Cond.instanceMethod yX12_leaves ∈ gw := gw_of (tb_of 1749 (by decide +kernel)) (by decide +kernel)
theorem kw_1750 : Cond.selects "FootholdWallModel" yX12_leaves yX12_leaves ∈ gw := gw_of (tb_of 1750 (by decide +kernel)) (by decide +kernel)
theorem kw_1751 : Cond.code yX12_leaves cX12_leaves 4 (some (.int)) ∈ gw := gw_of (tb_of 1751 (by decide +kernel)) (by decide +kernel)
theorem kw_1752 : Cond.methodLink "FootholdWallLaw" 159 yX12_inTurn ∈ gw := gw_of (tb_of 1752 (by decide +kernel)) (by decide +kernel)
theorem kw_1753 : Cond.instanceMethod yX12_inTurn ∈ gw := gw_of (tb_of 1753 (by decide +kernel)) (by decide +kernel)
theorem kw_1754 : Cond.selects "FootholdWallModel" yX12_inTurn yX12_inTurn ∈ gw := gw_of (tb_of 1754 (by decide +kernel)) (by decide +kernel)
theorem kw_1755 : Cond.code yX12_inTurn cX12_inTurn 3 (some (.int)) ∈ gw := gw_of (tb_of 1755 (by decide +kernel)) (by decide +kernel)
theorem kw_1760 : Cond.methodLink "FootholdWallLaw" 163 yX12_numbers ∈ gw := gw_of (tb_of 1760 (by decide +kernel)) (by decide +kernel)
theorem kw_1761 : Cond.instanceMethod yX12_numbers ∈ gw := gw_of (tb_of 1761 (by decide +kernel)) (by decide +kernel)
theorem kw_1762 : Cond.selects "FootholdWallModel" yX12_numbers yX12_numbers ∈ gw := gw_of (tb_of 1762 (by decide +kernel)) (by decide +kernel)
theorem kw_1763 : Cond.code yX12_numbers cX12_numbers 5 (some (.int)) ∈ gw := gw_of (tb_of 1763 (by decide +kernel)) (by decide +kernel)
theorem kw_1764 : Cond.methodLink "FootholdWallLaw" 170 yX12_write ∈ gw := gw_of (tb_of 1764 (by decide +kernel)) (by decide +kernel)
theorem kw_1765 : Cond.instanceMethod yX12_write ∈ gw := gw_of (tb_of 1765 (by decide +kernel)) (by decide +kernel)
theorem kw_1766 : Cond.selects "FootholdWallModel" yX12_write yX12_write ∈ gw := gw_of (tb_of 1766 (by decide +kernel)) (by decide +kernel)
theorem kw_1767 : Cond.code yX12_write cX12_write 6 (some (.long)) ∈ gw := gw_of (tb_of 1767 (by decide +kernel)) (by decide +kernel)
theorem kw_1772 : Cond.methodLink "FootholdWallLaw" 174 yX12_lists ∈ gw := gw_of (tb_of 1772 (by decide +kernel)) (by decide +kernel)
theorem kw_1773 : Cond.instanceMethod yX12_lists ∈ gw := gw_of (tb_of 1773 (by decide +kernel)) (by decide +kernel)
theorem kw_1774 : Cond.selects "FootholdWallModel" yX12_lists yX12_lists ∈ gw := gw_of (tb_of 1774 (by decide +kernel)) (by decide +kernel)
theorem kw_1775 : Cond.code yX12_lists cX12_lists 6 (some (.int)) ∈ gw := gw_of (tb_of 1775 (by decide +kernel)) (by decide +kernel)
theorem kw_1776 : Cond.methodLink "FootholdWallLaw" 178 yX12_image ∈ gw := gw_of (tb_of 1776 (by decide +kernel)) (by decide +kernel)
theorem kw_1777 : Cond.instanceMethod yX12_image ∈ gw := gw_of (tb_of 1777 (by decide +kernel)) (by decide +kernel)
theorem kw_1778 : Cond.selects "FootholdWallModel" yX12_image yX12_image ∈ gw := gw_of (tb_of 1778 (by decide +kernel)) (by decide +kernel)
theorem kw_1779 : Cond.code yX12_image cX12_image 3 (some (.int)) ∈ gw := gw_of (tb_of 1779 (by decide +kernel)) (by decide +kernel)
theorem kw_1780 : Cond.methodLink "FootholdWallLaw" 182 yX12_restore ∈ gw := gw_of (tb_of 1780 (by decide +kernel)) (by decide +kernel)
theorem kw_1781 : Cond.instanceMethod yX12_restore ∈ gw := gw_of (tb_of 1781 (by decide +kernel)) (by decide +kernel)
theorem kw_1782 : Cond.selects "FootholdWallModel" yX12_restore yX12_restore ∈ gw := gw_of (tb_of 1782 (by decide +kernel)) (by decide +kernel)
theorem kw_1783 : Cond.code yX12_restore cX12_restore 3 (some (.int)) ∈ gw := gw_of (tb_of 1783 (by decide +kernel)) (by decide +kernel)
theorem kw_1784 : Cond.methodLink "FootholdWallLaw" 186 yX12_count ∈ gw := gw_of (tb_of 1784 (by decide +kernel)) (by decide +kernel)
theorem kw_1785 : Cond.instanceMethod yX12_count ∈ gw := gw_of (tb_of 1785 (by decide +kernel)) (by decide +kernel)
theorem kw_1786 : Cond.selects "FootholdWallModel" yX12_count yX12_count ∈ gw := gw_of (tb_of 1786 (by decide +kernel)) (by decide +kernel)
theorem kw_1787 : Cond.code yX12_count cX12_count 2 (some (.int)) ∈ gw := gw_of (tb_of 1787 (by decide +kernel)) (by decide +kernel)
theorem kw_1788 : Cond.constantLong "FootholdWallLaw" 164 4294967295 ∈ gw := gw_of (tb_of 1788 (by decide +kernel)) (by decide +kernel)

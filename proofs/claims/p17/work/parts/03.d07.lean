theorem dk_d07_715 : dkc cL_law [(1120, .aload_n 0, 1), (1121, .iload_n 3, 1), (1122, .iconst 2, 1), (1123, .iadd, 1), (1124, .iaload, 1), (1125, .invokevirtual 142, 3), (1128, .pop, 1), (1129, .aload_n 2, 1), (1130, .aload_n 0, 1), (1131, .iload_n 3, 1), (1132, .iconst 1, 1), (1133, .iadd, 1), (1134, .iaload, 1), (1135, .aload_n 0, 1), (1136, .iload_n 3, 1), (1137, .iconst 2, 1), (1138, .iadd, 1), (1139, .iaload, 1), (1140, .invokevirtual 145, 3), (1143, .pop, 1), (1144, .goto 213, 3), (1147, .aload_n 1, 1), (1148, .aload_n 0, 1), (1149, .iload_n 3, 1), (1150, .iconst 1, 1)] = true := by decide +kernel
theorem dL_law_1120 : decode cL_law 1120 = .ok (.aload_n 0, 1) := dk_get dk_d07_715 0 rfl
theorem dL_law_1121 : decode cL_law 1121 = .ok (.iload_n 3, 1) := dk_get dk_d07_715 1 rfl
theorem dL_law_1122 : decode cL_law 1122 = .ok (.iconst 2, 1) := dk_get dk_d07_715 2 rfl
theorem dL_law_1123 : decode cL_law 1123 = .ok (.iadd, 1) := dk_get dk_d07_715 3 rfl
theorem dL_law_1124 : decode cL_law 1124 = .ok (.iaload, 1) := dk_get dk_d07_715 4 rfl
theorem dL_law_1125 : decode cL_law 1125 = .ok (.invokevirtual 142, 3) := dk_get dk_d07_715 5 rfl
theorem dL_law_1128 : decode cL_law 1128 = .ok (.pop, 1) := dk_get dk_d07_715 6 rfl
theorem dL_law_1129 : decode cL_law 1129 = .ok (.aload_n 2, 1) := dk_get dk_d07_715 7 rfl
theorem dL_law_1130 : decode cL_law 1130 = .ok (.aload_n 0, 1) := dk_get dk_d07_715 8 rfl
theorem dL_law_1131 : decode cL_law 1131 = .ok (.iload_n 3, 1) := dk_get dk_d07_715 9 rfl
theorem dL_law_1132 : decode cL_law 1132 = .ok (.iconst 1, 1) := dk_get dk_d07_715 10 rfl
theorem dL_law_1133 : decode cL_law 1133 = .ok (.iadd, 1) := dk_get dk_d07_715 11 rfl
theorem dL_law_1134 : decode cL_law 1134 = .ok (.iaload, 1) := dk_get dk_d07_715 12 rfl
theorem dL_law_1135 : decode cL_law 1135 = .ok (.aload_n 0, 1) := dk_get dk_d07_715 13 rfl
theorem dL_law_1136 : decode cL_law 1136 = .ok (.iload_n 3, 1) := dk_get dk_d07_715 14 rfl
theorem dL_law_1137 : decode cL_law 1137 = .ok (.iconst 2, 1) := dk_get dk_d07_715 15 rfl
theorem dL_law_1138 : decode cL_law 1138 = .ok (.iadd, 1) := dk_get dk_d07_715 16 rfl
theorem dL_law_1139 : decode cL_law 1139 = .ok (.iaload, 1) := dk_get dk_d07_715 17 rfl
theorem dL_law_1140 : decode cL_law 1140 = .ok (.invokevirtual 145, 3) := dk_get dk_d07_715 18 rfl
theorem dL_law_1143 : decode cL_law 1143 = .ok (.pop, 1) := dk_get dk_d07_715 19 rfl
theorem dL_law_1144 : decode cL_law 1144 = .ok (.goto 213, 3) := dk_get dk_d07_715 20 rfl
theorem dL_law_1147 : decode cL_law 1147 = .ok (.aload_n 1, 1) := dk_get dk_d07_715 21 rfl
theorem dL_law_1148 : decode cL_law 1148 = .ok (.aload_n 0, 1) := dk_get dk_d07_715 22 rfl
theorem dL_law_1149 : decode cL_law 1149 = .ok (.iload_n 3, 1) := dk_get dk_d07_715 23 rfl
theorem dL_law_1150 : decode cL_law 1150 = .ok (.iconst 1, 1) := dk_get dk_d07_715 24 rfl
theorem dk_d07_716 : dkc cL_law [(1151, .iadd, 1), (1152, .iaload, 1), (1153, .aload_n 0, 1), (1154, .iload_n 3, 1), (1155, .iconst 2, 1), (1156, .iadd, 1), (1157, .iaload, 1), (1158, .invokevirtual 146, 3), (1161, .pop, 1), (1162, .aload_n 2, 1), (1163, .aload_n 0, 1), (1164, .iload_n 3, 1), (1165, .iconst 1, 1), (1166, .iadd, 1), (1167, .iaload, 1), (1168, .aload_n 0, 1), (1169, .iload_n 3, 1), (1170, .iconst 2, 1), (1171, .iadd, 1), (1172, .iaload, 1), (1173, .invokevirtual 149, 3), (1176, .pop, 1), (1177, .goto 180, 3), (1180, .aload_n 1, 1), (1181, .aload_n 0, 1)] = true := by decide +kernel
theorem dL_law_1151 : decode cL_law 1151 = .ok (.iadd, 1) := dk_get dk_d07_716 0 rfl
theorem dL_law_1152 : decode cL_law 1152 = .ok (.iaload, 1) := dk_get dk_d07_716 1 rfl
theorem dL_law_1153 : decode cL_law 1153 = .ok (.aload_n 0, 1) := dk_get dk_d07_716 2 rfl
theorem dL_law_1154 : decode cL_law 1154 = .ok (.iload_n 3, 1) := dk_get dk_d07_716 3 rfl
theorem dL_law_1155 : decode cL_law 1155 = .ok (.iconst 2, 1) := dk_get dk_d07_716 4 rfl
theorem dL_law_1156 : decode cL_law 1156 = .ok (.iadd, 1) := dk_get dk_d07_716 5 rfl
theorem dL_law_1157 : decode cL_law 1157 = .ok (.iaload, 1) := dk_get dk_d07_716 6 rfl
theorem dL_law_1158 : decode cL_law 1158 = .ok (.invokevirtual 146, 3) := dk_get dk_d07_716 7 rfl
theorem dL_law_1161 : decode cL_law 1161 = .ok (.pop, 1) := dk_get dk_d07_716 8 rfl
theorem dL_law_1162 : decode cL_law 1162 = .ok (.aload_n 2, 1) := dk_get dk_d07_716 9 rfl
theorem dL_law_1163 : decode cL_law 1163 = .ok (.aload_n 0, 1) := dk_get dk_d07_716 10 rfl
theorem dL_law_1164 : decode cL_law 1164 = .ok (.iload_n 3, 1) := dk_get dk_d07_716 11 rfl
theorem dL_law_1165 : decode cL_law 1165 = .ok (.iconst 1, 1) := dk_get dk_d07_716 12 rfl
theorem dL_law_1166 : decode cL_law 1166 = .ok (.iadd, 1) := dk_get dk_d07_716 13 rfl
theorem dL_law_1167 : decode cL_law 1167 = .ok (.iaload, 1) := dk_get dk_d07_716 14 rfl
theorem dL_law_1168 : decode cL_law 1168 = .ok (.aload_n 0, 1) := dk_get dk_d07_716 15 rfl
theorem dL_law_1169 : decode cL_law 1169 = .ok (.iload_n 3, 1) := dk_get dk_d07_716 16 rfl
theorem dL_law_1170 : decode cL_law 1170 = .ok (.iconst 2, 1) := dk_get dk_d07_716 17 rfl
theorem dL_law_1171 : decode cL_law 1171 = .ok (.iadd, 1) := dk_get dk_d07_716 18 rfl
theorem dL_law_1172 : decode cL_law 1172 = .ok (.iaload, 1) := dk_get dk_d07_716 19 rfl
theorem dL_law_1173 : decode cL_law 1173 = .ok (.invokevirtual 149, 3) := dk_get dk_d07_716 20 rfl
theorem dL_law_1176 : decode cL_law 1176 = .ok (.pop, 1) := dk_get dk_d07_716 21 rfl
theorem dL_law_1177 : decode cL_law 1177 = .ok (.goto 180, 3) := dk_get dk_d07_716 22 rfl
theorem dL_law_1180 : decode cL_law 1180 = .ok (.aload_n 1, 1) := dk_get dk_d07_716 23 rfl
theorem dL_law_1181 : decode cL_law 1181 = .ok (.aload_n 0, 1) := dk_get dk_d07_716 24 rfl
theorem dk_d07_717 : dkc cL_law [(1182, .iload_n 3, 1), (1183, .iconst 1, 1), (1184, .iadd, 1), (1185, .iaload, 1), (1186, .invokevirtual 150, 3), (1189, .pop, 1), (1190, .aload_n 2, 1), (1191, .aload_n 0, 1), (1192, .iload_n 3, 1), (1193, .iconst 1, 1), (1194, .iadd, 1), (1195, .iaload, 1), (1196, .invokevirtual 153, 3), (1199, .pop, 1), (1200, .goto 157, 3), (1203, .aload_n 1, 1), (1204, .aload_n 0, 1), (1205, .iload_n 3, 1), (1206, .iconst 1, 1), (1207, .iadd, 1), (1208, .iaload, 1), (1209, .aload_n 0, 1), (1210, .iload_n 3, 1), (1211, .iconst 2, 1), (1212, .iadd, 1)] = true := by decide +kernel
theorem dL_law_1182 : decode cL_law 1182 = .ok (.iload_n 3, 1) := dk_get dk_d07_717 0 rfl
theorem dL_law_1183 : decode cL_law 1183 = .ok (.iconst 1, 1) := dk_get dk_d07_717 1 rfl
theorem dL_law_1184 : decode cL_law 1184 = .ok (.iadd, 1) := dk_get dk_d07_717 2 rfl
theorem dL_law_1185 : decode cL_law 1185 = .ok (.iaload, 1) := dk_get dk_d07_717 3 rfl
theorem dL_law_1186 : decode cL_law 1186 = .ok (.invokevirtual 150, 3) := dk_get dk_d07_717 4 rfl
theorem dL_law_1189 : decode cL_law 1189 = .ok (.pop, 1) := dk_get dk_d07_717 5 rfl
theorem dL_law_1190 : decode cL_law 1190 = .ok (.aload_n 2, 1) := dk_get dk_d07_717 6 rfl
theorem dL_law_1191 : decode cL_law 1191 = .ok (.aload_n 0, 1) := dk_get dk_d07_717 7 rfl
theorem dL_law_1192 : decode cL_law 1192 = .ok (.iload_n 3, 1) := dk_get dk_d07_717 8 rfl
theorem dL_law_1193 : decode cL_law 1193 = .ok (.iconst 1, 1) := dk_get dk_d07_717 9 rfl
theorem dL_law_1194 : decode cL_law 1194 = .ok (.iadd, 1) := dk_get dk_d07_717 10 rfl
theorem dL_law_1195 : decode cL_law 1195 = .ok (.iaload, 1) := dk_get dk_d07_717 11 rfl
theorem dL_law_1196 : decode cL_law 1196 = .ok (.invokevirtual 153, 3) := dk_get dk_d07_717 12 rfl
theorem dL_law_1199 : decode cL_law 1199 = .ok (.pop, 1) := dk_get dk_d07_717 13 rfl
theorem dL_law_1200 : decode cL_law 1200 = .ok (.goto 157, 3) := dk_get dk_d07_717 14 rfl
theorem dL_law_1203 : decode cL_law 1203 = .ok (.aload_n 1, 1) := dk_get dk_d07_717 15 rfl
theorem dL_law_1204 : decode cL_law 1204 = .ok (.aload_n 0, 1) := dk_get dk_d07_717 16 rfl
theorem dL_law_1205 : decode cL_law 1205 = .ok (.iload_n 3, 1) := dk_get dk_d07_717 17 rfl
theorem dL_law_1206 : decode cL_law 1206 = .ok (.iconst 1, 1) := dk_get dk_d07_717 18 rfl
theorem dL_law_1207 : decode cL_law 1207 = .ok (.iadd, 1) := dk_get dk_d07_717 19 rfl
theorem dL_law_1208 : decode cL_law 1208 = .ok (.iaload, 1) := dk_get dk_d07_717 20 rfl
theorem dL_law_1209 : decode cL_law 1209 = .ok (.aload_n 0, 1) := dk_get dk_d07_717 21 rfl
theorem dL_law_1210 : decode cL_law 1210 = .ok (.iload_n 3, 1) := dk_get dk_d07_717 22 rfl
theorem dL_law_1211 : decode cL_law 1211 = .ok (.iconst 2, 1) := dk_get dk_d07_717 23 rfl
theorem dL_law_1212 : decode cL_law 1212 = .ok (.iadd, 1) := dk_get dk_d07_717 24 rfl
theorem dk_d07_718 : dkc cL_law [(1213, .iaload, 1), (1214, .invokevirtual 154, 3), (1217, .pop, 1), (1218, .aload_n 2, 1), (1219, .aload_n 0, 1), (1220, .iload_n 3, 1), (1221, .iconst 1, 1), (1222, .iadd, 1), (1223, .iaload, 1), (1224, .aload_n 0, 1), (1225, .iload_n 3, 1), (1226, .iconst 2, 1), (1227, .iadd, 1), (1228, .iaload, 1), (1229, .invokevirtual 157, 3), (1232, .pop, 1), (1233, .goto 124, 3), (1236, .aload_n 1, 1), (1237, .invokevirtual 158, 3), (1240, .pop, 1), (1241, .aload_n 2, 1), (1242, .invokevirtual 161, 3), (1245, .pop, 1), (1246, .goto 111, 3), (1249, .aload_n 1, 1)] = true := by decide +kernel
theorem dL_law_1213 : decode cL_law 1213 = .ok (.iaload, 1) := dk_get dk_d07_718 0 rfl
theorem dL_law_1214 : decode cL_law 1214 = .ok (.invokevirtual 154, 3) := dk_get dk_d07_718 1 rfl
theorem dL_law_1217 : decode cL_law 1217 = .ok (.pop, 1) := dk_get dk_d07_718 2 rfl
theorem dL_law_1218 : decode cL_law 1218 = .ok (.aload_n 2, 1) := dk_get dk_d07_718 3 rfl
theorem dL_law_1219 : decode cL_law 1219 = .ok (.aload_n 0, 1) := dk_get dk_d07_718 4 rfl
theorem dL_law_1220 : decode cL_law 1220 = .ok (.iload_n 3, 1) := dk_get dk_d07_718 5 rfl
theorem dL_law_1221 : decode cL_law 1221 = .ok (.iconst 1, 1) := dk_get dk_d07_718 6 rfl
theorem dL_law_1222 : decode cL_law 1222 = .ok (.iadd, 1) := dk_get dk_d07_718 7 rfl
theorem dL_law_1223 : decode cL_law 1223 = .ok (.iaload, 1) := dk_get dk_d07_718 8 rfl
theorem dL_law_1224 : decode cL_law 1224 = .ok (.aload_n 0, 1) := dk_get dk_d07_718 9 rfl
theorem dL_law_1225 : decode cL_law 1225 = .ok (.iload_n 3, 1) := dk_get dk_d07_718 10 rfl
theorem dL_law_1226 : decode cL_law 1226 = .ok (.iconst 2, 1) := dk_get dk_d07_718 11 rfl
theorem dL_law_1227 : decode cL_law 1227 = .ok (.iadd, 1) := dk_get dk_d07_718 12 rfl
theorem dL_law_1228 : decode cL_law 1228 = .ok (.iaload, 1) := dk_get dk_d07_718 13 rfl
theorem dL_law_1229 : decode cL_law 1229 = .ok (.invokevirtual 157, 3) := dk_get dk_d07_718 14 rfl
theorem dL_law_1232 : decode cL_law 1232 = .ok (.pop, 1) := dk_get dk_d07_718 15 rfl
theorem dL_law_1233 : decode cL_law 1233 = .ok (.goto 124, 3) := dk_get dk_d07_718 16 rfl
theorem dL_law_1236 : decode cL_law 1236 = .ok (.aload_n 1, 1) := dk_get dk_d07_718 17 rfl
theorem dL_law_1237 : decode cL_law 1237 = .ok (.invokevirtual 158, 3) := dk_get dk_d07_718 18 rfl
theorem dL_law_1240 : decode cL_law 1240 = .ok (.pop, 1) := dk_get dk_d07_718 19 rfl
theorem dL_law_1241 : decode cL_law 1241 = .ok (.aload_n 2, 1) := dk_get dk_d07_718 20 rfl
theorem dL_law_1242 : decode cL_law 1242 = .ok (.invokevirtual 161, 3) := dk_get dk_d07_718 21 rfl
theorem dL_law_1245 : decode cL_law 1245 = .ok (.pop, 1) := dk_get dk_d07_718 22 rfl
theorem dL_law_1246 : decode cL_law 1246 = .ok (.goto 111, 3) := dk_get dk_d07_718 23 rfl
theorem dL_law_1249 : decode cL_law 1249 = .ok (.aload_n 1, 1) := dk_get dk_d07_718 24 rfl
theorem dk_d07_719 : dkc cL_law [(1250, .aload_n 0, 1), (1251, .iload_n 3, 1), (1252, .iconst 1, 1), (1253, .iadd, 1), (1254, .iaload, 1), (1255, .aload_n 0, 1), (1256, .iload_n 3, 1), (1257, .iconst 2, 1), (1258, .iadd, 1), (1259, .iaload, 1), (1260, .invokevirtual 162, 3), (1263, .pop, 1), (1264, .aload_n 2, 1), (1265, .aload_n 0, 1), (1266, .iload_n 3, 1), (1267, .iconst 1, 1), (1268, .iadd, 1), (1269, .iaload, 1), (1270, .aload_n 0, 1), (1271, .iload_n 3, 1), (1272, .iconst 2, 1), (1273, .iadd, 1), (1274, .iaload, 1), (1275, .invokevirtual 165, 3), (1278, .pop, 1)] = true := by decide +kernel
theorem dL_law_1250 : decode cL_law 1250 = .ok (.aload_n 0, 1) := dk_get dk_d07_719 0 rfl
theorem dL_law_1251 : decode cL_law 1251 = .ok (.iload_n 3, 1) := dk_get dk_d07_719 1 rfl
theorem dL_law_1252 : decode cL_law 1252 = .ok (.iconst 1, 1) := dk_get dk_d07_719 2 rfl
theorem dL_law_1253 : decode cL_law 1253 = .ok (.iadd, 1) := dk_get dk_d07_719 3 rfl
theorem dL_law_1254 : decode cL_law 1254 = .ok (.iaload, 1) := dk_get dk_d07_719 4 rfl
theorem dL_law_1255 : decode cL_law 1255 = .ok (.aload_n 0, 1) := dk_get dk_d07_719 5 rfl
theorem dL_law_1256 : decode cL_law 1256 = .ok (.iload_n 3, 1) := dk_get dk_d07_719 6 rfl
theorem dL_law_1257 : decode cL_law 1257 = .ok (.iconst 2, 1) := dk_get dk_d07_719 7 rfl
theorem dL_law_1258 : decode cL_law 1258 = .ok (.iadd, 1) := dk_get dk_d07_719 8 rfl
theorem dL_law_1259 : decode cL_law 1259 = .ok (.iaload, 1) := dk_get dk_d07_719 9 rfl
theorem dL_law_1260 : decode cL_law 1260 = .ok (.invokevirtual 162, 3) := dk_get dk_d07_719 10 rfl
theorem dL_law_1263 : decode cL_law 1263 = .ok (.pop, 1) := dk_get dk_d07_719 11 rfl
theorem dL_law_1264 : decode cL_law 1264 = .ok (.aload_n 2, 1) := dk_get dk_d07_719 12 rfl
theorem dL_law_1265 : decode cL_law 1265 = .ok (.aload_n 0, 1) := dk_get dk_d07_719 13 rfl
theorem dL_law_1266 : decode cL_law 1266 = .ok (.iload_n 3, 1) := dk_get dk_d07_719 14 rfl
theorem dL_law_1267 : decode cL_law 1267 = .ok (.iconst 1, 1) := dk_get dk_d07_719 15 rfl
theorem dL_law_1268 : decode cL_law 1268 = .ok (.iadd, 1) := dk_get dk_d07_719 16 rfl
theorem dL_law_1269 : decode cL_law 1269 = .ok (.iaload, 1) := dk_get dk_d07_719 17 rfl
theorem dL_law_1270 : decode cL_law 1270 = .ok (.aload_n 0, 1) := dk_get dk_d07_719 18 rfl
theorem dL_law_1271 : decode cL_law 1271 = .ok (.iload_n 3, 1) := dk_get dk_d07_719 19 rfl
theorem dL_law_1272 : decode cL_law 1272 = .ok (.iconst 2, 1) := dk_get dk_d07_719 20 rfl
theorem dL_law_1273 : decode cL_law 1273 = .ok (.iadd, 1) := dk_get dk_d07_719 21 rfl
theorem dL_law_1274 : decode cL_law 1274 = .ok (.iaload, 1) := dk_get dk_d07_719 22 rfl
theorem dL_law_1275 : decode cL_law 1275 = .ok (.invokevirtual 165, 3) := dk_get dk_d07_719 23 rfl
theorem dL_law_1278 : decode cL_law 1278 = .ok (.pop, 1) := dk_get dk_d07_719 24 rfl
theorem dk_d07_720 : dkc cL_law [(1279, .goto 78, 3), (1282, .aload_n 1, 1), (1283, .invokevirtual 166, 3), (1286, .pop, 1), (1287, .aload_n 2, 1), (1288, .invokevirtual 170, 3), (1291, .pop, 1), (1292, .goto 65, 3), (1295, .aload_n 1, 1), (1296, .aload_n 0, 1), (1297, .iload_n 3, 1), (1298, .iconst 1, 1), (1299, .iadd, 1), (1300, .iaload, 1), (1301, .ifCond .eq 7, 3), (1304, .iconst 1, 1), (1305, .goto 4, 3), (1308, .iconst 0, 1), (1309, .invokevirtual 171, 3), (1312, .pop, 1), (1313, .aload_n 2, 1), (1314, .aload_n 0, 1), (1315, .iload_n 3, 1), (1316, .iconst 1, 1), (1317, .iadd, 1)] = true := by decide +kernel
theorem dL_law_1279 : decode cL_law 1279 = .ok (.goto 78, 3) := dk_get dk_d07_720 0 rfl
theorem dL_law_1282 : decode cL_law 1282 = .ok (.aload_n 1, 1) := dk_get dk_d07_720 1 rfl
theorem dL_law_1283 : decode cL_law 1283 = .ok (.invokevirtual 166, 3) := dk_get dk_d07_720 2 rfl
theorem dL_law_1286 : decode cL_law 1286 = .ok (.pop, 1) := dk_get dk_d07_720 3 rfl
theorem dL_law_1287 : decode cL_law 1287 = .ok (.aload_n 2, 1) := dk_get dk_d07_720 4 rfl
theorem dL_law_1288 : decode cL_law 1288 = .ok (.invokevirtual 170, 3) := dk_get dk_d07_720 5 rfl
theorem dL_law_1291 : decode cL_law 1291 = .ok (.pop, 1) := dk_get dk_d07_720 6 rfl
theorem dL_law_1292 : decode cL_law 1292 = .ok (.goto 65, 3) := dk_get dk_d07_720 7 rfl
theorem dL_law_1295 : decode cL_law 1295 = .ok (.aload_n 1, 1) := dk_get dk_d07_720 8 rfl
theorem dL_law_1296 : decode cL_law 1296 = .ok (.aload_n 0, 1) := dk_get dk_d07_720 9 rfl
theorem dL_law_1297 : decode cL_law 1297 = .ok (.iload_n 3, 1) := dk_get dk_d07_720 10 rfl
theorem dL_law_1298 : decode cL_law 1298 = .ok (.iconst 1, 1) := dk_get dk_d07_720 11 rfl
theorem dL_law_1299 : decode cL_law 1299 = .ok (.iadd, 1) := dk_get dk_d07_720 12 rfl
theorem dL_law_1300 : decode cL_law 1300 = .ok (.iaload, 1) := dk_get dk_d07_720 13 rfl
theorem dL_law_1301 : decode cL_law 1301 = .ok (.ifCond .eq 7, 3) := dk_get dk_d07_720 14 rfl
theorem dL_law_1304 : decode cL_law 1304 = .ok (.iconst 1, 1) := dk_get dk_d07_720 15 rfl
theorem dL_law_1305 : decode cL_law 1305 = .ok (.goto 4, 3) := dk_get dk_d07_720 16 rfl
theorem dL_law_1308 : decode cL_law 1308 = .ok (.iconst 0, 1) := dk_get dk_d07_720 17 rfl
theorem dL_law_1309 : decode cL_law 1309 = .ok (.invokevirtual 171, 3) := dk_get dk_d07_720 18 rfl
theorem dL_law_1312 : decode cL_law 1312 = .ok (.pop, 1) := dk_get dk_d07_720 19 rfl
theorem dL_law_1313 : decode cL_law 1313 = .ok (.aload_n 2, 1) := dk_get dk_d07_720 20 rfl
theorem dL_law_1314 : decode cL_law 1314 = .ok (.aload_n 0, 1) := dk_get dk_d07_720 21 rfl
theorem dL_law_1315 : decode cL_law 1315 = .ok (.iload_n 3, 1) := dk_get dk_d07_720 22 rfl
theorem dL_law_1316 : decode cL_law 1316 = .ok (.iconst 1, 1) := dk_get dk_d07_720 23 rfl
theorem dL_law_1317 : decode cL_law 1317 = .ok (.iadd, 1) := dk_get dk_d07_720 24 rfl
theorem dk_d07_721 : dkc cL_law [(1318, .iaload, 1), (1319, .ifCond .eq 7, 3), (1322, .iconst 1, 1), (1323, .goto 4, 3), (1326, .iconst 0, 1), (1327, .invokevirtual 175, 3), (1330, .pop, 1), (1331, .goto 26, 3), (1334, .aload_n 1, 1), (1335, .aload_n 0, 1), (1336, .iload_n 3, 1), (1337, .iconst 1, 1), (1338, .iadd, 1), (1339, .iaload, 1), (1340, .invokevirtual 176, 3), (1343, .pop, 1), (1344, .aload_n 2, 1), (1345, .aload_n 0, 1), (1346, .iload_n 3, 1), (1347, .iconst 1, 1), (1348, .iadd, 1), (1349, .iaload, 1), (1350, .invokevirtual 179, 3), (1353, .pop, 1), (1354, .goto 3, 3)] = true := by decide +kernel
theorem dL_law_1318 : decode cL_law 1318 = .ok (.iaload, 1) := dk_get dk_d07_721 0 rfl
theorem dL_law_1319 : decode cL_law 1319 = .ok (.ifCond .eq 7, 3) := dk_get dk_d07_721 1 rfl
theorem dL_law_1322 : decode cL_law 1322 = .ok (.iconst 1, 1) := dk_get dk_d07_721 2 rfl
theorem dL_law_1323 : decode cL_law 1323 = .ok (.goto 4, 3) := dk_get dk_d07_721 3 rfl
theorem dL_law_1326 : decode cL_law 1326 = .ok (.iconst 0, 1) := dk_get dk_d07_721 4 rfl
theorem dL_law_1327 : decode cL_law 1327 = .ok (.invokevirtual 175, 3) := dk_get dk_d07_721 5 rfl
theorem dL_law_1330 : decode cL_law 1330 = .ok (.pop, 1) := dk_get dk_d07_721 6 rfl
theorem dL_law_1331 : decode cL_law 1331 = .ok (.goto 26, 3) := dk_get dk_d07_721 7 rfl
theorem dL_law_1334 : decode cL_law 1334 = .ok (.aload_n 1, 1) := dk_get dk_d07_721 8 rfl
theorem dL_law_1335 : decode cL_law 1335 = .ok (.aload_n 0, 1) := dk_get dk_d07_721 9 rfl
theorem dL_law_1336 : decode cL_law 1336 = .ok (.iload_n 3, 1) := dk_get dk_d07_721 10 rfl
theorem dL_law_1337 : decode cL_law 1337 = .ok (.iconst 1, 1) := dk_get dk_d07_721 11 rfl
theorem dL_law_1338 : decode cL_law 1338 = .ok (.iadd, 1) := dk_get dk_d07_721 12 rfl
theorem dL_law_1339 : decode cL_law 1339 = .ok (.iaload, 1) := dk_get dk_d07_721 13 rfl
theorem dL_law_1340 : decode cL_law 1340 = .ok (.invokevirtual 176, 3) := dk_get dk_d07_721 14 rfl
theorem dL_law_1343 : decode cL_law 1343 = .ok (.pop, 1) := dk_get dk_d07_721 15 rfl
theorem dL_law_1344 : decode cL_law 1344 = .ok (.aload_n 2, 1) := dk_get dk_d07_721 16 rfl
theorem dL_law_1345 : decode cL_law 1345 = .ok (.aload_n 0, 1) := dk_get dk_d07_721 17 rfl
theorem dL_law_1346 : decode cL_law 1346 = .ok (.iload_n 3, 1) := dk_get dk_d07_721 18 rfl
theorem dL_law_1347 : decode cL_law 1347 = .ok (.iconst 1, 1) := dk_get dk_d07_721 19 rfl
theorem dL_law_1348 : decode cL_law 1348 = .ok (.iadd, 1) := dk_get dk_d07_721 20 rfl
theorem dL_law_1349 : decode cL_law 1349 = .ok (.iaload, 1) := dk_get dk_d07_721 21 rfl
theorem dL_law_1350 : decode cL_law 1350 = .ok (.invokevirtual 179, 3) := dk_get dk_d07_721 22 rfl
theorem dL_law_1353 : decode cL_law 1353 = .ok (.pop, 1) := dk_get dk_d07_721 23 rfl
theorem dL_law_1354 : decode cL_law 1354 = .ok (.goto 3, 3) := dk_get dk_d07_721 24 rfl
theorem dk_d07_722 : dkc cL_law [(1357, .iinc 3 6, 3), (1360, .goto (-1342), 3), (1363, .iconst 1, 1), (1364, .ireturn, 1)] = true := by decide +kernel
theorem dL_law_1357 : decode cL_law 1357 = .ok (.iinc 3 6, 3) := dk_get dk_d07_722 0 rfl
theorem dL_law_1360 : decode cL_law 1360 = .ok (.goto (-1342), 3) := dk_get dk_d07_722 1 rfl
theorem dL_law_1363 : decode cL_law 1363 = .ok (.iconst 1, 1) := dk_get dk_d07_722 2 rfl
theorem dL_law_1364 : decode cL_law 1364 = .ok (.ireturn, 1) := dk_get dk_d07_722 3 rfl

/-! the laws calls, printed rows -/
set_option maxRecDepth 20000 in
theorem ggL_law_X8_init : GoodIn wsL_law wsX8_init := goodIn_r _ [9, 10, 11, 12, 13, 14, 15, 16, 17, 18, 19, 20, 21, 22, 23, 24, 25, 26, 27, 28, 29, 30, 31, 32, 33, 34, 35, 36, 37, 38, 39, 40, 41, 42, 43, 44, 45, 46, 47, 48, 49, 50, 51, 52, 53, 54, 55, 56, 57, 58, 59, 60, 61, 62, 63, 64, 65, 66, 67, 68, 69, 70, 71, 72, 73, 74, 75, 76, 77, 78, 79, 80, 81, 82, 83, 84, 85, 86, 87, 88, 89, 90, 91, 92, 93, 94, 95, 96, 97, 98, 99, 100, 101, 102, 103, 104, 1189, 1190, 1191, 1192, 1193, 1194, 1141, 1142, 1143, 1144, 1145, 1146, 1147, 1148, 1149, 1150, 1151, 1152, 1153, 1195, 1196, 1197, 1198, 1199, 1200, 1201, 1202, 1203, 1204, 1205, 1206, 1207, 1208, 1209, 1210, 1211, 1212, 1213, 1214, 1215, 1216, 1217, 1218, 1219] (by decide +kernel) (by decide +kernel)
set_option maxRecDepth 20000 in
theorem gL_law_X8_init : GoodIn wsL_law (wsX8_init) := ggL_law_X8_init
set_option maxRecDepth 20000 in
theorem ggL_law_X9_init : GoodIn wsL_law wsX9_init := goodIn_r _ [107, 108, 11, 12, 46, 109, 110, 111, 112, 113, 114, 115, 116, 117, 118, 119, 120, 121, 122, 123, 124, 125, 126, 127, 128, 129, 97, 130, 131, 1154, 1155, 1156, 1157, 1158, 1159, 1160, 1161, 1162, 1163, 1164, 1165, 1166, 1167, 1168, 1169, 1170, 1171, 1172, 1173, 1174, 1175, 1176, 1177, 1178, 1179, 1180, 1181, 1182, 1183, 1184, 1185, 1186, 1187, 1188] (by decide +kernel) (by decide +kernel)
set_option maxRecDepth 20000 in
theorem gL_law_X9_init : GoodIn wsL_law (wsX9_init) := ggL_law_X9_init
set_option maxRecDepth 20000 in
theorem ggL_law_X8_supply : GoodIn wsL_law wsX8_supply := goodIn_r _ [135, 20, 136, 137, 2, 138, 139, 140, 141, 142, 143, 144, 145, 146, 147, 148, 149, 25, 16, 150, 151, 152, 24, 153, 154, 155, 73, 156, 157, 158, 159, 160, 161, 162, 19, 163, 164, 165, 166, 167, 168, 169, 170, 171, 60, 172, 173, 174, 175, 61, 62, 63, 1141, 1142, 1143, 1144, 1145, 1146, 1147, 1148, 1149, 1150, 1151, 1152, 1153, 1195, 1196, 1197, 1198, 1199, 1189, 1190, 1191, 1192, 1193, 1194, 1200, 1201, 1202] (by decide +kernel) (by decide +kernel)
set_option maxRecDepth 20000 in
theorem gL_law_X8_supply : GoodIn wsL_law (wsV RL 13 RX8 yX8_supply wsX8_supply) := goodIn_app (goodIn_of _ (by decide +kernel)) ggL_law_X8_supply
set_option maxRecDepth 20000 in
theorem ggL_law_X9_supply : GoodIn wsL_law wsX9_supply := goodIn_r _ [179, 109, 118, 180, 181, 5, 182, 183, 184, 185, 186, 187, 188, 189, 190, 191, 192, 193, 194, 195, 196, 197, 198, 199, 200, 115, 116, 117, 201, 202, 1154, 1155, 1156, 1157, 1158, 1159, 1160, 1161, 1162, 1163, 1164, 1165, 1166, 1167, 1168, 1169, 1170, 1171, 1172, 1173, 1174, 1175, 1176, 1177, 1178, 1179, 1180, 1181, 1182, 1183, 1184, 1185, 1186, 1187, 1188] (by decide +kernel) (by decide +kernel)
set_option maxRecDepth 20000 in
theorem gL_law_X9_supply : GoodIn wsL_law (wsV RL 17 RX9 yX9_supply wsX9_supply) := goodIn_app (goodIn_of _ (by decide +kernel)) ggL_law_X9_supply
set_option maxRecDepth 20000 in
theorem ggL_law_X8_supplied : GoodIn wsL_law wsX8_supplied := goodIn_r _ [206, 20, 136, 137, 2, 138, 139, 140, 141, 142, 143, 144, 1141, 1142, 1143, 1144, 1145, 1146, 1147, 1148, 1149, 1150, 1151, 1152, 1153, 1195, 1196, 1197, 1198, 1199] (by decide +kernel) (by decide +kernel)
set_option maxRecDepth 20000 in
theorem gL_law_X8_supplied : GoodIn wsL_law (wsV RL 18 RX8 yX8_supplied wsX8_supplied) := goodIn_app (goodIn_of _ (by decide +kernel)) ggL_law_X8_supplied
set_option maxRecDepth 20000 in
theorem ggL_law_X9_supplied : GoodIn wsL_law wsX9_supplied := goodIn_r _ [210, 109, 180, 181, 5, 182, 183, 184, 185, 193, 194, 195, 1154, 1155, 1156, 1157, 1158, 1159, 1160, 1161, 1162, 1163, 1164, 1165, 1166, 1167, 1168, 1169, 1170, 1171, 1172, 1173, 1174, 1175, 1176, 1177, 1178, 1179, 1180, 1181, 1182, 1183, 1184, 1185, 1186, 1187, 1188] (by decide +kernel) (by decide +kernel)
set_option maxRecDepth 20000 in
theorem gL_law_X9_supplied : GoodIn wsL_law (wsV RL 22 RX9 yX9_supplied wsX9_supplied) := goodIn_app (goodIn_of _ (by decide +kernel)) ggL_law_X9_supplied
set_option maxRecDepth 20000 in
theorem ggL_law_X8_share : GoodIn wsL_law wsX8_share := goodIn_r _ [214, 20, 215, 216, 2, 217, 139, 140, 141, 145, 146, 147, 148, 149, 25, 16, 150, 151, 152, 24, 153, 154, 155, 73, 156, 157, 158, 159, 160, 161, 162, 19, 163, 164, 165, 166, 167, 168, 169, 170, 171, 60, 172, 173, 174, 175, 61, 62, 63, 1141, 1142, 1143, 1144, 1145, 1146, 1147, 1148, 1149, 1150, 1151, 1152, 1153, 1195, 1196, 1197, 1198, 1199, 1189, 1190, 1191, 1192, 1193, 1194, 1200, 1201, 1202] (by decide +kernel) (by decide +kernel)
set_option maxRecDepth 20000 in
theorem gL_law_X8_share : GoodIn wsL_law (wsV RL 23 RX8 yX8_share wsX8_share) := goodIn_app (goodIn_of _ (by decide +kernel)) ggL_law_X8_share
set_option maxRecDepth 20000 in
theorem ggL_law_X9_share : GoodIn wsL_law wsX9_share := goodIn_r _ [221, 109, 118, 183, 184, 5, 185, 186, 187, 188, 189, 190, 191, 192, 196, 197, 198, 199, 200, 115, 116, 117, 201, 202, 1154, 1155, 1156, 1157, 1158, 1159, 1160, 1161, 1162, 1163, 1164, 1165, 1166, 1167, 1168, 1169, 1170, 1171, 1172, 1173, 1174, 1175, 1176, 1177, 1178, 1179, 1180, 1181, 1182, 1183, 1184, 1185, 1186, 1187, 1188] (by decide +kernel) (by decide +kernel)
set_option maxRecDepth 20000 in
theorem gL_law_X9_share : GoodIn wsL_law (wsV RL 26 RX9 yX9_share wsX9_share) := goodIn_app (goodIn_of _ (by decide +kernel)) ggL_law_X9_share
set_option maxRecDepth 20000 in
theorem ggL_law_X8_group : GoodIn wsL_law wsX8_group := goodIn_r _ [225, 20, 215, 216, 2, 217, 139, 140, 141, 226, 227, 228, 229, 230, 231, 232, 233, 234, 235, 236, 237, 16, 238, 239, 240, 241, 242, 243, 244, 1141, 1142, 1143, 1144, 1145, 1146, 1147, 1148, 1149, 1150, 1151, 1152, 1153, 1195, 1196, 1197, 1198, 1199, 1189, 1190, 1191, 1192, 1193, 1194] (by decide +kernel) (by decide +kernel)
set_option maxRecDepth 20000 in
theorem gL_law_X8_group : GoodIn wsL_law (wsV RL 27 RX8 yX8_group wsX8_group) := goodIn_app (goodIn_of _ (by decide +kernel)) ggL_law_X8_group
set_option maxRecDepth 20000 in
theorem ggL_law_X9_group : GoodIn wsL_law wsX9_group := goodIn_r _ [248, 109, 183, 184, 5, 185, 249, 250, 251, 252, 253, 254, 255, 256, 257, 258, 259, 260, 201, 261, 262, 263, 264, 265, 266, 267, 268, 112, 110, 1154, 1155, 1156, 1157, 1158, 1159, 1160, 1161, 1162, 1163, 1164, 1165, 1166, 1167, 1168, 1169, 1170, 1171, 1172, 1173, 1174, 1175, 1176, 1177, 1178, 1179, 1180, 1181, 1182, 1183, 1184, 1185, 1186, 1187, 1188] (by decide +kernel) (by decide +kernel)
set_option maxRecDepth 20000 in
theorem gL_law_X9_group : GoodIn wsL_law (wsV RL 30 RX9 yX9_group wsX9_group) := goodIn_app (goodIn_of _ (by decide +kernel)) ggL_law_X9_group
set_option maxRecDepth 20000 in
theorem ggL_law_X8_feed : GoodIn wsL_law wsX8_feed := goodIn_r _ [272, 29, 139, 140, 2, 141, 273, 274, 275, 28, 276, 277, 278, 279, 280, 281, 79, 282, 1141, 1142, 1143, 1144, 1145, 1146, 1147, 1148, 1149, 1150, 1151, 1152, 1153, 1203, 1204, 1205, 1206] (by decide +kernel) (by decide +kernel)
set_option maxRecDepth 20000 in
theorem gL_law_X8_feed : GoodIn wsL_law (wsV RL 31 RX8 yX8_feed wsX8_feed) := goodIn_app (goodIn_of _ (by decide +kernel)) ggL_law_X8_feed

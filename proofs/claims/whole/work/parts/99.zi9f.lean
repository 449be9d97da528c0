/-! the laws calls, printed rows -/
set_option maxRecDepth 20000 in
theorem ggL_law_X8_lefts : GoodIn wsL_law wsX8_lefts := goodIn_r _ [1072, 41, 1007, 1008, 1009, 40, 1010, 1028, 1029, 1030, 1031, 99, 1016, 1032, 1033, 1034, 1035, 564, 565, 566, 2, 567, 20, 16, 568, 396, 397, 1036, 1037, 1038, 1039, 98, 1040, 1141, 1142, 1143, 1144, 1145, 1146, 1147, 1148, 1149, 1150, 1151, 1152, 1153, 1216, 1217, 1195, 1196, 1197, 1198, 1199, 1189, 1190, 1191, 1192, 1193, 1194] (by decide +kernel) (by decide +kernel)
set_option maxRecDepth 20000 in
theorem gL_law_X8_lefts : GoodIn wsL_law (wsV RL 130 RX8 yX8_lefts wsX8_lefts) := goodIn_app (goodIn_of _ (by decide +kernel)) ggL_law_X8_lefts
set_option maxRecDepth 20000 in
theorem ggL_law_X9_lefts : GoodIn wsL_law wsX9_lefts := goodIn_r _ [1076, 131, 130, 1021, 1022, 5, 1023, 183, 184, 185, 444, 445, 446, 447, 121, 109, 193, 194, 195, 257, 258, 259, 260, 201, 261, 262, 263, 264, 451, 452, 453, 454, 111, 110, 455, 456, 457, 458, 459, 460, 461, 1154, 1155, 1156, 1157, 1158, 1159, 1160, 1161, 1162, 1163, 1164, 1165, 1166, 1167, 1168, 1169, 1170, 1171, 1172, 1173, 1174, 1175, 1176, 1177, 1178, 1179, 1180, 1181, 1182, 1183, 1184, 1185, 1186, 1187, 1188] (by decide +kernel) (by decide +kernel)
set_option maxRecDepth 20000 in
theorem gL_law_X9_lefts : GoodIn wsL_law (wsV RL 133 RX9 yX9_lefts wsX9_lefts) := goodIn_app (goodIn_of _ (by decide +kernel)) ggL_law_X9_lefts
set_option maxRecDepth 20000 in
theorem ggL_law_X8_undo : GoodIn wsL_law wsX8_undo := goodIn_r _ [1080, 25, 1081, 1082, 1083, 24, 1084, 154, 1085, 165, 166, 167, 1086, 169, 170, 155, 73, 1087, 1088, 1089, 2, 1090, 16, 20, 1091, 1092, 1093, 1094, 149, 1095, 161, 162, 19, 163, 164, 168, 171, 60, 172, 173, 174, 175, 61, 62, 63, 1141, 1142, 1143, 1144, 1145, 1146, 1147, 1148, 1149, 1150, 1151, 1152, 1153, 1200, 1201, 1202, 1195, 1196, 1197, 1198, 1199, 1189, 1190, 1191, 1192, 1193, 1194] (by decide +kernel) (by decide +kernel)
set_option maxRecDepth 20000 in
theorem gL_law_X8_undo : GoodIn wsL_law (wsV RL 134 RX8 yX8_undo wsX8_undo) := goodIn_app (goodIn_of _ (by decide +kernel)) ggL_law_X8_undo
set_option maxRecDepth 20000 in
theorem ggL_law_X9_undo : GoodIn wsL_law wsX9_undo := goodIn_r _ [1099, 200, 115, 117, 1100, 1101, 1102, 5, 1103, 109, 1154, 1155, 1156, 1157, 1158, 1159, 1160, 1161, 1162, 1163, 1164, 1165, 1166, 1167, 1168, 1169, 1170, 1171, 1172, 1173, 1174, 1175, 1176, 1177, 1178, 1179, 1180, 1181, 1182, 1183, 1184, 1185, 1186, 1187, 1188] (by decide +kernel) (by decide +kernel)
set_option maxRecDepth 20000 in
theorem gL_law_X9_undo : GoodIn wsL_law (wsV RL 137 RX9 yX9_undo wsX9_undo) := goodIn_app (goodIn_of _ (by decide +kernel)) ggL_law_X9_undo
set_option maxRecDepth 20000 in
theorem ggL_law_X8_redo : GoodIn wsL_law wsX8_redo := goodIn_r _ [1107, 25, 1081, 1082, 1083, 24, 1084, 154, 1085, 165, 166, 167, 1086, 169, 170, 155, 73, 1087, 1088, 1089, 2, 1090, 16, 20, 1091, 1092, 1093, 1094, 149, 1095, 161, 162, 19, 163, 164, 168, 171, 60, 172, 173, 174, 175, 61, 62, 63, 1141, 1142, 1143, 1144, 1145, 1146, 1147, 1148, 1149, 1150, 1151, 1152, 1153, 1200, 1201, 1202, 1195, 1196, 1197, 1198, 1199, 1189, 1190, 1191, 1192, 1193, 1194] (by decide +kernel) (by decide +kernel)
set_option maxRecDepth 20000 in
theorem gL_law_X8_redo : GoodIn wsL_law (wsV RL 138 RX8 yX8_redo wsX8_redo) := goodIn_app (goodIn_of _ (by decide +kernel)) ggL_law_X8_redo
set_option maxRecDepth 20000 in
theorem ggL_law_X9_redo : GoodIn wsL_law wsX9_redo := goodIn_r _ [1111, 200, 202, 116, 117, 1100, 1101, 1102, 5, 1103, 109, 1154, 1155, 1156, 1157, 1158, 1159, 1160, 1161, 1162, 1163, 1164, 1165, 1166, 1167, 1168, 1169, 1170, 1171, 1172, 1173, 1174, 1175, 1176, 1177, 1178, 1179, 1180, 1181, 1182, 1183, 1184, 1185, 1186, 1187, 1188] (by decide +kernel) (by decide +kernel)
set_option maxRecDepth 20000 in
theorem gL_law_X9_redo : GoodIn wsL_law (wsV RL 141 RX9 yX9_redo wsX9_redo) := goodIn_app (goodIn_of _ (by decide +kernel)) ggL_law_X9_redo
set_option maxRecDepth 20000 in
theorem ggL_law_X8_image : GoodIn wsL_law wsX8_image := goodIn_r _ [1115, 21, 20, 16, 1116, 1095, 161, 162, 19, 163, 164, 165, 166, 167, 168, 169, 170, 171, 60, 172, 173, 174, 175, 61, 62, 63, 486, 487, 488, 2, 489, 234, 235, 236, 237, 238, 239, 240, 490, 491, 492, 493, 494, 495, 496, 1141, 1142, 1143, 1144, 1145, 1146, 1147, 1148, 1149, 1150, 1151, 1152, 1153, 1189, 1190, 1191, 1192, 1193, 1194, 1195, 1196, 1197, 1198, 1199] (by decide +kernel) (by decide +kernel)
set_option maxRecDepth 20000 in
theorem gL_law_X8_image : GoodIn wsL_law (wsV RL 142 RX8 yX8_image wsX8_image) := goodIn_app (goodIn_of _ (by decide +kernel)) ggL_law_X8_image
set_option maxRecDepth 20000 in
theorem ggL_law_X9_image : GoodIn wsL_law wsX9_image := goodIn_r _ [1120, 109, 119, 201, 120, 190, 191, 5, 192, 257, 258, 259, 260, 261, 262, 263, 264, 509, 510, 511, 1154, 1155, 1156, 1157, 1158, 1159, 1160, 1161, 1162, 1163, 1164, 1165, 1166, 1167, 1168, 1169, 1170, 1171, 1172, 1173, 1174, 1175, 1176, 1177, 1178, 1179, 1180, 1181, 1182, 1183, 1184, 1185, 1186, 1187, 1188] (by decide +kernel) (by decide +kernel)
set_option maxRecDepth 20000 in
theorem gL_law_X9_image : GoodIn wsL_law (wsV RL 145 RX9 yX9_image wsX9_image) := goodIn_app (goodIn_of _ (by decide +kernel)) ggL_law_X9_image
set_option maxRecDepth 20000 in
theorem ggL_law_X8_back : GoodIn wsL_law wsX8_back := goodIn_r _ [1124, 1116, 21, 25, 20, 16, 1091, 1092, 1093, 2, 1094, 149, 1095, 161, 162, 19, 163, 164, 165, 166, 167, 168, 169, 170, 171, 60, 172, 173, 174, 175, 61, 62, 63, 1125, 1126, 1127, 24, 1128, 154, 155, 73, 160, 486, 487, 488, 489, 234, 235, 236, 237, 238, 239, 240, 490, 491, 492, 493, 494, 495, 496, 1141, 1142, 1143, 1144, 1145, 1146, 1147, 1148, 1149, 1150, 1151, 1152, 1153, 1189, 1190, 1191, 1192, 1193, 1194, 1195, 1196, 1197, 1198, 1199, 1200, 1201, 1202] (by decide +kernel) (by decide +kernel)
set_option maxRecDepth 20000 in
theorem gL_law_X8_back : GoodIn wsL_law (wsV RL 146 RX8 yX8_back wsX8_back) := goodIn_app (goodIn_of _ (by decide +kernel)) ggL_law_X8_back
set_option maxRecDepth 20000 in
theorem ggL_law_X9_back : GoodIn wsL_law wsX9_back := goodIn_r _ [1132, 120, 119, 201, 109, 202, 200, 1100, 1101, 1102, 5, 1103, 257, 258, 259, 260, 261, 262, 263, 264, 509, 510, 511, 1154, 1155, 1156, 1157, 1158, 1159, 1160, 1161, 1162, 1163, 1164, 1165, 1166, 1167, 1168, 1169, 1170, 1171, 1172, 1173, 1174, 1175, 1176, 1177, 1178, 1179, 1180, 1181, 1182, 1183, 1184, 1185, 1186, 1187, 1188] (by decide +kernel) (by decide +kernel)
set_option maxRecDepth 20000 in
theorem gL_law_X9_back : GoodIn wsL_law (wsV RL 149 RX9 yX9_back wsX9_back) := goodIn_app (goodIn_of _ (by decide +kernel)) ggL_law_X9_back
set_option maxRecDepth 20000 in
theorem ggL_law_X8_count : GoodIn wsL_law wsX8_count := goodIn_r _ [1136, 16, 29, 25, 486, 487, 488, 2, 489, 234, 235, 236, 237, 20, 238, 239, 240, 490, 491, 492, 493, 494, 495, 496, 230, 231, 232, 233, 241, 242, 243, 244, 1141, 1142, 1143, 1144, 1145, 1146, 1147, 1148, 1149, 1150, 1151, 1152, 1153, 1189, 1190, 1191, 1192, 1193, 1194, 1203, 1204, 1205, 1206, 1200, 1201, 1202, 1195, 1196, 1197, 1198, 1199] (by decide +kernel) (by decide +kernel)
set_option maxRecDepth 20000 in
theorem gL_law_X8_count : GoodIn wsL_law (wsV RL 150 RX8 yX8_count wsX8_count) := goodIn_app (goodIn_of _ (by decide +kernel)) ggL_law_X8_count
set_option maxRecDepth 20000 in
theorem ggL_law_X9_count : GoodIn wsL_law wsX9_count := goodIn_r _ [1140, 201, 287, 200, 202, 257, 258, 259, 5, 260, 261, 262, 263, 264, 109, 509, 510, 511, 253, 254, 255, 256, 265, 266, 267, 268, 112, 110, 1154, 1155, 1156, 1157, 1158, 1159, 1160, 1161, 1162, 1163, 1164, 1165, 1166, 1167, 1168, 1169, 1170, 1171, 1172, 1173, 1174, 1175, 1176, 1177, 1178, 1179, 1180, 1181, 1182, 1183, 1184, 1185, 1186, 1187, 1188] (by decide +kernel) (by decide +kernel)
set_option maxRecDepth 20000 in
theorem gL_law_X9_count : GoodIn wsL_law (wsV RL 153 RX9 yX9_count wsX9_count) := goodIn_app (goodIn_of _ (by decide +kernel)) ggL_law_X9_count

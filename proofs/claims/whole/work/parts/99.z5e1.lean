/-! the laws calls, printed rows -/
set_option maxRecDepth 20000 in
theorem ggL_law_X8_init : GoodIn wsL_law wsX8_init := goodIn_r _ [9, 10, 11, 12, 13, 14, 15, 16, 17, 18, 19, 20, 21, 22, 23, 24, 25, 26, 27, 28, 29, 30, 31, 32, 33, 34, 35, 36, 37, 38, 39, 40, 41, 42, 43, 44, 45, 46, 47, 48, 49, 50, 51, 52, 53, 54, 55, 56, 57, 58, 59, 60, 61, 62, 63, 64, 65, 66, 67, 68, 69, 70, 71, 72, 73, 74, 75, 76, 77, 78, 79, 80, 81, 82, 83, 84, 85, 86, 87, 88, 89, 90, 91, 92, 93, 94, 95, 96, 97, 98, 99, 100, 101, 102, 103, 104, 1189, 1190, 1191, 1192, 1193, 1194, 1141, 1142, 1143, 1144, 1145, 1146, 1147, 1148, 1149, 1150, 1151, 1152, 1153, 1195, 1196, 1197, 1198, 1199, 1200, 1201, 1202, 1203, 1204, 1205, 1206, 1207, 1208, 1209, 1210, 1211, 1212, 1213, 1214, 1215, 1216, 1217, 1218, 1219] (by decide +kernel) (by decide +kernel)
set_option maxRecDepth 20000 in
theorem gL_law_X8_init : GoodIn wsL_law (wsX8_init) := ggL_law_X8_init
set_option maxRecDepth 20000 in
theorem ggL_law_X9_init : GoodIn wsL_law wsX9_init := goodIn_r _ [107, 108, 11, 12, 46, 109, 110, 111, 112, 113, 114, 115, 116, 117, 118, 119, 120, 121, 122, 123, 124, 125, 126, 127, 128, 129, 97, 130, 131, 1154, 1155, 1156, 1157, 1158, 1159, 1160, 1161, 1162, 1163, 1164, 1165, 1166, 1167, 1168, 1169, 1170, 1171, 1172, 1173, 1174, 1175, 1176, 1177, 1178, 1179, 1180, 1181, 1182, 1183, 1184, 1185, 1186, 1187, 1188] (by decide +kernel) (by decide +kernel)
set_option maxRecDepth 20000 in
theorem gL_law_X9_init : GoodIn wsL_law (wsX9_init) := ggL_law_X9_init
set_option maxRecDepth 20000 in
theorem ggL_law_X8_supply : GoodIn wsL_law wsX8_supply := goodIn_r _ [135, 20, 136, 137, 2, 138, 139, 140, 141, 142, 143, 144, 145, 146, 147, 148, 149, 25, 16, 150, 151, 152, 24, 153, 154, 155, 73, 156, 157, 158, 159, 160, 161, 162, 19, 163, 164, 165, 166, 167, 168, 169, 170, 171, 60, 172, 173, 174, 175, 61, 62, 63, 1141, 1142, 1143, 1144, 1145, 1146, 1147, 1148, 1149, 1150, 1151, 1152, 1153, 1195, 1196, 1197, 1198, 1199, 1189, 1190, 1191, 1192, 1193, 1194, 1200, 1201, 1202] (by decide +kernel) (by decide +kernel)
set_option maxRecDepth 20000 in
theorem gL_law_X8_supply : GoodIn wsL_law (wsV RL 13 RX8 yX8_supply wsX8_supply) := goodIn_app (goodIn_of _ (by decide +kernel)) ggL_law_X8_supply
set_option maxRecDepth 20000 in
theorem ggL_law_X9_supply : GoodIn wsL_law wsX9_supply := goodIn_r _ [179, 109, 118, 180, 181, 5, 182, 183, 184, 185, 186, 187, 188, 189, 190, 191, 192, 193, 194, 195, 196, 197, 198, 199, 200, 115, 116, 117, 201, 202, 1154, 1155, 1156, 1157, 1158, 1159, 1160, 1161, 1162, 1163, 1164, 1165, 1166, 1167, 1168, 1169, 1170, 1171, 1172, 1173, 1174, 1175, 1176, 1177, 1178, 1179, 1180, 1181, 1182, 1183, 1184, 1185, 1186, 1187, 1188] (by decide +kernel) (by decide +kernel)
set_option maxRecDepth 20000 in
theorem gL_law_X9_supply : GoodIn wsL_law (wsV RL 17 RX9 yX9_supply wsX9_supply) := goodIn_app (goodIn_of _ (by decide +kernel)) ggL_law_X9_supply
set_option maxRecDepth 20000 in
theorem ggL_law_X8_supplied : GoodIn wsL_law wsX8_supplied := goodIn_r _ [206, 20, 136, 137, 2, 138, 139, 140, 141, 142, 143, 144, 1141, 1142, 1143, 1144, 1145, 1146, 1147, 1148, 1149, 1150, 1151, 1152, 1153, 1195, 1196, 1197, 1198, 1199] (by decide +kernel) (by decide +kernel)
set_option maxRecDepth 20000 in
theorem gL_law_X8_supplied : GoodIn wsL_law (wsV RL 18 RX8 yX8_supplied wsX8_supplied) := goodIn_app (goodIn_of _ (by decide +kernel)) ggL_law_X8_supplied
set_option maxRecDepth 20000 in
theorem ggL_law_X9_supplied : GoodIn wsL_law wsX9_supplied := goodIn_r _ [210, 109, 180, 181, 5, 182, 183, 184, 185, 193, 194, 195, 1154, 1155, 1156, 1157, 1158, 1159, 1160, 1161, 1162, 1163, 1164, 1165, 1166, 1167, 1168, 1169, 1170, 1171, 1172, 1173, 1174, 1175, 1176, 1177, 1178, 1179, 1180, 1181, 1182, 1183, 1184, 1185, 1186, 1187, 1188] (by decide +kernel) (by decide +kernel)
set_option maxRecDepth 20000 in
theorem gL_law_X9_supplied : GoodIn wsL_law (wsV RL 22 RX9 yX9_supplied wsX9_supplied) := goodIn_app (goodIn_of _ (by decide +kernel)) ggL_law_X9_supplied
set_option maxRecDepth 20000 in
theorem ggL_law_X8_share : GoodIn wsL_law wsX8_share := goodIn_r _ [214, 20, 215, 216, 2, 217, 139, 140, 141, 145, 146, 147, 148, 149, 25, 16, 150, 151, 152, 24, 153, 154, 155, 73, 156, 157, 158, 159, 160, 161, 162, 19, 163, 164, 165, 166, 167, 168, 169, 170, 171, 60, 172, 173, 174, 175, 61, 62, 63, 1141, 1142, 1143, 1144, 1145, 1146, 1147, 1148, 1149, 1150, 1151, 1152, 1153, 1195, 1196, 1197, 1198, 1199, 1189, 1190, 1191, 1192, 1193, 1194, 1200, 1201, 1202] (by decide +kernel) (by decide +kernel)
set_option maxRecDepth 20000 in
theorem gL_law_X8_share : GoodIn wsL_law (wsV RL 23 RX8 yX8_share wsX8_share) := goodIn_app (goodIn_of _ (by decide +kernel)) ggL_law_X8_share
set_option maxRecDepth 20000 in
theorem ggL_law_X9_share : GoodIn wsL_law wsX9_share := goodIn_r _ [221, 109, 118, 183, 184, 5, 185, 186, 187, 188, 189, 190, 191, 192, 196, 197, 198, 199, 200, 115, 116, 117, 201, 202, 1154, 1155, 1156, 1157, 1158, 1159, 1160, 1161, 1162, 1163, 1164, 1165, 1166, 1167, 1168, 1169, 1170, 1171, 1172, 1173, 1174, 1175, 1176, 1177, 1178, 1179, 1180, 1181, 1182, 1183, 1184, 1185, 1186, 1187, 1188] (by decide +kernel) (by decide +kernel)
set_option maxRecDepth 20000 in
theorem gL_law_X9_share : GoodIn wsL_law (wsV RL 26 RX9 yX9_share wsX9_share) := goodIn_app (goodIn_of _ (by decide +kernel)) ggL_law_X9_share
set_option maxRecDepth 20000 in
theorem ggL_law_X8_group : GoodIn wsL_law wsX8_group := goodIn_r _ [225, 20, 215, 216, 2, 217, 139, 140, 141, 226, 227, 228, 229, 230, 231, 232, 233, 234, 235, 236, 237, 16, 238, 239, 240, 241, 242, 243, 244, 1141, 1142, 1143, 1144, 1145, 1146, 1147, 1148, 1149, 1150, 1151, 1152, 1153, 1195, 1196, 1197, 1198, 1199, 1189, 1190, 1191, 1192, 1193, 1194] (by decide +kernel) (by decide +kernel)
set_option maxRecDepth 20000 in
theorem gL_law_X8_group : GoodIn wsL_law (wsV RL 27 RX8 yX8_group wsX8_group) := goodIn_app (goodIn_of _ (by decide +kernel)) ggL_law_X8_group
set_option maxRecDepth 20000 in
theorem ggL_law_X9_group : GoodIn wsL_law wsX9_group := goodIn_r _ [248, 109, 183, 184, 5, 185, 249, 250, 251, 252, 253, 254, 255, 256, 257, 258, 259, 260, 201, 261, 262, 263, 264, 265, 266, 267, 268, 112, 110, 1154, 1155, 1156, 1157, 1158, 1159, 1160, 1161, 1162, 1163, 1164, 1165, 1166, 1167, 1168, 1169, 1170, 1171, 1172, 1173, 1174, 1175, 1176, 1177, 1178, 1179, 1180, 1181, 1182, 1183, 1184, 1185, 1186, 1187, 1188] (by decide +kernel) (by decide +kernel)
set_option maxRecDepth 20000 in
theorem gL_law_X9_group : GoodIn wsL_law (wsV RL 30 RX9 yX9_group wsX9_group) := goodIn_app (goodIn_of _ (by decide +kernel)) ggL_law_X9_group
set_option maxRecDepth 20000 in
theorem ggL_law_X8_feed : GoodIn wsL_law wsX8_feed := goodIn_r _ [272, 29, 139, 140, 2, 141, 273, 274, 275, 28, 276, 277, 278, 279, 280, 281, 79, 282, 1141, 1142, 1143, 1144, 1145, 1146, 1147, 1148, 1149, 1150, 1151, 1152, 1153, 1203, 1204, 1205, 1206] (by decide +kernel) (by decide +kernel)
set_option maxRecDepth 20000 in
theorem gL_law_X8_feed : GoodIn wsL_law (wsV RL 31 RX8 yX8_feed wsX8_feed) := goodIn_app (goodIn_of _ (by decide +kernel)) ggL_law_X8_feed
set_option maxRecDepth 20000 in
theorem ggL_law_X9_feed : GoodIn wsL_law wsX9_feed := goodIn_r _ [286, 287, 122, 183, 184, 5, 185, 1154, 1155, 1156, 1157, 1158, 1159, 1160, 1161, 1162, 1163, 1164, 1165, 1166, 1167, 1168, 1169, 1170, 1171, 1172, 1173, 1174, 1175, 1176, 1177, 1178, 1179, 1180, 1181, 1182, 1183, 1184, 1185, 1186, 1187, 1188] (by decide +kernel) (by decide +kernel)
set_option maxRecDepth 20000 in
theorem gL_law_X9_feed : GoodIn wsL_law (wsV RL 35 RX9 yX9_feed wsX9_feed) := goodIn_app (goodIn_of _ (by decide +kernel)) ggL_law_X9_feed
set_option maxRecDepth 20000 in
theorem ggL_law_X8_orders : GoodIn wsL_law wsX8_orders := goodIn_r _ [291, 16, 29, 20, 292, 293, 294, 28, 295, 296, 297, 277, 298, 299, 300, 301, 302, 303, 304, 305, 306, 307, 308, 309, 79, 310, 311, 312, 313, 314, 315, 316, 317, 318, 319, 320, 321, 322, 323, 324, 325, 326, 327, 328, 1141, 1142, 1143, 1144, 1145, 1146, 1147, 1148, 1149, 1150, 1151, 1152, 1153, 1189, 1190, 1191, 1192, 1193, 1194, 1195, 1196, 1197, 1198, 1199, 1203, 1204, 1205, 1206] (by decide +kernel) (by decide +kernel)
set_option maxRecDepth 20000 in
theorem gL_law_X8_orders : GoodIn wsL_law (wsV RL 36 RX8 yX8_orders wsX8_orders) := goodIn_app (goodIn_of _ (by decide +kernel)) ggL_law_X8_orders
set_option maxRecDepth 20000 in
theorem ggL_law_X9_orders : GoodIn wsL_law wsX9_orders := goodIn_r _ [332, 201, 287, 333, 334, 335, 336, 5, 337, 338, 339, 340, 341, 342, 343, 344, 345, 346, 123, 347, 348, 349, 350, 122, 351, 352, 353, 354, 183, 184, 185, 355, 356, 357, 358, 359, 360, 361, 362, 363, 364, 365, 366, 110, 111, 112, 113, 109, 1154, 1155, 1156, 1157, 1158, 1159, 1160, 1161, 1162, 1163, 1164, 1165, 1166, 1167, 1168, 1169, 1170, 1171, 1172, 1173, 1174, 1175, 1176, 1177, 1178, 1179, 1180, 1181, 1182, 1183, 1184, 1185, 1186, 1187, 1188] (by decide +kernel) (by decide +kernel)
set_option maxRecDepth 20000 in
theorem gL_law_X9_orders : GoodIn wsL_law (wsV RL 40 RX9 yX9_orders wsX9_orders) := goodIn_app (goodIn_of _ (by decide +kernel)) ggL_law_X9_orders
set_option maxRecDepth 20000 in
theorem ggL_law_X8_of : GoodIn wsL_law wsX8_of := goodIn_r _ [370, 16, 20, 371, 372, 373, 2, 374, 139, 140, 141, 375, 376, 377, 378, 379, 380, 381, 382, 149, 383, 33, 234, 235, 236, 237, 238, 239, 240, 384, 385, 386, 32, 387, 83, 84, 388, 389, 390, 391, 392, 65, 66, 67, 393, 394, 395, 396, 397, 398, 399, 400, 401, 402, 403, 404, 405, 406, 165, 166, 167, 407, 408, 409, 410, 1141, 1142, 1143, 1144, 1145, 1146, 1147, 1148, 1149, 1150, 1151, 1152, 1153, 1189, 1190, 1191, 1192, 1193, 1194, 1195, 1196, 1197, 1198, 1199, 1207, 1208] (by decide +kernel) (by decide +kernel)
set_option maxRecDepth 20000 in
theorem gL_law_X8_of : GoodIn wsL_law (wsV RL 41 RX8 yX8_of wsX8_of) := goodIn_app (goodIn_of _ (by decide +kernel)) ggL_law_X8_of
set_option maxRecDepth 20000 in
theorem ggL_law_X9_of : GoodIn wsL_law wsX9_of := goodIn_r _ [414, 110, 111, 109, 112, 113, 415, 416, 417, 5, 418, 201, 183, 184, 185, 419, 420, 421, 422, 423, 261, 262, 263, 264, 424, 425, 426, 427, 428, 129, 257, 258, 259, 260, 429, 430, 431, 432, 433, 434, 435, 436, 437, 438, 439, 440, 441, 442, 443, 444, 445, 446, 447, 121, 193, 194, 195, 448, 449, 450, 451, 452, 453, 454, 455, 456, 457, 458, 459, 460, 461, 1154, 1155, 1156, 1157, 1158, 1159, 1160, 1161, 1162, 1163, 1164, 1165, 1166, 1167, 1168, 1169, 1170, 1171, 1172, 1173, 1174, 1175, 1176, 1177, 1178, 1179, 1180, 1181, 1182, 1183, 1184, 1185, 1186, 1187, 1188] (by decide +kernel) (by decide +kernel)
set_option maxRecDepth 20000 in
theorem gL_law_X9_of : GoodIn wsL_law (wsV RL 44 RX9 yX9_of wsX9_of) := goodIn_app (goodIn_of _ (by decide +kernel)) ggL_law_X9_of
set_option maxRecDepth 20000 in
theorem ggL_law_X8_promise : GoodIn wsL_law wsX8_promise := goodIn_r _ [465, 20, 16, 371, 372, 373, 2, 374, 139, 140, 141, 234, 235, 236, 237, 238, 239, 240, 466, 467, 468, 469, 226, 227, 228, 229, 230, 231, 232, 233, 241, 242, 243, 244, 470, 471, 472, 473, 33, 384, 385, 386, 32, 387, 83, 84, 388, 389, 390, 391, 392, 65, 66, 67, 393, 394, 395, 396, 397, 398, 399, 400, 401, 474, 475, 476, 477, 478, 479, 480, 481, 482, 483, 484, 485, 145, 146, 147, 148, 149, 25, 150, 151, 152, 24, 153, 154, 155, 73, 156, 157, 158, 159, 160, 161, 162, 19, 163, 164, 165, 166, 167, 168, 169, 170, 171, 60, 172, 173, 174, 175, 61, 62, 63, 486, 487, 488, 489, 490, 491, 492, 493, 494, 495, 496, 1141, 1142, 1143, 1144, 1145, 1146, 1147, 1148, 1149, 1150, 1151, 1152, 1153, 1195, 1196, 1197, 1198, 1199, 1189, 1190, 1191, 1192, 1193, 1194, 1207, 1208, 1200, 1201, 1202] (by decide +kernel) (by decide +kernel)
set_option maxRecDepth 20000 in
theorem gL_law_X8_promise : GoodIn wsL_law (wsV RL 45 RX8 yX8_promise wsX8_promise) := goodIn_app (goodIn_of _ (by decide +kernel)) ggL_law_X8_promise
set_option maxRecDepth 20000 in
theorem ggL_law_X9_promise : GoodIn wsL_law wsX9_promise := goodIn_r _ [500, 415, 416, 417, 5, 418, 201, 183, 184, 185, 261, 262, 263, 264, 109, 257, 258, 259, 260, 501, 502, 503, 504, 112, 265, 266, 267, 268, 110, 249, 250, 251, 252, 253, 254, 255, 256, 433, 434, 435, 436, 437, 438, 439, 440, 441, 442, 443, 444, 445, 446, 447, 121, 193, 194, 195, 448, 449, 450, 451, 452, 453, 454, 111, 455, 456, 457, 458, 459, 460, 461, 505, 506, 507, 508, 186, 187, 188, 189, 118, 190, 191, 192, 196, 197, 198, 199, 200, 115, 116, 117, 202, 509, 510, 511, 1154, 1155, 1156, 1157, 1158, 1159, 1160, 1161, 1162, 1163, 1164, 1165, 1166, 1167, 1168, 1169, 1170, 1171, 1172, 1173, 1174, 1175, 1176, 1177, 1178, 1179, 1180, 1181, 1182, 1183, 1184, 1185, 1186, 1187, 1188] (by decide +kernel) (by decide +kernel)
set_option maxRecDepth 20000 in
theorem gL_law_X9_promise : GoodIn wsL_law (wsV RL 48 RX9 yX9_promise wsX9_promise) := goodIn_app (goodIn_of _ (by decide +kernel)) ggL_law_X9_promise
set_option maxRecDepth 20000 in
theorem ggL_law_X8_promiseAll : GoodIn wsL_law wsX8_promiseAll := goodIn_r _ [515, 16, 20, 33, 234, 235, 236, 2, 237, 238, 239, 240, 490, 491, 492, 493, 494, 495, 496, 470, 471, 472, 473, 384, 385, 386, 32, 387, 83, 84, 388, 389, 390, 391, 392, 65, 66, 67, 393, 394, 395, 396, 397, 398, 399, 400, 401, 474, 475, 476, 477, 478, 479, 480, 481, 516, 517, 518, 519, 402, 403, 404, 405, 406, 165, 166, 167, 466, 467, 468, 469, 226, 227, 228, 229, 230, 231, 232, 233, 241, 242, 243, 244, 407, 408, 409, 410, 145, 146, 147, 148, 149, 25, 150, 151, 152, 24, 153, 154, 155, 73, 156, 157, 158, 159, 160, 161, 162, 19, 163, 164, 168, 169, 170, 171, 60, 172, 173, 174, 175, 61, 62, 63, 1141, 1142, 1143, 1144, 1145, 1146, 1147, 1148, 1149, 1150, 1151, 1152, 1153, 1189, 1190, 1191, 1192, 1193, 1194, 1195, 1196, 1197, 1198, 1199, 1207, 1208, 1200, 1201, 1202] (by decide +kernel) (by decide +kernel)
set_option maxRecDepth 20000 in
theorem gL_law_X8_promiseAll : GoodIn wsL_law (wsV RL 49 RX8 yX8_promiseAll wsX8_promiseAll) := goodIn_app (goodIn_of _ (by decide +kernel)) ggL_law_X8_promiseAll
set_option maxRecDepth 20000 in
theorem ggL_law_X9_promiseAll : GoodIn wsL_law wsX9_promiseAll := goodIn_r _ [523, 109, 186, 187, 188, 5, 189, 118, 190, 191, 192, 257, 258, 259, 260, 201, 261, 262, 263, 264, 429, 430, 431, 432, 113, 501, 502, 503, 504, 112, 265, 266, 267, 268, 110, 249, 250, 251, 252, 253, 254, 255, 256, 433, 434, 435, 436, 437, 438, 439, 440, 441, 442, 443, 444, 445, 446, 447, 121, 193, 194, 195, 448, 449, 450, 451, 452, 453, 454, 111, 455, 456, 457, 458, 459, 460, 461, 196, 197, 198, 199, 200, 115, 116, 117, 202, 1154, 1155, 1156, 1157, 1158, 1159, 1160, 1161, 1162, 1163, 1164, 1165, 1166, 1167, 1168, 1169, 1170, 1171, 1172, 1173, 1174, 1175, 1176, 1177, 1178, 1179, 1180, 1181, 1182, 1183, 1184, 1185, 1186, 1187, 1188] (by decide +kernel) (by decide +kernel)
set_option maxRecDepth 20000 in
theorem gL_law_X9_promiseAll : GoodIn wsL_law (wsV RL 52 RX9 yX9_promiseAll wsX9_promiseAll) := goodIn_app (goodIn_of _ (by decide +kernel)) ggL_law_X9_promiseAll
set_option maxRecDepth 20000 in
theorem ggL_law_X8_giveUp : GoodIn wsL_law wsX8_giveUp := goodIn_r _ [527, 20, 371, 372, 373, 2, 374, 16, 139, 140, 141, 482, 483, 484, 485, 145, 146, 147, 148, 149, 25, 150, 151, 152, 24, 153, 154, 155, 73, 156, 157, 158, 159, 160, 161, 162, 19, 163, 164, 165, 166, 167, 168, 169, 170, 171, 60, 172, 173, 174, 175, 61, 62, 63, 486, 487, 488, 489, 234, 235, 236, 237, 238, 239, 240, 490, 491, 492, 493, 494, 495, 496, 1141, 1142, 1143, 1144, 1145, 1146, 1147, 1148, 1149, 1150, 1151, 1152, 1153, 1195, 1196, 1197, 1198, 1199, 1189, 1190, 1191, 1192, 1193, 1194, 1200, 1201, 1202] (by decide +kernel) (by decide +kernel)
set_option maxRecDepth 20000 in
theorem gL_law_X8_giveUp : GoodIn wsL_law (wsV RL 53 RX8 yX8_giveUp wsX8_giveUp) := goodIn_app (goodIn_of _ (by decide +kernel)) ggL_law_X8_giveUp
set_option maxRecDepth 20000 in
theorem ggL_law_X9_giveUp : GoodIn wsL_law wsX9_giveUp := goodIn_r _ [531, 415, 416, 417, 5, 418, 201, 183, 184, 185, 261, 262, 263, 264, 109, 505, 506, 507, 508, 186, 187, 188, 189, 118, 190, 191, 192, 196, 197, 198, 199, 200, 115, 116, 117, 202, 257, 258, 259, 260, 509, 510, 511, 1154, 1155, 1156, 1157, 1158, 1159, 1160, 1161, 1162, 1163, 1164, 1165, 1166, 1167, 1168, 1169, 1170, 1171, 1172, 1173, 1174, 1175, 1176, 1177, 1178, 1179, 1180, 1181, 1182, 1183, 1184, 1185, 1186, 1187, 1188] (by decide +kernel) (by decide +kernel)
set_option maxRecDepth 20000 in
theorem gL_law_X9_giveUp : GoodIn wsL_law (wsV RL 56 RX9 yX9_giveUp wsX9_giveUp) := goodIn_app (goodIn_of _ (by decide +kernel)) ggL_law_X9_giveUp
set_option maxRecDepth 20000 in
theorem ggL_law_X8_gone : GoodIn wsL_law wsX8_gone := goodIn_r _ [535, 20, 371, 372, 373, 2, 374, 16, 139, 140, 141, 482, 483, 484, 485, 145, 146, 147, 148, 149, 25, 150, 151, 152, 24, 153, 154, 155, 73, 156, 157, 158, 159, 160, 161, 162, 19, 163, 164, 165, 166, 167, 168, 169, 170, 171, 60, 172, 173, 174, 175, 61, 62, 63, 486, 487, 488, 489, 234, 235, 236, 237, 238, 239, 240, 490, 491, 492, 493, 494, 495, 496, 1141, 1142, 1143, 1144, 1145, 1146, 1147, 1148, 1149, 1150, 1151, 1152, 1153, 1195, 1196, 1197, 1198, 1199, 1189, 1190, 1191, 1192, 1193, 1194, 1200, 1201, 1202] (by decide +kernel) (by decide +kernel)
set_option maxRecDepth 20000 in
theorem gL_law_X8_gone : GoodIn wsL_law (wsV RL 57 RX8 yX8_gone wsX8_gone) := goodIn_app (goodIn_of _ (by decide +kernel)) ggL_law_X8_gone
set_option maxRecDepth 20000 in
theorem ggL_law_X9_gone : GoodIn wsL_law wsX9_gone := goodIn_r _ [539, 415, 416, 417, 5, 418, 201, 183, 184, 185, 261, 262, 263, 264, 109, 505, 506, 507, 508, 186, 187, 188, 189, 118, 190, 191, 192, 196, 197, 198, 199, 200, 115, 116, 117, 202, 257, 258, 259, 260, 509, 510, 511, 1154, 1155, 1156, 1157, 1158, 1159, 1160, 1161, 1162, 1163, 1164, 1165, 1166, 1167, 1168, 1169, 1170, 1171, 1172, 1173, 1174, 1175, 1176, 1177, 1178, 1179, 1180, 1181, 1182, 1183, 1184, 1185, 1186, 1187, 1188] (by decide +kernel) (by decide +kernel)
set_option maxRecDepth 20000 in
theorem gL_law_X9_gone : GoodIn wsL_law (wsV RL 60 RX9 yX9_gone wsX9_gone) := goodIn_app (goodIn_of _ (by decide +kernel)) ggL_law_X9_gone
set_option maxRecDepth 20000 in
theorem ggL_law_X8_move : GoodIn wsL_law wsX8_move := goodIn_r _ [543, 20, 371, 372, 373, 2, 374, 16, 139, 140, 141, 142, 143, 144, 234, 235, 236, 237, 238, 239, 240, 470, 471, 472, 473, 33, 384, 385, 386, 32, 387, 83, 84, 388, 389, 390, 391, 392, 65, 66, 67, 393, 394, 395, 396, 397, 398, 399, 400, 401, 474, 475, 476, 477, 478, 479, 480, 481, 145, 146, 147, 148, 149, 25, 150, 151, 152, 24, 153, 154, 155, 73, 156, 157, 158, 159, 160, 161, 162, 19, 163, 164, 165, 166, 167, 168, 169, 170, 171, 60, 172, 173, 174, 175, 61, 62, 63, 1141, 1142, 1143, 1144, 1145, 1146, 1147, 1148, 1149, 1150, 1151, 1152, 1153, 1195, 1196, 1197, 1198, 1199, 1189, 1190, 1191, 1192, 1193, 1194, 1207, 1208, 1200, 1201, 1202] (by decide +kernel) (by decide +kernel)
set_option maxRecDepth 20000 in
theorem gL_law_X8_move : GoodIn wsL_law (wsV RL 61 RX8 yX8_move wsX8_move) := goodIn_app (goodIn_of _ (by decide +kernel)) ggL_law_X8_move
set_option maxRecDepth 20000 in
theorem ggL_law_X9_move : GoodIn wsL_law wsX9_move := goodIn_r _ [547, 109, 118, 415, 416, 417, 5, 418, 201, 183, 184, 185, 261, 262, 263, 264, 186, 187, 188, 189, 190, 191, 192, 257, 258, 259, 260, 433, 434, 435, 436, 437, 438, 439, 440, 441, 442, 443, 444, 445, 446, 447, 121, 193, 194, 195, 448, 449, 450, 451, 452, 453, 454, 111, 110, 455, 456, 457, 458, 459, 460, 461, 196, 197, 198, 199, 200, 115, 116, 117, 202, 1154, 1155, 1156, 1157, 1158, 1159, 1160, 1161, 1162, 1163, 1164, 1165, 1166, 1167, 1168, 1169, 1170, 1171, 1172, 1173, 1174, 1175, 1176, 1177, 1178, 1179, 1180, 1181, 1182, 1183, 1184, 1185, 1186, 1187, 1188] (by decide +kernel) (by decide +kernel)
set_option maxRecDepth 20000 in
theorem gL_law_X9_move : GoodIn wsL_law (wsV RL 64 RX9 yX9_move wsX9_move) := goodIn_app (goodIn_of _ (by decide +kernel)) ggL_law_X9_move
set_option maxRecDepth 20000 in
theorem ggL_law_X8_swap : GoodIn wsL_law wsX8_swap := goodIn_r _ [551, 20, 371, 372, 373, 2, 374, 16, 139, 140, 141, 552, 553, 554, 555, 234, 235, 236, 237, 238, 239, 240, 470, 471, 472, 473, 33, 384, 385, 386, 32, 387, 83, 84, 388, 389, 390, 391, 392, 65, 66, 67, 393, 394, 395, 396, 397, 398, 399, 400, 401, 474, 475, 476, 477, 478, 479, 480, 481, 145, 146, 147, 148, 149, 25, 150, 151, 152, 24, 153, 154, 155, 73, 156, 157, 158, 159, 160, 161, 162, 19, 163, 164, 165, 166, 167, 168, 169, 170, 171, 60, 172, 173, 174, 175, 61, 62, 63, 1141, 1142, 1143, 1144, 1145, 1146, 1147, 1148, 1149, 1150, 1151, 1152, 1153, 1195, 1196, 1197, 1198, 1199, 1189, 1190, 1191, 1192, 1193, 1194, 1207, 1208, 1200, 1201, 1202] (by decide +kernel) (by decide +kernel)
set_option maxRecDepth 20000 in
theorem gL_law_X8_swap : GoodIn wsL_law (wsV RL 65 RX8 yX8_swap wsX8_swap) := goodIn_app (goodIn_of _ (by decide +kernel)) ggL_law_X8_swap
set_option maxRecDepth 20000 in
theorem ggL_law_X9_swap : GoodIn wsL_law wsX9_swap := goodIn_r _ [559, 109, 118, 415, 416, 417, 5, 418, 201, 183, 184, 185, 261, 262, 263, 264, 186, 187, 188, 189, 190, 191, 192, 257, 258, 259, 260, 433, 434, 435, 436, 437, 438, 439, 440, 441, 442, 443, 444, 445, 446, 447, 121, 193, 194, 195, 448, 449, 450, 451, 452, 453, 454, 111, 110, 455, 456, 457, 458, 459, 460, 461, 196, 197, 198, 199, 200, 115, 116, 117, 202, 1154, 1155, 1156, 1157, 1158, 1159, 1160, 1161, 1162, 1163, 1164, 1165, 1166, 1167, 1168, 1169, 1170, 1171, 1172, 1173, 1174, 1175, 1176, 1177, 1178, 1179, 1180, 1181, 1182, 1183, 1184, 1185, 1186, 1187, 1188] (by decide +kernel) (by decide +kernel)
set_option maxRecDepth 20000 in
theorem gL_law_X9_swap : GoodIn wsL_law (wsV RL 68 RX9 yX9_swap wsX9_swap) := goodIn_app (goodIn_of _ (by decide +kernel)) ggL_law_X9_swap
set_option maxRecDepth 20000 in
theorem ggL_law_X8_left : GoodIn wsL_law wsX8_left := goodIn_r _ [563, 564, 565, 566, 2, 567, 20, 16, 568, 396, 397, 1141, 1142, 1143, 1144, 1145, 1146, 1147, 1148, 1149, 1150, 1151, 1152, 1153, 1195, 1196, 1197, 1198, 1199, 1189, 1190, 1191, 1192, 1193, 1194] (by decide +kernel) (by decide +kernel)
set_option maxRecDepth 20000 in
theorem gL_law_X8_left : GoodIn wsL_law (wsV RL 69 RX8 yX8_left wsX8_left) := goodIn_app (goodIn_of _ (by decide +kernel)) ggL_law_X8_left
set_option maxRecDepth 20000 in
theorem ggL_law_X9_left : GoodIn wsL_law wsX9_left := goodIn_r _ [572, 455, 456, 5, 457, 444, 445, 446, 447, 121, 109, 193, 194, 195, 257, 258, 259, 260, 201, 261, 262, 263, 264, 451, 452, 453, 454, 111, 110, 458, 459, 460, 461, 1154, 1155, 1156, 1157, 1158, 1159, 1160, 1161, 1162, 1163, 1164, 1165, 1166, 1167, 1168, 1169, 1170, 1171, 1172, 1173, 1174, 1175, 1176, 1177, 1178, 1179, 1180, 1181, 1182, 1183, 1184, 1185, 1186, 1187, 1188] (by decide +kernel) (by decide +kernel)
set_option maxRecDepth 20000 in
theorem gL_law_X9_left : GoodIn wsL_law (wsV RL 72 RX9 yX9_left wsX9_left) := goodIn_app (goodIn_of _ (by decide +kernel)) ggL_law_X9_left
set_option maxRecDepth 20000 in
theorem ggL_law_X8_hinders : GoodIn wsL_law wsX8_hinders := goodIn_r _ [576, 20, 33, 16, 577, 371, 372, 373, 2, 374, 139, 140, 141, 234, 235, 236, 237, 238, 239, 240, 384, 385, 386, 32, 387, 83, 84, 388, 389, 390, 391, 392, 65, 66, 67, 393, 394, 395, 396, 397, 398, 399, 400, 401, 474, 475, 476, 477, 478, 479, 480, 481, 578, 579, 580, 1141, 1142, 1143, 1144, 1145, 1146, 1147, 1148, 1149, 1150, 1151, 1152, 1153, 1195, 1196, 1197, 1198, 1199, 1189, 1190, 1191, 1192, 1193, 1194, 1207, 1208] (by decide +kernel) (by decide +kernel)
set_option maxRecDepth 20000 in
theorem gL_law_X8_hinders : GoodIn wsL_law (wsV RL 73 RX8 yX8_hinders wsX8_hinders) := goodIn_app (goodIn_of _ (by decide +kernel)) ggL_law_X8_hinders
set_option maxRecDepth 20000 in
theorem ggL_law_X9_hinders : GoodIn wsL_law wsX9_hinders := goodIn_r _ [584, 437, 443, 585, 415, 416, 417, 5, 418, 201, 183, 184, 185, 261, 262, 263, 264, 109, 257, 258, 259, 260, 438, 439, 440, 441, 442, 444, 445, 446, 447, 121, 193, 194, 195, 448, 449, 450, 451, 452, 453, 454, 111, 110, 455, 456, 457, 458, 459, 460, 461, 1154, 1155, 1156, 1157, 1158, 1159, 1160, 1161, 1162, 1163, 1164, 1165, 1166, 1167, 1168, 1169, 1170, 1171, 1172, 1173, 1174, 1175, 1176, 1177, 1178, 1179, 1180, 1181, 1182, 1183, 1184, 1185, 1186, 1187, 1188] (by decide +kernel) (by decide +kernel)
set_option maxRecDepth 20000 in
theorem gL_law_X9_hinders : GoodIn wsL_law (wsV RL 76 RX9 yX9_hinders wsX9_hinders) := goodIn_app (goodIn_of _ (by decide +kernel)) ggL_law_X9_hinders
set_option maxRecDepth 20000 in
theorem ggL_law_X8_could : GoodIn wsL_law wsX8_could := goodIn_r _ [589, 20, 16, 371, 372, 373, 2, 374, 139, 140, 141, 234, 235, 236, 237, 238, 239, 240, 466, 467, 468, 469, 226, 227, 228, 229, 230, 231, 232, 233, 241, 242, 243, 244, 470, 471, 472, 473, 33, 384, 385, 386, 32, 387, 83, 84, 388, 389, 390, 391, 392, 65, 66, 67, 393, 394, 395, 396, 397, 398, 399, 400, 401, 474, 475, 476, 477, 478, 479, 480, 481, 590, 591, 592, 593, 402, 403, 404, 405, 406, 165, 166, 167, 594, 595, 596, 597, 598, 1141, 1142, 1143, 1144, 1145, 1146, 1147, 1148, 1149, 1150, 1151, 1152, 1153, 1195, 1196, 1197, 1198, 1199, 1189, 1190, 1191, 1192, 1193, 1194, 1207, 1208] (by decide +kernel) (by decide +kernel)
set_option maxRecDepth 20000 in
theorem gL_law_X8_could : GoodIn wsL_law (wsV RL 77 RX8 yX8_could wsX8_could) := goodIn_app (goodIn_of _ (by decide +kernel)) ggL_law_X8_could
set_option maxRecDepth 20000 in
theorem ggL_law_X9_could : GoodIn wsL_law wsX9_could := goodIn_r _ [602, 415, 416, 417, 5, 418, 201, 183, 184, 185, 261, 262, 263, 264, 109, 257, 258, 259, 260, 603, 604, 605, 606, 501, 502, 503, 504, 112, 265, 266, 267, 268, 110, 249, 250, 251, 252, 253, 254, 255, 256, 433, 434, 435, 436, 437, 438, 439, 440, 441, 442, 443, 444, 445, 446, 447, 121, 193, 194, 195, 448, 449, 450, 451, 452, 453, 454, 111, 455, 456, 457, 458, 459, 460, 461, 607, 608, 609, 610, 1154, 1155, 1156, 1157, 1158, 1159, 1160, 1161, 1162, 1163, 1164, 1165, 1166, 1167, 1168, 1169, 1170, 1171, 1172, 1173, 1174, 1175, 1176, 1177, 1178, 1179, 1180, 1181, 1182, 1183, 1184, 1185, 1186, 1187, 1188] (by decide +kernel) (by decide +kernel)
set_option maxRecDepth 20000 in
theorem gL_law_X9_could : GoodIn wsL_law (wsV RL 80 RX9 yX9_could wsX9_could) := goodIn_app (goodIn_of _ (by decide +kernel)) ggL_law_X9_could
set_option maxRecDepth 20000 in
theorem ggL_law_X8_spare : GoodIn wsL_law wsX8_spare := goodIn_r _ [614, 33, 615, 169, 166, 170, 139, 140, 2, 141, 142, 143, 144, 234, 235, 236, 237, 16, 20, 238, 239, 240, 470, 471, 472, 473, 384, 385, 386, 32, 387, 83, 84, 388, 389, 390, 391, 392, 65, 66, 67, 393, 394, 395, 396, 397, 398, 399, 400, 401, 474, 475, 476, 477, 478, 479, 480, 481, 402, 403, 404, 405, 406, 165, 167, 1141, 1142, 1143, 1144, 1145, 1146, 1147, 1148, 1149, 1150, 1151, 1152, 1153, 1189, 1190, 1191, 1192, 1193, 1194, 1195, 1196, 1197, 1198, 1199, 1207, 1208] (by decide +kernel) (by decide +kernel)
set_option maxRecDepth 20000 in
theorem gL_law_X8_spare : GoodIn wsL_law (wsV RL 81 RX8 yX8_spare wsX8_spare) := goodIn_app (goodIn_of _ (by decide +kernel)) ggL_law_X8_spare
set_option maxRecDepth 20000 in
theorem ggL_law_X9_spare : GoodIn wsL_law wsX9_spare := goodIn_r _ [619, 442, 620, 165, 166, 167, 183, 184, 5, 185, 257, 258, 259, 260, 201, 261, 262, 263, 264, 109, 433, 434, 435, 436, 437, 438, 439, 440, 441, 443, 444, 445, 446, 447, 121, 193, 194, 195, 448, 449, 450, 451, 452, 453, 454, 111, 110, 455, 456, 457, 458, 459, 460, 461, 1154, 1155, 1156, 1157, 1158, 1159, 1160, 1161, 1162, 1163, 1164, 1165, 1166, 1167, 1168, 1169, 1170, 1171, 1172, 1173, 1174, 1175, 1176, 1177, 1178, 1179, 1180, 1181, 1182, 1183, 1184, 1185, 1186, 1187, 1188] (by decide +kernel) (by decide +kernel)
set_option maxRecDepth 20000 in
theorem gL_law_X9_spare : GoodIn wsL_law (wsV RL 84 RX9 yX9_spare wsX9_spare) := goodIn_app (goodIn_of _ (by decide +kernel)) ggL_law_X9_spare
set_option maxRecDepth 20000 in
theorem ggL_law_X8_filled : GoodIn wsL_law wsX8_filled := goodIn_r _ [624, 47, 33, 16, 20, 37, 139, 140, 2, 141, 234, 235, 236, 237, 238, 239, 240, 490, 491, 492, 493, 494, 495, 496, 466, 467, 468, 469, 226, 227, 228, 229, 230, 231, 232, 233, 241, 242, 243, 244, 384, 385, 386, 32, 387, 83, 84, 388, 389, 390, 391, 392, 65, 66, 67, 393, 394, 395, 396, 397, 398, 399, 400, 401, 625, 626, 627, 36, 628, 629, 91, 88, 89, 630, 631, 632, 633, 634, 90, 635, 636, 165, 166, 167, 637, 638, 639, 640, 641, 642, 643, 644, 645, 92, 646, 647, 648, 649, 1141, 1142, 1143, 1144, 1145, 1146, 1147, 1148, 1149, 1150, 1151, 1152, 1153, 1209, 1210, 1211, 1212, 1213, 1214, 1215, 1189, 1190, 1191, 1192, 1193, 1194, 1195, 1196, 1197, 1198, 1199, 1207, 1208] (by decide +kernel) (by decide +kernel)
set_option maxRecDepth 20000 in
theorem gL_law_X8_filled : GoodIn wsL_law (wsV RL 85 RX8 yX8_filled wsX8_filled) := goodIn_app (goodIn_of _ (by decide +kernel)) ggL_law_X8_filled
set_option maxRecDepth 20000 in
theorem ggL_law_X9_filled : GoodIn wsL_law wsX9_filled := goodIn_r _ [653, 183, 184, 5, 185, 257, 258, 259, 260, 201, 261, 262, 263, 264, 109, 509, 510, 511, 654, 655, 656, 657, 265, 266, 267, 268, 112, 110, 658, 659, 660, 661, 249, 250, 251, 252, 253, 254, 255, 256, 433, 434, 435, 436, 437, 438, 439, 440, 441, 442, 443, 444, 445, 446, 447, 121, 193, 194, 195, 448, 449, 450, 451, 452, 453, 454, 111, 455, 456, 457, 458, 459, 460, 461, 1154, 1155, 1156, 1157, 1158, 1159, 1160, 1161, 1162, 1163, 1164, 1165, 1166, 1167, 1168, 1169, 1170, 1171, 1172, 1173, 1174, 1175, 1176, 1177, 1178, 1179, 1180, 1181, 1182, 1183, 1184, 1185, 1186, 1187, 1188] (by decide +kernel) (by decide +kernel)
set_option maxRecDepth 20000 in
theorem gL_law_X9_filled : GoodIn wsL_law (wsV RL 88 RX9 yX9_filled wsX9_filled) := goodIn_app (goodIn_of _ (by decide +kernel)) ggL_law_X9_filled
set_option maxRecDepth 20000 in
theorem ggL_law_X8_range : GoodIn wsL_law wsX8_range := goodIn_r _ [665, 20, 16, 33, 615, 169, 166, 170, 598, 165, 167, 371, 372, 373, 2, 374, 139, 140, 141, 136, 137, 138, 142, 143, 144, 234, 235, 236, 237, 238, 239, 240, 470, 471, 472, 473, 384, 385, 386, 32, 387, 83, 84, 388, 389, 390, 391, 392, 65, 66, 67, 393, 394, 395, 396, 397, 398, 399, 400, 401, 474, 475, 476, 477, 478, 479, 480, 481, 666, 667, 668, 669, 670, 671, 672, 673, 674, 675, 676, 677, 678, 679, 680, 681, 406, 1141, 1142, 1143, 1144, 1145, 1146, 1147, 1148, 1149, 1150, 1151, 1152, 1153, 1195, 1196, 1197, 1198, 1199, 1189, 1190, 1191, 1192, 1193, 1194, 1207, 1208] (by decide +kernel) (by decide +kernel)
set_option maxRecDepth 20000 in
theorem gL_law_X8_range : GoodIn wsL_law (wsV RL 89 RX8 yX8_range wsX8_range) := goodIn_app (goodIn_of _ (by decide +kernel)) ggL_law_X8_range
set_option maxRecDepth 20000 in
theorem ggL_law_X9_range : GoodIn wsL_law wsX9_range := goodIn_r _ [685, 415, 416, 417, 5, 418, 201, 183, 184, 185, 180, 181, 182, 261, 262, 263, 264, 109, 257, 258, 259, 260, 433, 434, 435, 436, 437, 438, 439, 440, 441, 442, 443, 444, 445, 446, 447, 121, 193, 194, 195, 448, 449, 450, 451, 452, 453, 454, 111, 110, 455, 456, 457, 458, 459, 460, 461, 686, 687, 688, 689, 620, 165, 166, 167, 690, 691, 692, 693, 694, 695, 696, 125, 124, 126, 697, 698, 699, 700, 127, 128, 701, 702, 703, 704, 705, 706, 707, 708, 1154, 1155, 1156, 1157, 1158, 1159, 1160, 1161, 1162, 1163, 1164, 1165, 1166, 1167, 1168, 1169, 1170, 1171, 1172, 1173, 1174, 1175, 1176, 1177, 1178, 1179, 1180, 1181, 1182, 1183, 1184, 1185, 1186, 1187, 1188] (by decide +kernel) (by decide +kernel)
set_option maxRecDepth 20000 in
theorem gL_law_X9_range : GoodIn wsL_law (wsV RL 93 RX9 yX9_range wsX9_range) := goodIn_app (goodIn_of _ (by decide +kernel)) ggL_law_X9_range
set_option maxRecDepth 20000 in
theorem ggL_law_X8_late : GoodIn wsL_law wsX8_late := goodIn_r _ [712, 234, 235, 236, 2, 237, 16, 20, 238, 239, 240, 379, 380, 381, 382, 149, 383, 33, 384, 385, 386, 32, 387, 83, 84, 388, 389, 390, 391, 392, 65, 66, 67, 393, 394, 395, 396, 397, 398, 399, 400, 401, 402, 403, 404, 405, 406, 165, 166, 167, 407, 408, 409, 410, 490, 491, 492, 493, 494, 495, 496, 1141, 1142, 1143, 1144, 1145, 1146, 1147, 1148, 1149, 1150, 1151, 1152, 1153, 1189, 1190, 1191, 1192, 1193, 1194, 1195, 1196, 1197, 1198, 1199, 1207, 1208] (by decide +kernel) (by decide +kernel)
set_option maxRecDepth 20000 in
theorem gL_law_X8_late : GoodIn wsL_law (wsV RL 94 RX8 yX8_late wsX8_late) := goodIn_app (goodIn_of _ (by decide +kernel)) ggL_law_X8_late
set_option maxRecDepth 20000 in
theorem ggL_law_X9_late : GoodIn wsL_law wsX9_late := goodIn_r _ [716, 428, 424, 425, 426, 5, 427, 423, 129, 257, 258, 259, 260, 201, 261, 262, 263, 264, 109, 429, 430, 431, 432, 113, 433, 434, 435, 436, 437, 438, 439, 440, 441, 442, 443, 444, 445, 446, 447, 121, 193, 194, 195, 448, 449, 450, 451, 452, 453, 454, 111, 110, 455, 456, 457, 458, 459, 460, 461, 509, 510, 511, 1154, 1155, 1156, 1157, 1158, 1159, 1160, 1161, 1162, 1163, 1164, 1165, 1166, 1167, 1168, 1169, 1170, 1171, 1172, 1173, 1174, 1175, 1176, 1177, 1178, 1179, 1180, 1181, 1182, 1183, 1184, 1185, 1186, 1187, 1188] (by decide +kernel) (by decide +kernel)
set_option maxRecDepth 20000 in
theorem gL_law_X9_late : GoodIn wsL_law (wsV RL 97 RX9 yX9_late wsX9_late) := goodIn_app (goodIn_of _ (by decide +kernel)) ggL_law_X9_late
set_option maxRecDepth 20000 in
theorem ggL_law_X8_kept : GoodIn wsL_law wsX8_kept := goodIn_r _ [720, 16, 379, 380, 381, 2, 382, 149, 383, 33, 20, 234, 235, 236, 237, 238, 239, 240, 384, 385, 386, 32, 387, 83, 84, 388, 389, 390, 391, 392, 65, 66, 67, 393, 394, 395, 396, 397, 398, 399, 400, 401, 402, 403, 404, 405, 406, 165, 166, 167, 407, 408, 409, 410, 490, 491, 492, 493, 494, 495, 496, 1141, 1142, 1143, 1144, 1145, 1146, 1147, 1148, 1149, 1150, 1151, 1152, 1153, 1189, 1190, 1191, 1192, 1193, 1194, 1195, 1196, 1197, 1198, 1199, 1207, 1208] (by decide +kernel) (by decide +kernel)
set_option maxRecDepth 20000 in
theorem gL_law_X8_kept : GoodIn wsL_law (wsV RL 98 RX8 yX8_kept wsX8_kept) := goodIn_app (goodIn_of _ (by decide +kernel)) ggL_law_X8_kept
set_option maxRecDepth 20000 in
theorem ggL_law_X9_kept : GoodIn wsL_law wsX9_kept := goodIn_r _ [724, 428, 129, 424, 425, 426, 5, 427, 423, 257, 258, 259, 260, 201, 261, 262, 263, 264, 109, 429, 430, 431, 432, 113, 433, 434, 435, 436, 437, 438, 439, 440, 441, 442, 443, 444, 445, 446, 447, 121, 193, 194, 195, 448, 449, 450, 451, 452, 453, 454, 111, 110, 455, 456, 457, 458, 459, 460, 461, 1154, 1155, 1156, 1157, 1158, 1159, 1160, 1161, 1162, 1163, 1164, 1165, 1166, 1167, 1168, 1169, 1170, 1171, 1172, 1173, 1174, 1175, 1176, 1177, 1178, 1179, 1180, 1181, 1182, 1183, 1184, 1185, 1186, 1187, 1188] (by decide +kernel) (by decide +kernel)
set_option maxRecDepth 20000 in
theorem gL_law_X9_kept : GoodIn wsL_law (wsV RL 101 RX9 yX9_kept wsX9_kept) := goodIn_app (goodIn_of _ (by decide +kernel)) ggL_law_X9_kept
set_option maxRecDepth 20000 in
theorem ggL_law_X8_why : GoodIn wsL_law wsX8_why := goodIn_r _ [728, 16, 33, 20, 371, 372, 373, 2, 374, 139, 140, 141, 375, 376, 377, 378, 379, 380, 381, 382, 149, 383, 234, 235, 236, 237, 238, 239, 240, 384, 385, 386, 32, 387, 83, 84, 388, 389, 390, 391, 392, 65, 66, 67, 393, 394, 395, 396, 397, 398, 399, 400, 401, 402, 403, 404, 405, 406, 165, 166, 167, 407, 408, 409, 410, 729, 730, 731, 732, 474, 475, 476, 477, 578, 579, 580, 1141, 1142, 1143, 1144, 1145, 1146, 1147, 1148, 1149, 1150, 1151, 1152, 1153, 1189, 1190, 1191, 1192, 1193, 1194, 1195, 1196, 1197, 1198, 1199, 1207, 1208] (by decide +kernel) (by decide +kernel)
set_option maxRecDepth 20000 in
theorem gL_law_X8_why : GoodIn wsL_law (wsV RL 102 RX8 yX8_why wsX8_why) := goodIn_app (goodIn_of _ (by decide +kernel)) ggL_law_X8_why
set_option maxRecDepth 20000 in
theorem ggL_law_X9_why : GoodIn wsL_law wsX9_why := goodIn_r _ [736, 443, 415, 416, 417, 5, 418, 201, 183, 184, 185, 419, 420, 421, 422, 423, 261, 262, 263, 264, 109, 424, 425, 426, 427, 428, 129, 257, 258, 259, 260, 429, 430, 431, 432, 113, 433, 434, 435, 436, 437, 438, 439, 440, 441, 442, 444, 445, 446, 447, 121, 193, 194, 195, 448, 449, 450, 451, 452, 453, 454, 111, 110, 455, 456, 457, 458, 459, 460, 461, 1154, 1155, 1156, 1157, 1158, 1159, 1160, 1161, 1162, 1163, 1164, 1165, 1166, 1167, 1168, 1169, 1170, 1171, 1172, 1173, 1174, 1175, 1176, 1177, 1178, 1179, 1180, 1181, 1182, 1183, 1184, 1185, 1186, 1187, 1188] (by decide +kernel) (by decide +kernel)
set_option maxRecDepth 20000 in
theorem gL_law_X9_why : GoodIn wsL_law (wsV RL 105 RX9 yX9_why wsX9_why) := goodIn_app (goodIn_of _ (by decide +kernel)) ggL_law_X9_why
set_option maxRecDepth 20000 in
theorem ggL_law_X8_ledger : GoodIn wsL_law wsX8_ledger := goodIn_r _ [740, 45, 371, 372, 373, 2, 374, 16, 139, 140, 141, 375, 376, 377, 378, 20, 379, 380, 381, 382, 149, 383, 33, 234, 235, 236, 237, 238, 239, 240, 384, 385, 386, 32, 387, 83, 84, 388, 389, 390, 391, 392, 65, 66, 67, 393, 394, 395, 396, 397, 398, 399, 400, 401, 402, 403, 404, 405, 406, 165, 166, 167, 407, 408, 409, 410, 741, 742, 743, 744, 745, 746, 747, 44, 748, 749, 750, 751, 752, 753, 754, 755, 756, 757, 104, 758, 759, 760, 761, 762, 763, 764, 765, 766, 767, 768, 769, 770, 771, 772, 773, 774, 775, 776, 777, 778, 779, 780, 781, 782, 783, 784, 785, 786, 787, 788, 789, 790, 791, 792, 793, 794, 795, 796, 797, 798, 799, 800, 801, 802, 803, 804, 805, 806, 807, 808, 809, 810, 811, 812, 813, 814, 815, 1141, 1142, 1143, 1144, 1145, 1146, 1147, 1148, 1149, 1150, 1151, 1152, 1153, 1218, 1219, 1189, 1190, 1191, 1192, 1193, 1194, 1195, 1196, 1197, 1198, 1199, 1207, 1208] (by decide +kernel) (by decide +kernel)
set_option maxRecDepth 20000 in
theorem gL_law_X8_ledger : GoodIn wsL_law (wsV RL 106 RX8 yX8_ledger wsX8_ledger) := goodIn_app (goodIn_of _ (by decide +kernel)) ggL_law_X8_ledger
set_option maxRecDepth 20000 in
theorem ggL_law_X9_ledger : GoodIn wsL_law wsX9_ledger := goodIn_r _ [819, 820, 821, 822, 110, 111, 109, 112, 113, 415, 416, 417, 5, 418, 201, 183, 184, 185, 823, 824, 825, 826, 827, 828, 829, 830, 11, 12, 831, 832, 833, 834, 835, 836, 797, 837, 838, 839, 840, 841, 842, 843, 844, 845, 846, 847, 848, 849, 850, 851, 852, 853, 492, 854, 855, 856, 857, 858, 859, 860, 861, 862, 863, 864, 865, 866, 867, 868, 869, 870, 169, 166, 170, 871, 872, 873, 874, 875, 876, 66, 877, 878, 879, 880, 881, 882, 883, 884, 165, 167, 885, 173, 174, 175, 886, 887, 888, 889, 890, 891, 892, 893, 894, 895, 896, 897, 898, 809, 899, 900, 901, 802, 803, 804, 902, 903, 766, 904, 790, 905, 906, 793, 907, 908, 909, 910, 911, 912, 913, 914, 915, 810, 811, 916, 917, 918, 919, 920, 921, 922, 923, 924, 925, 785, 926, 927, 928, 929, 930, 931, 932, 933, 934, 935, 936, 937, 938, 939, 940, 941, 942, 943, 944, 945, 946, 947, 948, 949, 799, 800, 801, 805, 788, 789, 791, 792, 794, 261, 262, 263, 264, 419, 420, 421, 422, 423, 424, 425, 426, 427, 428, 129, 257, 258, 259, 260, 429, 430, 431, 432, 433, 434, 435, 436, 437, 438, 439, 440, 441, 442, 443, 444, 445, 446, 447, 121, 193, 194, 195, 448, 449, 450, 451, 452, 453, 454, 455, 456, 457, 458, 459, 460, 461, 950, 951, 952, 953, 954, 955, 956, 957, 958, 959, 960, 961, 962, 963, 964, 965, 966, 764, 765, 767, 768, 769, 770, 771, 772, 773, 774, 967, 968, 969, 970, 971, 972, 973, 974, 975, 976, 977, 978, 979, 980, 981, 982, 983, 984, 985, 986, 987, 988, 989, 990, 991, 992, 993, 994, 995, 996, 997, 998, 999, 1000, 1001, 1002, 807, 808, 1220, 1221, 1222, 1223, 1154, 1155, 1156, 1157, 1158, 1159, 1160, 1161, 1162, 1163, 1164, 1165, 1166, 1167, 1168, 1169, 1170, 1171, 1172, 1173, 1174, 1175, 1176, 1177, 1178, 1179, 1180, 1181, 1182, 1183, 1184, 1185, 1186, 1187, 1188] (by decide +kernel) (by decide +kernel)
set_option maxRecDepth 20000 in
theorem gL_law_X9_ledger : GoodIn wsL_law (wsV RL 109 RX9 yX9_ledger wsX9_ledger) := goodIn_app (goodIn_of _ (by decide +kernel)) ggL_law_X9_ledger
set_option maxRecDepth 20000 in
theorem ggL_law_X8_row : GoodIn wsL_law wsX8_row := goodIn_r _ [1006, 41, 1007, 1008, 1009, 40, 1010, 1011, 1012, 1013, 1014, 99, 1015, 165, 166, 167, 98, 1016, 1141, 1142, 1143, 1144, 1145, 1146, 1147, 1148, 1149, 1150, 1151, 1152, 1153, 1216, 1217] (by decide +kernel) (by decide +kernel)
set_option maxRecDepth 20000 in
theorem gL_law_X8_row : GoodIn wsL_law (wsV RL 110 RX8 yX8_row wsX8_row) := goodIn_app (goodIn_of _ (by decide +kernel)) ggL_law_X8_row
set_option maxRecDepth 20000 in
theorem ggL_law_X9_row : GoodIn wsL_law wsX9_row := goodIn_r _ [1020, 131, 130, 1021, 1022, 5, 1023, 183, 184, 185, 1154, 1155, 1156, 1157, 1158, 1159, 1160, 1161, 1162, 1163, 1164, 1165, 1166, 1167, 1168, 1169, 1170, 1171, 1172, 1173, 1174, 1175, 1176, 1177, 1178, 1179, 1180, 1181, 1182, 1183, 1184, 1185, 1186, 1187, 1188] (by decide +kernel) (by decide +kernel)
set_option maxRecDepth 20000 in
theorem gL_law_X9_row : GoodIn wsL_law (wsV RL 113 RX9 yX9_row wsX9_row) := goodIn_app (goodIn_of _ (by decide +kernel)) ggL_law_X9_row
set_option maxRecDepth 20000 in
theorem ggL_law_X8_put : GoodIn wsL_law wsX8_put := goodIn_r _ [1027, 41, 1007, 1008, 1009, 40, 1010, 1028, 1029, 1030, 1031, 99, 1016, 1032, 1033, 1034, 1035, 1036, 1037, 1038, 1039, 98, 1040, 1141, 1142, 1143, 1144, 1145, 1146, 1147, 1148, 1149, 1150, 1151, 1152, 1153, 1216, 1217] (by decide +kernel) (by decide +kernel)
set_option maxRecDepth 20000 in
theorem gL_law_X8_put : GoodIn wsL_law (wsV RL 116 RX8 yX8_put wsX8_put) := goodIn_app (goodIn_of _ (by decide +kernel)) ggL_law_X8_put
set_option maxRecDepth 20000 in
theorem ggL_law_X9_put : GoodIn wsL_law wsX9_put := goodIn_r _ [1044, 131, 130, 1021, 1022, 5, 1023, 183, 184, 185, 1154, 1155, 1156, 1157, 1158, 1159, 1160, 1161, 1162, 1163, 1164, 1165, 1166, 1167, 1168, 1169, 1170, 1171, 1172, 1173, 1174, 1175, 1176, 1177, 1178, 1179, 1180, 1181, 1182, 1183, 1184, 1185, 1186, 1187, 1188] (by decide +kernel) (by decide +kernel)
set_option maxRecDepth 20000 in
theorem gL_law_X9_put : GoodIn wsL_law (wsV RL 120 RX9 yX9_put wsX9_put) := goodIn_app (goodIn_of _ (by decide +kernel)) ggL_law_X9_put
set_option maxRecDepth 20000 in
theorem ggL_law_X8_get : GoodIn wsL_law wsX8_get := goodIn_r _ [1048, 41, 1049, 1032, 1033, 1034, 40, 1035, 99, 1016, 1008, 1009, 1010, 1050, 1051, 1052, 1053, 98, 1040, 1141, 1142, 1143, 1144, 1145, 1146, 1147, 1148, 1149, 1150, 1151, 1152, 1153, 1216, 1217] (by decide +kernel) (by decide +kernel)
set_option maxRecDepth 20000 in
theorem gL_law_X8_get : GoodIn wsL_law (wsV RL 121 RX8 yX8_get wsX8_get) := goodIn_app (goodIn_of _ (by decide +kernel)) ggL_law_X8_get
set_option maxRecDepth 20000 in
theorem ggL_law_X9_get : GoodIn wsL_law wsX9_get := goodIn_r _ [1057, 131, 130, 1058, 1021, 1022, 5, 1023, 183, 184, 185, 1154, 1155, 1156, 1157, 1158, 1159, 1160, 1161, 1162, 1163, 1164, 1165, 1166, 1167, 1168, 1169, 1170, 1171, 1172, 1173, 1174, 1175, 1176, 1177, 1178, 1179, 1180, 1181, 1182, 1183, 1184, 1185, 1186, 1187, 1188] (by decide +kernel) (by decide +kernel)
set_option maxRecDepth 20000 in
theorem gL_law_X9_get : GoodIn wsL_law (wsV RL 125 RX9 yX9_get wsX9_get) := goodIn_app (goodIn_of _ (by decide +kernel)) ggL_law_X9_get
set_option maxRecDepth 20000 in
theorem ggL_law_X8_from : GoodIn wsL_law wsX8_from := goodIn_r _ [1062, 41, 1063, 20, 1007, 1008, 1009, 40, 1010, 136, 137, 2, 138, 139, 140, 141, 142, 143, 144, 1028, 1029, 1030, 1031, 99, 1016, 1032, 1033, 1034, 1035, 1050, 1051, 1052, 1053, 98, 1040, 145, 146, 147, 148, 149, 25, 16, 150, 151, 152, 24, 153, 154, 155, 73, 156, 157, 158, 159, 160, 161, 162, 19, 163, 164, 165, 166, 167, 168, 169, 170, 171, 60, 172, 173, 174, 175, 61, 62, 63, 1141, 1142, 1143, 1144, 1145, 1146, 1147, 1148, 1149, 1150, 1151, 1152, 1153, 1195, 1196, 1197, 1198, 1199, 1216, 1217, 1189, 1190, 1191, 1192, 1193, 1194, 1200, 1201, 1202] (by decide +kernel) (by decide +kernel)
set_option maxRecDepth 20000 in
theorem gL_law_X8_from : GoodIn wsL_law (wsV RL 126 RX8 yX8_from wsX8_from) := goodIn_app (goodIn_of _ (by decide +kernel)) ggL_law_X8_from
set_option maxRecDepth 20000 in
theorem ggL_law_X9_from : GoodIn wsL_law wsX9_from := goodIn_r _ [1067, 131, 130, 1068, 109, 1021, 1022, 5, 1023, 183, 184, 185, 180, 181, 182, 186, 187, 188, 189, 118, 190, 191, 192, 193, 194, 195, 196, 197, 198, 199, 200, 115, 116, 117, 201, 202, 1154, 1155, 1156, 1157, 1158, 1159, 1160, 1161, 1162, 1163, 1164, 1165, 1166, 1167, 1168, 1169, 1170, 1171, 1172, 1173, 1174, 1175, 1176, 1177, 1178, 1179, 1180, 1181, 1182, 1183, 1184, 1185, 1186, 1187, 1188] (by decide +kernel) (by decide +kernel)
set_option maxRecDepth 20000 in
theorem gL_law_X9_from : GoodIn wsL_law (wsV RL 129 RX9 yX9_from wsX9_from) := goodIn_app (goodIn_of _ (by decide +kernel)) ggL_law_X9_from
set_option maxRecDepth 20000 in
theorem ggL_law_X8_lefts : GoodIn wsL_law wsX8_lefts := goodIn_r _ [1072, 41, 1007, 1008, 1009, 40, 1010, 1028, 1029, 1030, 1031, 99, 1016, 1032, 1033, 1034, 1035, 564, 565, 566, 2, 567, 20, 16, 568, 396, 397, 1036, 1037, 1038, 1039, 98, 1040, 1141, 1142, 1143, 1144, 1145, 1146, 1147, 1148, 1149, 1150, 1151, 1152, 1153, 1216, 1217, 1195, 1196, 1197, 1198, 1199, 1189, 1190, 1191, 1192, 1193, 1194] (by decide +kernel) (by decide +kernel)
set_option maxRecDepth 20000 in
theorem gL_law_X8_lefts : GoodIn wsL_law (wsV RL 130 RX8 yX8_lefts wsX8_lefts) := goodIn_app (goodIn_of _ (by decide +kernel)) ggL_law_X8_lefts
set_option maxRecDepth 20000 in
theorem ggL_law_X9_lefts : GoodIn wsL_law wsX9_lefts := goodIn_r _ [1076, 131, 130, 1021, 1022, 5, 1023, 183, 184, 185, 444, 445, 446, 447, 121, 109, 193, 194, 195, 257, 258, 259, 260, 201, 261, 262, 263, 264, 451, 452, 453, 454, 111, 110, 455, 456, 457, 458, 459, 460, 461, 1154, 1155, 1156, 1157, 1158, 1159, 1160, 1161, 1162, 1163, 1164, 1165, 1166, 1167, 1168, 1169, 1170, 1171, 1172, 1173, 1174, 1175, 1176, 1177, 1178, 1179, 1180, 1181, 1182, 1183, 1184, 1185, 1186, 1187, 1188] (by decide +kernel) (by decide +kernel)
set_option maxRecDepth 20000 in
theorem gL_law_X9_lefts : GoodIn wsL_law (wsV RL 133 RX9 yX9_lefts wsX9_lefts) := goodIn_app (goodIn_of _ (by decide +kernel)) ggL_law_X9_lefts
set_option maxRecDepth 20000 in
theorem ggL_law_X8_undo : GoodIn wsL_law wsX8_undo := goodIn_r _ [1080, 25, 1081, 1082, 1083, 24, 1084, 154, 1085, 165, 166, 167, 1086, 169, 170, 155, 73, 1087, 1088, 1089, 2, 1090, 16, 20, 1091, 1092, 1093, 1094, 149, 1095, 161, 162, 19, 163, 164, 168, 171, 60, 172, 173, 174, 175, 61, 62, 63, 1141, 1142, 1143, 1144, 1145, 1146, 1147, 1148, 1149, 1150, 1151, 1152, 1153, 1200, 1201, 1202, 1195, 1196, 1197, 1198, 1199, 1189, 1190, 1191, 1192, 1193, 1194] (by decide +kernel) (by decide +kernel)
set_option maxRecDepth 20000 in
theorem gL_law_X8_undo : GoodIn wsL_law (wsV RL 134 RX8 yX8_undo wsX8_undo) := goodIn_app (goodIn_of _ (by decide +kernel)) ggL_law_X8_undo
set_option maxRecDepth 20000 in
theorem ggL_law_X9_undo : GoodIn wsL_law wsX9_undo := goodIn_r _ [1099, 200, 115, 117, 1100, 1101, 1102, 5, 1103, 109, 1154, 1155, 1156, 1157, 1158, 1159, 1160, 1161, 1162, 1163, 1164, 1165, 1166, 1167, 1168, 1169, 1170, 1171, 1172, 1173, 1174, 1175, 1176, 1177, 1178, 1179, 1180, 1181, 1182, 1183, 1184, 1185, 1186, 1187, 1188] (by decide +kernel) (by decide +kernel)
set_option maxRecDepth 20000 in
theorem gL_law_X9_undo : GoodIn wsL_law (wsV RL 137 RX9 yX9_undo wsX9_undo) := goodIn_app (goodIn_of _ (by decide +kernel)) ggL_law_X9_undo
set_option maxRecDepth 20000 in
theorem ggL_law_X8_redo : GoodIn wsL_law wsX8_redo := goodIn_r _ [1107, 25, 1081, 1082, 1083, 24, 1084, 154, 1085, 165, 166, 167, 1086, 169, 170, 155, 73, 1087, 1088, 1089, 2, 1090, 16, 20, 1091, 1092, 1093, 1094, 149, 1095, 161, 162, 19, 163, 164, 168, 171, 60, 172, 173, 174, 175, 61, 62, 63, 1141, 1142, 1143, 1144, 1145, 1146, 1147, 1148, 1149, 1150, 1151, 1152, 1153, 1200, 1201, 1202, 1195, 1196, 1197, 1198, 1199, 1189, 1190, 1191, 1192, 1193, 1194] (by decide +kernel) (by decide +kernel)
set_option maxRecDepth 20000 in
theorem gL_law_X8_redo : GoodIn wsL_law (wsV RL 138 RX8 yX8_redo wsX8_redo) := goodIn_app (goodIn_of _ (by decide +kernel)) ggL_law_X8_redo
set_option maxRecDepth 20000 in
theorem ggL_law_X9_redo : GoodIn wsL_law wsX9_redo := goodIn_r _ [1111, 200, 202, 116, 117, 1100, 1101, 1102, 5, 1103, 109, 1154, 1155, 1156, 1157, 1158, 1159, 1160, 1161, 1162, 1163, 1164, 1165, 1166, 1167, 1168, 1169, 1170, 1171, 1172, 1173, 1174, 1175, 1176, 1177, 1178, 1179, 1180, 1181, 1182, 1183, 1184, 1185, 1186, 1187, 1188] (by decide +kernel) (by decide +kernel)
set_option maxRecDepth 20000 in
theorem gL_law_X9_redo : GoodIn wsL_law (wsV RL 141 RX9 yX9_redo wsX9_redo) := goodIn_app (goodIn_of _ (by decide +kernel)) ggL_law_X9_redo
set_option maxRecDepth 20000 in
theorem ggL_law_X8_image : GoodIn wsL_law wsX8_image := goodIn_r _ [1115, 21, 20, 16, 1116, 1095, 161, 162, 19, 163, 164, 165, 166, 167, 168, 169, 170, 171, 60, 172, 173, 174, 175, 61, 62, 63, 486, 487, 488, 2, 489, 234, 235, 236, 237, 238, 239, 240, 490, 491, 492, 493, 494, 495, 496, 1141, 1142, 1143, 1144, 1145, 1146, 1147, 1148, 1149, 1150, 1151, 1152, 1153, 1189, 1190, 1191, 1192, 1193, 1194, 1195, 1196, 1197, 1198, 1199] (by decide +kernel) (by decide +kernel)
set_option maxRecDepth 20000 in
theorem gL_law_X8_image : GoodIn wsL_law (wsV RL 142 RX8 yX8_image wsX8_image) := goodIn_app (goodIn_of _ (by decide +kernel)) ggL_law_X8_image
set_option maxRecDepth 20000 in
theorem ggL_law_X9_image : GoodIn wsL_law wsX9_image := goodIn_r _ [1120, 109, 119, 201, 120, 190, 191, 5, 192, 257, 258, 259, 260, 261, 262, 263, 264, 509, 510, 511, 1154, 1155, 1156, 1157, 1158, 1159, 1160, 1161, 1162, 1163, 1164, 1165, 1166, 1167, 1168, 1169, 1170, 1171, 1172, 1173, 1174, 1175, 1176, 1177, 1178, 1179, 1180, 1181, 1182, 1183, 1184, 1185, 1186, 1187, 1188] (by decide +kernel) (by decide +kernel)
set_option maxRecDepth 20000 in
theorem gL_law_X9_image : GoodIn wsL_law (wsV RL 145 RX9 yX9_image wsX9_image) := goodIn_app (goodIn_of _ (by decide +kernel)) ggL_law_X9_image
set_option maxRecDepth 20000 in
theorem ggL_law_X8_back : GoodIn wsL_law wsX8_back := goodIn_r _ [1124, 1116, 21, 25, 20, 16, 1091, 1092, 1093, 2, 1094, 149, 1095, 161, 162, 19, 163, 164, 165, 166, 167, 168, 169, 170, 171, 60, 172, 173, 174, 175, 61, 62, 63, 1125, 1126, 1127, 24, 1128, 154, 155, 73, 160, 486, 487, 488, 489, 234, 235, 236, 237, 238, 239, 240, 490, 491, 492, 493, 494, 495, 496, 1141, 1142, 1143, 1144, 1145, 1146, 1147, 1148, 1149, 1150, 1151, 1152, 1153, 1189, 1190, 1191, 1192, 1193, 1194, 1195, 1196, 1197, 1198, 1199, 1200, 1201, 1202] (by decide +kernel) (by decide +kernel)
set_option maxRecDepth 20000 in
theorem gL_law_X8_back : GoodIn wsL_law (wsV RL 146 RX8 yX8_back wsX8_back) := goodIn_app (goodIn_of _ (by decide +kernel)) ggL_law_X8_back
set_option maxRecDepth 20000 in
theorem ggL_law_X9_back : GoodIn wsL_law wsX9_back := goodIn_r _ [1132, 120, 119, 201, 109, 202, 200, 1100, 1101, 1102, 5, 1103, 257, 258, 259, 260, 261, 262, 263, 264, 509, 510, 511, 1154, 1155, 1156, 1157, 1158, 1159, 1160, 1161, 1162, 1163, 1164, 1165, 1166, 1167, 1168, 1169, 1170, 1171, 1172, 1173, 1174, 1175, 1176, 1177, 1178, 1179, 1180, 1181, 1182, 1183, 1184, 1185, 1186, 1187, 1188] (by decide +kernel) (by decide +kernel)
set_option maxRecDepth 20000 in
theorem gL_law_X9_back : GoodIn wsL_law (wsV RL 149 RX9 yX9_back wsX9_back) := goodIn_app (goodIn_of _ (by decide +kernel)) ggL_law_X9_back
set_option maxRecDepth 20000 in
theorem ggL_law_X8_count : GoodIn wsL_law wsX8_count := goodIn_r _ [1136, 16, 29, 25, 486, 487, 488, 2, 489, 234, 235, 236, 237, 20, 238, 239, 240, 490, 491, 492, 493, 494, 495, 496, 230, 231, 232, 233, 241, 242, 243, 244, 1141, 1142, 1143, 1144, 1145, 1146, 1147, 1148, 1149, 1150, 1151, 1152, 1153, 1189, 1190, 1191, 1192, 1193, 1194, 1203, 1204, 1205, 1206, 1200, 1201, 1202, 1195, 1196, 1197, 1198, 1199] (by decide +kernel) (by decide +kernel)
set_option maxRecDepth 20000 in
theorem gL_law_X8_count : GoodIn wsL_law (wsV RL 150 RX8 yX8_count wsX8_count) := goodIn_app (goodIn_of _ (by decide +kernel)) ggL_law_X8_count
set_option maxRecDepth 20000 in
theorem ggL_law_X9_count : GoodIn wsL_law wsX9_count := goodIn_r _ [1140, 201, 287, 200, 202, 257, 258, 259, 5, 260, 261, 262, 263, 264, 109, 509, 510, 511, 253, 254, 255, 256, 265, 266, 267, 268, 112, 110, 1154, 1155, 1156, 1157, 1158, 1159, 1160, 1161, 1162, 1163, 1164, 1165, 1166, 1167, 1168, 1169, 1170, 1171, 1172, 1173, 1174, 1175, 1176, 1177, 1178, 1179, 1180, 1181, 1182, 1183, 1184, 1185, 1186, 1187, 1188] (by decide +kernel) (by decide +kernel)
set_option maxRecDepth 20000 in
theorem gL_law_X9_count : GoodIn wsL_law (wsV RL 153 RX9 yX9_count wsX9_count) := goodIn_app (goodIn_of _ (by decide +kernel)) ggL_law_X9_count

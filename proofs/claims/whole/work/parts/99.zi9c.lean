/-! the laws calls, printed rows -/
set_option maxRecDepth 20000 in
theorem ggL_law_X8_gone : GoodIn wsL_law wsX8_gone := goodIn_r _ [535, 20, 371, 372, 373, 2, 374, 16, 139, 140, 141, 482, 483, 484, 485, 145, 146, 147, 148, 149, 25, 150, 151, 152, 24, 153, 154, 155, 73, 156, 157, 158, 159, 160, 161, 162, 19, 163, 164, 165, 166, 167, 168, 169, 170, 171, 60, 172, 173, 174, 175, 61, 62, 63, 486, 487, 488, 489, 234, 235, 236, 237, 238, 239, 240, 490, 491, 492, 493, 494, 495, 496, 1141, 1142, 1143, 1144, 1145, 1146, 1147, 1148, 1149, 1150, 1151, 1152, 1153, 1195, 1196, 1197, 1198, 1199, 1189, 1190, 1191, 1192, 1193, 1194, 1200, 1201, 1202] (by decide +kernel) (by decide +kernel)
set_option maxRecDepth 20000 in
theorem gL_law_X8_gone : GoodIn wsL_law (wsV RL 57 RX8 yX8_gone wsX8_gone) := goodIn_app (goodIn_of _ (by decide +kernel)) ggL_law_X8_gone
set_option maxRecDepth 20000 in
theorem ggL_law_X9_gone : GoodIn wsL_law wsX9_gone := goodIn_r _ [539, 415, 416, 417, 5, 418, 201, 183, 184, 185, 261, 262, 263, 264, 109, 505, 506, 507, 508, 186, 187, 188, 189, 118, 190, 191, 192, 196, 197, 198, 199, 200, 115, 116, 117, 202, 257, 258, 259, 260, 509, 510, 511, 1154, 1155, 1156, 1157, 1158, 1159, 1160, 1161, 1162, 1163, 1164, 1165, 1166, 1167, 1168, 1169, 1170, 1171, 1172, 1173, 1174, 1175, 1176, 1177, 1178, 1179, 1180, 1181, 1182, 1183, 1184, 1185, 1186, 1187, 1188] (by decide +kernel) (by decide +kernel)
set_option maxRecDepth 20000 in
theorem gL_law_X9_gone : GoodIn wsL_law (wsV RL 60 RX9 yX9_gone wsX9_gone) := goodIn_app (goodIn_of _ (by decide +kernel)) ggL_law_X9_gone
set_option maxRecDepth 20000 in
theorem ggL_law_X8_move : GoodIn wsL_law wsX8_move := goodIn_r _ [543, 20, 371, 372, 373, 2, 374, 16, 139, 140, 141, 142, 143, 144, 234, 235, 236, 237, 238, 239, 240, 470, 471, 472, 473, 33, 384, 385, 386, 32, 387, 83, 84, 388, 389, 390, 391, 392, 65, 66, 67, 393, 394, 395, 396, 397, 398, 399, 400, 401, 474, 475, 476, 477, 478, 479, 480, 481, 145, 146, 147, 148, 149, 25, 150, 151, 152, 24, 153, 154, 155, 73, 156, 157, 158, 159, 160, 161, 162, 19, 163, 164, 165, 166, 167, 168, 169, 170, 171, 60, 172, 173, 174, 175, 61, 62, 63, 1141, 1142, 1143, 1144, 1145, 1146, 1147, 1148, 1149, 1150, 1151, 1152, 1153, 1195, 1196, 1197, 1198, 1199, 1189, 1190, 1191, 1192, 1193, 1194, 1207, 1208, 1200, 1201, 1202] (by decide +kernel) (by decide +kernel)
set_option maxRecDepth 20000 in
theorem gL_law_X8_move : GoodIn wsL_law (wsV RL 61 RX8 yX8_move wsX8_move) := goodIn_app (goodIn_of _ (by decide +kernel)) ggL_law_X8_move
set_option maxRecDepth 20000 in
theorem ggL_law_X9_move : GoodIn wsL_law wsX9_move := goodIn_r _ [547, 109, 118, 415, 416, 417, 5, 418, 201, 183, 184, 185, 261, 262, 263, 264, 186, 187, 188, 189, 190, 191, 192, 257, 258, 259, 260, 433, 434, 435, 436, 437, 438, 439, 440, 441, 442, 443, 444, 445, 446, 447, 121, 193, 194, 195, 448, 449, 450, 451, 452, 453, 454, 111, 110, 455, 456, 457, 458, 459, 460, 461, 196, 197, 198, 199, 200, 115, 116, 117, 202, 1154, 1155, 1156, 1157, 1158, 1159, 1160, 1161, 1162, 1163, 1164, 1165, 1166, 1167, 1168, 1169, 1170, 1171, 1172, 1173, 1174, 1175, 1176, 1177, 1178, 1179, 1180, 1181, 1182, 1183, 1184, 1185, 1186, 1187, 1188] (by decide +kernel) (by decide +kernel)
set_option maxRecDepth 20000 in
theorem gL_law_X9_move : GoodIn wsL_law (wsV RL 64 RX9 yX9_move wsX9_move) := goodIn_app (goodIn_of _ (by decide +kernel)) ggL_law_X9_move
set_option maxRecDepth 20000 in
theorem ggL_law_X8_swap : GoodIn wsL_law wsX8_swap := goodIn_r _ [551, 20, 371, 372, 373, 2, 374, 16, 139, 140, 141, 552, 553, 554, 555, 234, 235, 236, 237, 238, 239, 240, 470, 471, 472, 473, 33, 384, 385, 386, 32, 387, 83, 84, 388, 389, 390, 391, 392, 65, 66, 67, 393, 394, 395, 396, 397, 398, 399, 400, 401, 474, 475, 476, 477, 478, 479, 480, 481, 145, 146, 147, 148, 149, 25, 150, 151, 152, 24, 153, 154, 155, 73, 156, 157, 158, 159, 160, 161, 162, 19, 163, 164, 165, 166, 167, 168, 169, 170, 171, 60, 172, 173, 174, 175, 61, 62, 63, 1141, 1142, 1143, 1144, 1145, 1146, 1147, 1148, 1149, 1150, 1151, 1152, 1153, 1195, 1196, 1197, 1198, 1199, 1189, 1190, 1191, 1192, 1193, 1194, 1207, 1208, 1200, 1201, 1202] (by decide +kernel) (by decide +kernel)
set_option maxRecDepth 20000 in
theorem gL_law_X8_swap : GoodIn wsL_law (wsV RL 65 RX8 yX8_swap wsX8_swap) := goodIn_app (goodIn_of _ (by decide +kernel)) ggL_law_X8_swap
set_option maxRecDepth 20000 in
theorem ggL_law_X9_swap : GoodIn wsL_law wsX9_swap := goodIn_r _ [559, 109, 118, 415, 416, 417, 5, 418, 201, 183, 184, 185, 261, 262, 263, 264, 186, 187, 188, 189, 190, 191, 192, 257, 258, 259, 260, 433, 434, 435, 436, 437, 438, 439, 440, 441, 442, 443, 444, 445, 446, 447, 121, 193, 194, 195, 448, 449, 450, 451, 452, 453, 454, 111, 110, 455, 456, 457, 458, 459, 460, 461, 196, 197, 198, 199, 200, 115, 116, 117, 202, 1154, 1155, 1156, 1157, 1158, 1159, 1160, 1161, 1162, 1163, 1164, 1165, 1166, 1167, 1168, 1169, 1170, 1171, 1172, 1173, 1174, 1175, 1176, 1177, 1178, 1179, 1180, 1181, 1182, 1183, 1184, 1185, 1186, 1187, 1188] (by decide +kernel) (by decide +kernel)
set_option maxRecDepth 20000 in
theorem gL_law_X9_swap : GoodIn wsL_law (wsV RL 68 RX9 yX9_swap wsX9_swap) := goodIn_app (goodIn_of _ (by decide +kernel)) ggL_law_X9_swap
set_option maxRecDepth 20000 in
theorem ggL_law_X8_left : GoodIn wsL_law wsX8_left := goodIn_r _ [563, 564, 565, 566, 2, 567, 20, 16, 568, 396, 397, 1141, 1142, 1143, 1144, 1145, 1146, 1147, 1148, 1149, 1150, 1151, 1152, 1153, 1195, 1196, 1197, 1198, 1199, 1189, 1190, 1191, 1192, 1193, 1194] (by decide +kernel) (by decide +kernel)
set_option maxRecDepth 20000 in
theorem gL_law_X8_left : GoodIn wsL_law (wsV RL 69 RX8 yX8_left wsX8_left) := goodIn_app (goodIn_of _ (by decide +kernel)) ggL_law_X8_left
set_option maxRecDepth 20000 in
theorem ggL_law_X9_left : GoodIn wsL_law wsX9_left := goodIn_r _ [572, 455, 456, 5, 457, 444, 445, 446, 447, 121, 109, 193, 194, 195, 257, 258, 259, 260, 201, 261, 262, 263, 264, 451, 452, 453, 454, 111, 110, 458, 459, 460, 461, 1154, 1155, 1156, 1157, 1158, 1159, 1160, 1161, 1162, 1163, 1164, 1165, 1166, 1167, 1168, 1169, 1170, 1171, 1172, 1173, 1174, 1175, 1176, 1177, 1178, 1179, 1180, 1181, 1182, 1183, 1184, 1185, 1186, 1187, 1188] (by decide +kernel) (by decide +kernel)
set_option maxRecDepth 20000 in
theorem gL_law_X9_left : GoodIn wsL_law (wsV RL 72 RX9 yX9_left wsX9_left) := goodIn_app (goodIn_of _ (by decide +kernel)) ggL_law_X9_left
set_option maxRecDepth 20000 in
theorem ggL_law_X8_hinders : GoodIn wsL_law wsX8_hinders := goodIn_r _ [576, 20, 33, 16, 577, 371, 372, 373, 2, 374, 139, 140, 141, 234, 235, 236, 237, 238, 239, 240, 384, 385, 386, 32, 387, 83, 84, 388, 389, 390, 391, 392, 65, 66, 67, 393, 394, 395, 396, 397, 398, 399, 400, 401, 474, 475, 476, 477, 478, 479, 480, 481, 578, 579, 580, 1141, 1142, 1143, 1144, 1145, 1146, 1147, 1148, 1149, 1150, 1151, 1152, 1153, 1195, 1196, 1197, 1198, 1199, 1189, 1190, 1191, 1192, 1193, 1194, 1207, 1208] (by decide +kernel) (by decide +kernel)
set_option maxRecDepth 20000 in
theorem gL_law_X8_hinders : GoodIn wsL_law (wsV RL 73 RX8 yX8_hinders wsX8_hinders) := goodIn_app (goodIn_of _ (by decide +kernel)) ggL_law_X8_hinders
set_option maxRecDepth 20000 in
theorem ggL_law_X9_hinders : GoodIn wsL_law wsX9_hinders := goodIn_r _ [584, 437, 443, 585, 415, 416, 417, 5, 418, 201, 183, 184, 185, 261, 262, 263, 264, 109, 257, 258, 259, 260, 438, 439, 440, 441, 442, 444, 445, 446, 447, 121, 193, 194, 195, 448, 449, 450, 451, 452, 453, 454, 111, 110, 455, 456, 457, 458, 459, 460, 461, 1154, 1155, 1156, 1157, 1158, 1159, 1160, 1161, 1162, 1163, 1164, 1165, 1166, 1167, 1168, 1169, 1170, 1171, 1172, 1173, 1174, 1175, 1176, 1177, 1178, 1179, 1180, 1181, 1182, 1183, 1184, 1185, 1186, 1187, 1188] (by decide +kernel) (by decide +kernel)
set_option maxRecDepth 20000 in
theorem gL_law_X9_hinders : GoodIn wsL_law (wsV RL 76 RX9 yX9_hinders wsX9_hinders) := goodIn_app (goodIn_of _ (by decide +kernel)) ggL_law_X9_hinders
set_option maxRecDepth 20000 in
theorem ggL_law_X8_could : GoodIn wsL_law wsX8_could := goodIn_r _ [589, 20, 16, 371, 372, 373, 2, 374, 139, 140, 141, 234, 235, 236, 237, 238, 239, 240, 466, 467, 468, 469, 226, 227, 228, 229, 230, 231, 232, 233, 241, 242, 243, 244, 470, 471, 472, 473, 33, 384, 385, 386, 32, 387, 83, 84, 388, 389, 390, 391, 392, 65, 66, 67, 393, 394, 395, 396, 397, 398, 399, 400, 401, 474, 475, 476, 477, 478, 479, 480, 481, 590, 591, 592, 593, 402, 403, 404, 405, 406, 165, 166, 167, 594, 595, 596, 597, 598, 1141, 1142, 1143, 1144, 1145, 1146, 1147, 1148, 1149, 1150, 1151, 1152, 1153, 1195, 1196, 1197, 1198, 1199, 1189, 1190, 1191, 1192, 1193, 1194, 1207, 1208] (by decide +kernel) (by decide +kernel)
set_option maxRecDepth 20000 in
theorem gL_law_X8_could : GoodIn wsL_law (wsV RL 77 RX8 yX8_could wsX8_could) := goodIn_app (goodIn_of _ (by decide +kernel)) ggL_law_X8_could
set_option maxRecDepth 20000 in
theorem ggL_law_X9_could : GoodIn wsL_law wsX9_could := goodIn_r _ [602, 415, 416, 417, 5, 418, 201, 183, 184, 185, 261, 262, 263, 264, 109, 257, 258, 259, 260, 603, 604, 605, 606, 501, 502, 503, 504, 112, 265, 266, 267, 268, 110, 249, 250, 251, 252, 253, 254, 255, 256, 433, 434, 435, 436, 437, 438, 439, 440, 441, 442, 443, 444, 445, 446, 447, 121, 193, 194, 195, 448, 449, 450, 451, 452, 453, 454, 111, 455, 456, 457, 458, 459, 460, 461, 607, 608, 609, 610, 1154, 1155, 1156, 1157, 1158, 1159, 1160, 1161, 1162, 1163, 1164, 1165, 1166, 1167, 1168, 1169, 1170, 1171, 1172, 1173, 1174, 1175, 1176, 1177, 1178, 1179, 1180, 1181, 1182, 1183, 1184, 1185, 1186, 1187, 1188] (by decide +kernel) (by decide +kernel)
set_option maxRecDepth 20000 in
theorem gL_law_X9_could : GoodIn wsL_law (wsV RL 80 RX9 yX9_could wsX9_could) := goodIn_app (goodIn_of _ (by decide +kernel)) ggL_law_X9_could

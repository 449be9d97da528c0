/-! the laws calls, printed rows -/
set_option maxRecDepth 20000 in
theorem ggL_law_X9_why : GoodIn wsL_law wsX9_why := goodIn_r _ [736, 443, 415, 416, 417, 5, 418, 201, 183, 184, 185, 419, 420, 421, 422, 423, 261, 262, 263, 264, 109, 424, 425, 426, 427, 428, 129, 257, 258, 259, 260, 429, 430, 431, 432, 113, 433, 434, 435, 436, 437, 438, 439, 440, 441, 442, 444, 445, 446, 447, 121, 193, 194, 195, 448, 449, 450, 451, 452, 453, 454, 111, 110, 455, 456, 457, 458, 459, 460, 461, 1154, 1155, 1156, 1157, 1158, 1159, 1160, 1161, 1162, 1163, 1164, 1165, 1166, 1167, 1168, 1169, 1170, 1171, 1172, 1173, 1174, 1175, 1176, 1177, 1178, 1179, 1180, 1181, 1182, 1183, 1184, 1185, 1186, 1187, 1188] (by decide +kernel) (by decide +kernel)
set_option maxRecDepth 20000 in
theorem gL_law_X9_why : GoodIn wsL_law (wsV RL 105 RX9 yX9_why wsX9_why) := goodIn_app (goodIn_of _ (by decide +kernel)) ggL_law_X9_why
set_option maxRecDepth 20000 in
theorem ggL_law_X8_ledger : GoodIn wsL_law wsX8_ledger := goodIn_r _ [740, 45, 371, 372, 373, 2, 374, 16, 139, 140, 141, 375, 376, 377, 378, 20, 379, 380, 381, 382, 149, 383, 33, 234, 235, 236, 237, 238, 239, 240, 384, 385, 386, 32, 387, 83, 84, 388, 389, 390, 391, 392, 65, 66, 67, 393, 394, 395, 396, 397, 398, 399, 400, 401, 402, 403, 404, 405, 406, 165, 166, 167, 407, 408, 409, 410, 741, 742, 743, 744, 745, 746, 747, 44, 748, 749, 750, 751, 752, 753, 754, 755, 756, 757, 104, 758, 759, 760, 761, 762, 763, 764, 765, 766, 767, 768, 769, 770, 771, 772, 773, 774, 775, 776, 777, 778, 779, 780, 781, 782, 783, 784, 785, 786, 787, 788, 789, 790, 791, 792, 793, 794, 795, 796, 797, 798, 799, 800, 801, 802, 803, 804, 805, 806, 807, 808, 809, 810, 811, 812, 813, 814, 815, 1141, 1142, 1143, 1144, 1145, 1146, 1147, 1148, 1149, 1150, 1151, 1152, 1153, 1218, 1219, 1189, 1190, 1191, 1192, 1193, 1194, 1195, 1196, 1197, 1198, 1199, 1207, 1208] (by decide +kernel) (by decide +kernel)
set_option maxRecDepth 20000 in
theorem gL_law_X8_ledger : GoodIn wsL_law (wsV RL 106 RX8 yX8_ledger wsX8_ledger) := goodIn_app (goodIn_of _ (by decide +kernel)) ggL_law_X8_ledger
set_option maxRecDepth 20000 in
theorem ggL_law_X9_ledger : GoodIn wsL_law wsX9_ledger := goodIn_r _ [819, 820, 821, 822, 110, 111, 109, 112, 113, 415, 416, 417, 5, 418, 201, 183, 184, 185, 823, 824, 825, 826, 827, 828, 829, 830, 11, 12, 831, 832, 833, 834, 835, 836, 797, 837, 838, 839, 840, 841, 842, 843, 844, 845, 846, 847, 848, 849, 850, 851, 852, 853, 492, 854, 855, 856, 857, 858, 859, 860, 861, 862, 863, 864, 865, 866, 867, 868, 869, 870, 169, 166, 170, 871, 872, 873, 874, 875, 876, 66, 877, 878, 879, 880, 881, 882, 883, 884, 165, 167, 885, 173, 174, 175, 886, 887, 888, 889, 890, 891, 892, 893, 894, 895, 896, 897, 898, 809, 899, 900, 901, 802, 803, 804, 902, 903, 766, 904, 790, 905, 906, 793, 907, 908, 909, 910, 911, 912, 913, 914, 915, 810, 811, 916, 917, 918, 919, 920, 921, 922, 923, 924, 925, 785, 926, 927, 928, 929, 930, 931, 932, 933, 934, 935, 936, 937, 938, 939, 940, 941, 942, 943, 944, 945, 946, 947, 948, 949, 799, 800, 801, 805, 788, 789, 791, 792, 794, 261, 262, 263, 264, 419, 420, 421, 422, 423, 424, 425, 426, 427, 428, 129, 257, 258, 259, 260, 429, 430, 431, 432, 433, 434, 435, 436, 437, 438, 439, 440, 441, 442, 443, 444, 445, 446, 447, 121, 193, 194, 195, 448, 449, 450, 451, 452, 453, 454, 455, 456, 457, 458, 459, 460, 461, 950, 951, 952, 953, 954, 955, 956, 957, 958, 959, 960, 961, 962, 963, 964, 965, 966, 764, 765, 767, 768, 769, 770, 771, 772, 773, 774, 967, 968, 969, 970, 971, 972, 973, 974, 975, 976, 977, 978, 979, 980, 981, 982, 983, 984, 985, 986, 987, 988, 989, 990, 991, 992, 993, 994, 995, 996, 997, 998, 999, 1000, 1001, 1002, 807, 808, 1220, 1221, 1222, 1223, 1154, 1155, 1156, 1157, 1158, 1159, 1160, 1161, 1162, 1163, 1164, 1165, 1166, 1167, 1168, 1169, 1170, 1171, 1172, 1173, 1174, 1175, 1176, 1177, 1178, 1179, 1180, 1181, 1182, 1183, 1184, 1185, 1186, 1187, 1188] (by decide +kernel) (by decide +kernel)
set_option maxRecDepth 20000 in
theorem gL_law_X9_ledger : GoodIn wsL_law (wsV RL 109 RX9 yX9_ledger wsX9_ledger) := goodIn_app (goodIn_of _ (by decide +kernel)) ggL_law_X9_ledger
set_option maxRecDepth 20000 in
theorem ggL_law_X8_row : GoodIn wsL_law wsX8_row := goodIn_r _ [1006, 41, 1007, 1008, 1009, 40, 1010, 1011, 1012, 1013, 1014, 99, 1015, 165, 166, 167, 98, 1016, 1141, 1142, 1143, 1144, 1145, 1146, 1147, 1148, 1149, 1150, 1151, 1152, 1153, 1216, 1217] (by decide +kernel) (by decide +kernel)
set_option maxRecDepth 20000 in
theorem gL_law_X8_row : GoodIn wsL_law (wsV RL 110 RX8 yX8_row wsX8_row) := goodIn_app (goodIn_of _ (by decide +kernel)) ggL_law_X8_row
set_option maxRecDepth 20000 in
theorem ggL_law_X9_row : GoodIn wsL_law wsX9_row := goodIn_r _ [1020, 131, 130, 1021, 1022, 5, 1023, 183, 184, 185, 1154, 1155, 1156, 1157, 1158, 1159, 1160, 1161, 1162, 1163, 1164, 1165, 1166, 1167, 1168, 1169, 1170, 1171, 1172, 1173, 1174, 1175, 1176, 1177, 1178, 1179, 1180, 1181, 1182, 1183, 1184, 1185, 1186, 1187, 1188] (by decide +kernel) (by decide +kernel)
set_option maxRecDepth 20000 in
theorem gL_law_X9_row : GoodIn wsL_law (wsV RL 113 RX9 yX9_row wsX9_row) := goodIn_app (goodIn_of _ (by decide +kernel)) ggL_law_X9_row
set_option maxRecDepth 20000 in
theorem ggL_law_X8_put : GoodIn wsL_law wsX8_put := goodIn_r _ [1027, 41, 1007, 1008, 1009, 40, 1010, 1028, 1029, 1030, 1031, 99, 1016, 1032, 1033, 1034, 1035, 1036, 1037, 1038, 1039, 98, 1040, 1141, 1142, 1143, 1144, 1145, 1146, 1147, 1148, 1149, 1150, 1151, 1152, 1153, 1216, 1217] (by decide +kernel) (by decide +kernel)
set_option maxRecDepth 20000 in
theorem gL_law_X8_put : GoodIn wsL_law (wsV RL 116 RX8 yX8_put wsX8_put) := goodIn_app (goodIn_of _ (by decide +kernel)) ggL_law_X8_put
set_option maxRecDepth 20000 in
theorem ggL_law_X9_put : GoodIn wsL_law wsX9_put := goodIn_r _ [1044, 131, 130, 1021, 1022, 5, 1023, 183, 184, 185, 1154, 1155, 1156, 1157, 1158, 1159, 1160, 1161, 1162, 1163, 1164, 1165, 1166, 1167, 1168, 1169, 1170, 1171, 1172, 1173, 1174, 1175, 1176, 1177, 1178, 1179, 1180, 1181, 1182, 1183, 1184, 1185, 1186, 1187, 1188] (by decide +kernel) (by decide +kernel)
set_option maxRecDepth 20000 in
theorem gL_law_X9_put : GoodIn wsL_law (wsV RL 120 RX9 yX9_put wsX9_put) := goodIn_app (goodIn_of _ (by decide +kernel)) ggL_law_X9_put
set_option maxRecDepth 20000 in
theorem ggL_law_X8_get : GoodIn wsL_law wsX8_get := goodIn_r _ [1048, 41, 1049, 1032, 1033, 1034, 40, 1035, 99, 1016, 1008, 1009, 1010, 1050, 1051, 1052, 1053, 98, 1040, 1141, 1142, 1143, 1144, 1145, 1146, 1147, 1148, 1149, 1150, 1151, 1152, 1153, 1216, 1217] (by decide +kernel) (by decide +kernel)
set_option maxRecDepth 20000 in
theorem gL_law_X8_get : GoodIn wsL_law (wsV RL 121 RX8 yX8_get wsX8_get) := goodIn_app (goodIn_of _ (by decide +kernel)) ggL_law_X8_get
set_option maxRecDepth 20000 in
theorem ggL_law_X9_get : GoodIn wsL_law wsX9_get := goodIn_r _ [1057, 131, 130, 1058, 1021, 1022, 5, 1023, 183, 184, 185, 1154, 1155, 1156, 1157, 1158, 1159, 1160, 1161, 1162, 1163, 1164, 1165, 1166, 1167, 1168, 1169, 1170, 1171, 1172, 1173, 1174, 1175, 1176, 1177, 1178, 1179, 1180, 1181, 1182, 1183, 1184, 1185, 1186, 1187, 1188] (by decide +kernel) (by decide +kernel)
set_option maxRecDepth 20000 in
theorem gL_law_X9_get : GoodIn wsL_law (wsV RL 125 RX9 yX9_get wsX9_get) := goodIn_app (goodIn_of _ (by decide +kernel)) ggL_law_X9_get
set_option maxRecDepth 20000 in
theorem ggL_law_X8_from : GoodIn wsL_law wsX8_from := goodIn_r _ [1062, 41, 1063, 20, 1007, 1008, 1009, 40, 1010, 136, 137, 2, 138, 139, 140, 141, 142, 143, 144, 1028, 1029, 1030, 1031, 99, 1016, 1032, 1033, 1034, 1035, 1050, 1051, 1052, 1053, 98, 1040, 145, 146, 147, 148, 149, 25, 16, 150, 151, 152, 24, 153, 154, 155, 73, 156, 157, 158, 159, 160, 161, 162, 19, 163, 164, 165, 166, 167, 168, 169, 170, 171, 60, 172, 173, 174, 175, 61, 62, 63, 1141, 1142, 1143, 1144, 1145, 1146, 1147, 1148, 1149, 1150, 1151, 1152, 1153, 1195, 1196, 1197, 1198, 1199, 1216, 1217, 1189, 1190, 1191, 1192, 1193, 1194, 1200, 1201, 1202] (by decide +kernel) (by decide +kernel)
set_option maxRecDepth 20000 in
theorem gL_law_X8_from : GoodIn wsL_law (wsV RL 126 RX8 yX8_from wsX8_from) := goodIn_app (goodIn_of _ (by decide +kernel)) ggL_law_X8_from
set_option maxRecDepth 20000 in
theorem ggL_law_X9_from : GoodIn wsL_law wsX9_from := goodIn_r _ [1067, 131, 130, 1068, 109, 1021, 1022, 5, 1023, 183, 184, 185, 180, 181, 182, 186, 187, 188, 189, 118, 190, 191, 192, 193, 194, 195, 196, 197, 198, 199, 200, 115, 116, 117, 201, 202, 1154, 1155, 1156, 1157, 1158, 1159, 1160, 1161, 1162, 1163, 1164, 1165, 1166, 1167, 1168, 1169, 1170, 1171, 1172, 1173, 1174, 1175, 1176, 1177, 1178, 1179, 1180, 1181, 1182, 1183, 1184, 1185, 1186, 1187, 1188] (by decide +kernel) (by decide +kernel)
set_option maxRecDepth 20000 in
theorem gL_law_X9_from : GoodIn wsL_law (wsV RL 129 RX9 yX9_from wsX9_from) := goodIn_app (goodIn_of _ (by decide +kernel)) ggL_law_X9_from

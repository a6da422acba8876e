set_option maxRecDepth 20000 in
theorem ggL_law_X8_is : GoodIn wsL_law wsX8_is := goodIn_r _ [943, 36, 538, 539, 540, 2, 541, 15, 149, 150, 151, 152, 944, 945, 946, 35, 947, 948, 949, 950, 951, 98, 952, 953, 954, 565, 566, 56, 567, 67, 65, 955, 356, 357, 358, 156, 157, 158, 159, 160, 1178, 1179, 1180, 1181, 1182, 1183, 1184, 1185, 1186, 1187, 1188, 1189, 1190, 1191, 1192, 1211, 1212, 1213, 1214, 1215, 1216, 1217, 1218, 1219, 1220, 1221, 1222, 1223, 1224, 1225, 1241, 1242, 1251, 1252, 1253, 1254] (by decide +kernel) (by decide +kernel)
set_option maxRecDepth 20000 in
theorem gL_law_X8_is : GoodIn wsL_law (wsV RL 127 RX8 yX8_is wsX8_is) := goodIn_app (goodIn_of _ (by decide +kernel)) ggL_law_X8_is
set_option maxRecDepth 20000 in
theorem ggL_law_X9_is : GoodIn wsL_law wsX9_is := goodIn_r _ [959, 551, 552, 553, 5, 554, 112, 174, 175, 176, 960, 961, 962, 963, 448, 449, 450, 177, 178, 179, 180, 114, 1193, 1194, 1195, 1196, 1197, 1198, 1199, 1200, 1201, 1202, 1203, 1204, 1205, 1206, 1207, 1208, 1209, 1210] (by decide +kernel) (by decide +kernel)
set_option maxRecDepth 20000 in
theorem gL_law_X9_is : GoodIn wsL_law (wsV RL 130 RX9 yX9_is wsX9_is) := goodIn_app (goodIn_of _ (by decide +kernel)) ggL_law_X9_is
set_option maxRecDepth 20000 in
theorem ggL_law_X8_look : GoodIn wsL_law wsX8_look := goodIn_r _ [967, 36, 538, 539, 540, 2, 541, 15, 149, 150, 151, 152, 968, 969, 970, 35, 971, 97, 98, 972, 973, 945, 946, 947, 948, 949, 950, 951, 952, 953, 954, 565, 566, 56, 567, 67, 65, 955, 356, 357, 358, 974, 975, 976, 977, 978, 346, 230, 347, 156, 157, 158, 159, 160, 1178, 1179, 1180, 1181, 1182, 1183, 1184, 1185, 1186, 1187, 1188, 1189, 1190, 1191, 1192, 1211, 1212, 1213, 1214, 1215, 1216, 1217, 1218, 1219, 1220, 1221, 1222, 1223, 1224, 1225, 1241, 1242, 1251, 1252, 1253, 1254] (by decide +kernel) (by decide +kernel)
set_option maxRecDepth 20000 in
theorem gL_law_X8_look : GoodIn wsL_law (wsV RL 131 RX8 yX8_look wsX8_look) := goodIn_app (goodIn_of _ (by decide +kernel)) ggL_law_X8_look
set_option maxRecDepth 20000 in
theorem ggL_law_X9_look : GoodIn wsL_law wsX9_look := goodIn_r _ [982, 122, 112, 551, 552, 553, 5, 554, 174, 175, 176, 177, 178, 179, 180, 114, 960, 961, 962, 963, 448, 449, 450, 983, 984, 985, 986, 435, 436, 437, 1193, 1194, 1195, 1196, 1197, 1198, 1199, 1200, 1201, 1202, 1203, 1204, 1205, 1206, 1207, 1208, 1209, 1210] (by decide +kernel) (by decide +kernel)
set_option maxRecDepth 20000 in
theorem gL_law_X9_look : GoodIn wsL_law (wsV RL 134 RX9 yX9_look wsX9_look) := goodIn_app (goodIn_of _ (by decide +kernel)) ggL_law_X9_look
set_option maxRecDepth 20000 in
theorem ggL_law_X8_kinds : GoodIn wsL_law wsX8_kinds := goodIn_r _ [990, 36, 503, 504, 505, 2, 506, 15, 127, 150, 151, 152, 991, 992, 993, 35, 994, 995, 996, 997, 998, 98, 999, 953, 954, 565, 566, 56, 567, 67, 65, 1000, 360, 357, 361, 362, 346, 230, 347, 363, 229, 231, 156, 157, 158, 159, 160, 1178, 1179, 1180, 1181, 1182, 1183, 1184, 1185, 1186, 1187, 1188, 1189, 1190, 1191, 1192, 1211, 1212, 1213, 1214, 1215, 1216, 1217, 1218, 1219, 1220, 1221, 1222, 1223, 1224, 1225, 1241, 1242, 1251, 1252, 1253, 1254] (by decide +kernel) (by decide +kernel)
set_option maxRecDepth 20000 in
theorem gL_law_X8_kinds : GoodIn wsL_law (wsV RL 135 RX8 yX8_kinds wsX8_kinds) := goodIn_app (goodIn_of _ (by decide +kernel)) ggL_law_X8_kinds
set_option maxRecDepth 20000 in
theorem ggL_law_X9_kinds : GoodIn wsL_law wsX9_kinds := goodIn_r _ [1004, 516, 517, 518, 5, 519, 112, 174, 175, 176, 1005, 1006, 1007, 1008, 451, 452, 453, 177, 178, 179, 180, 114, 1193, 1194, 1195, 1196, 1197, 1198, 1199, 1200, 1201, 1202, 1203, 1204, 1205, 1206, 1207, 1208, 1209, 1210] (by decide +kernel) (by decide +kernel)
set_option maxRecDepth 20000 in
theorem gL_law_X9_kinds : GoodIn wsL_law (wsV RL 138 RX9 yX9_kinds wsX9_kinds) := goodIn_app (goodIn_of _ (by decide +kernel)) ggL_law_X9_kinds
set_option maxRecDepth 20000 in
theorem ggL_law_X8_ask : GoodIn wsL_law wsX8_ask := goodIn_r _ [1012, 36, 503, 504, 505, 2, 506, 15, 127, 150, 151, 152, 1013, 1014, 1015, 35, 1016, 97, 1017, 992, 993, 994, 995, 996, 997, 998, 98, 999, 953, 954, 565, 566, 56, 567, 67, 65, 1000, 360, 357, 361, 362, 346, 230, 347, 363, 229, 231, 974, 975, 976, 977, 978, 156, 157, 158, 159, 160, 1178, 1179, 1180, 1181, 1182, 1183, 1184, 1185, 1186, 1187, 1188, 1189, 1190, 1191, 1192, 1211, 1212, 1213, 1214, 1215, 1216, 1217, 1218, 1219, 1220, 1221, 1222, 1223, 1224, 1225, 1241, 1242, 1251, 1252, 1253, 1254] (by decide +kernel) (by decide +kernel)
set_option maxRecDepth 20000 in
theorem gL_law_X8_ask : GoodIn wsL_law (wsV RL 139 RX8 yX8_ask wsX8_ask) := goodIn_app (goodIn_of _ (by decide +kernel)) ggL_law_X8_ask
set_option maxRecDepth 20000 in
theorem ggL_law_X9_ask : GoodIn wsL_law wsX9_ask := goodIn_r _ [1021, 122, 516, 517, 518, 5, 519, 112, 174, 175, 176, 177, 178, 179, 180, 114, 1005, 1006, 1007, 1008, 451, 452, 453, 983, 984, 985, 986, 435, 436, 437, 1193, 1194, 1195, 1196, 1197, 1198, 1199, 1200, 1201, 1202, 1203, 1204, 1205, 1206, 1207, 1208, 1209, 1210] (by decide +kernel) (by decide +kernel)
set_option maxRecDepth 20000 in
theorem gL_law_X9_ask : GoodIn wsL_law (wsV RL 142 RX9 yX9_ask wsX9_ask) := goodIn_app (goodIn_of _ (by decide +kernel)) ggL_law_X9_ask
set_option maxRecDepth 20000 in
theorem ggL_law_X8_brothers : GoodIn wsL_law wsX8_brothers := goodIn_r _ [1025, 15, 1026, 524, 503, 504, 505, 2, 506, 127, 150, 151, 152, 156, 157, 158, 159, 160, 526, 527, 528, 14, 529, 53, 507, 508, 509, 510, 511, 576, 577, 578, 579, 50, 52, 135, 134, 580, 348, 349, 350, 351, 132, 48, 352, 353, 230, 354, 47, 49, 355, 356, 357, 358, 359, 360, 361, 362, 346, 347, 363, 229, 231, 1027, 1028, 1029, 1178, 1179, 1180, 1181, 1182, 1183, 1184, 1185, 1186, 1187, 1188, 1189, 1190, 1191, 1192, 1211, 1212, 1213, 1214, 1215, 1216, 1217, 1218, 1219, 1220, 1221, 1222, 1223, 1224, 1225] (by decide +kernel) (by decide +kernel)
set_option maxRecDepth 20000 in
theorem gL_law_X8_brothers : GoodIn wsL_law (wsV RL 143 RX8 yX8_brothers wsX8_brothers) := goodIn_app (goodIn_of _ (by decide +kernel)) ggL_law_X8_brothers
set_option maxRecDepth 20000 in
theorem ggL_law_X9_brothers : GoodIn wsL_law wsX9_brothers := goodIn_r _ [1033, 112, 516, 517, 518, 5, 519, 174, 175, 176, 177, 178, 179, 180, 114, 435, 436, 437, 1034, 1035, 1036, 1037, 593, 594, 595, 596, 438, 439, 440, 441, 442, 443, 444, 445, 446, 447, 448, 449, 450, 451, 452, 453, 1193, 1194, 1195, 1196, 1197, 1198, 1199, 1200, 1201, 1202, 1203, 1204, 1205, 1206, 1207, 1208, 1209, 1210] (by decide +kernel) (by decide +kernel)
set_option maxRecDepth 20000 in
theorem gL_law_X9_brothers : GoodIn wsL_law (wsV RL 146 RX9 yX9_brothers wsX9_brothers) := goodIn_app (goodIn_of _ (by decide +kernel)) ggL_law_X9_brothers
set_option maxRecDepth 20000 in
theorem ggL_law_X8_mornings : GoodIn wsL_law wsX8_mornings := goodIn_r _ [1041, 1042, 24, 503, 504, 505, 2, 506, 15, 127, 150, 151, 152, 156, 157, 158, 159, 160, 1043, 1044, 1045, 23, 1046, 78, 632, 641, 76, 633, 634, 77, 635, 642, 349, 350, 14, 351, 132, 48, 352, 353, 230, 354, 47, 49, 355, 356, 357, 358, 643, 360, 361, 362, 346, 347, 363, 229, 231, 1047, 1048, 1049, 1050, 1051, 41, 1178, 1179, 1180, 1181, 1182, 1183, 1184, 1185, 1186, 1187, 1188, 1189, 1190, 1191, 1192, 1211, 1212, 1213, 1214, 1215, 1216, 1217, 1218, 1219, 1220, 1221, 1222, 1223, 1224, 1225, 1226, 1227, 1228, 1229, 1230, 1231, 1232] (by decide +kernel) (by decide +kernel)
set_option maxRecDepth 20000 in
theorem gL_law_X8_mornings : GoodIn wsL_law (wsV RL 147 RX8 yX8_mornings wsX8_mornings) := goodIn_app (goodIn_of _ (by decide +kernel)) ggL_law_X8_mornings
set_option maxRecDepth 20000 in
theorem ggL_law_X9_mornings : GoodIn wsL_law wsX9_mornings := goodIn_r _ [1055, 112, 516, 517, 518, 5, 519, 174, 175, 176, 177, 178, 179, 180, 114, 648, 649, 650, 651, 435, 436, 437, 431, 432, 433, 434, 438, 439, 440, 441, 442, 443, 444, 445, 446, 447, 448, 449, 450, 451, 452, 453, 454, 455, 456, 457, 1056, 1057, 1058, 1059, 1060, 115, 1193, 1194, 1195, 1196, 1197, 1198, 1199, 1200, 1201, 1202, 1203, 1204, 1205, 1206, 1207, 1208, 1209, 1210] (by decide +kernel) (by decide +kernel)
set_option maxRecDepth 20000 in
theorem gL_law_X9_mornings : GoodIn wsL_law (wsV RL 150 RX9 yX9_mornings wsX9_mornings) := goodIn_app (goodIn_of _ (by decide +kernel)) ggL_law_X9_mornings
set_option maxRecDepth 20000 in
theorem ggL_law_X8_years : GoodIn wsL_law wsX8_years := goodIn_r _ [1064, 1065, 24, 150, 151, 2, 152, 156, 157, 158, 159, 160, 1066, 1067, 1068, 23, 1069, 78, 635, 74, 1070, 369, 370, 371, 633, 75, 1071, 1072, 1073, 1074, 1075, 689, 1076, 1077, 641, 1078, 342, 343, 14, 344, 133, 50, 134, 345, 346, 230, 347, 348, 349, 350, 351, 132, 48, 352, 353, 354, 47, 49, 355, 356, 357, 358, 359, 360, 361, 362, 363, 229, 231, 1079, 484, 485, 486, 1178, 1179, 1180, 1181, 1182, 1183, 1184, 1185, 1186, 1187, 1188, 1189, 1190, 1191, 1192, 1226, 1227, 1228, 1229, 1230, 1231, 1232, 1211, 1212, 1213, 1214, 1215, 1216, 1217, 1218, 1219, 1220, 1221, 1222, 1223, 1224, 1225] (by decide +kernel) (by decide +kernel)
set_option maxRecDepth 20000 in
theorem gL_law_X8_years : GoodIn wsL_law (wsV RL 151 RX8 yX8_years wsX8_years) := goodIn_app (goodIn_of _ (by decide +kernel)) ggL_law_X8_years
set_option maxRecDepth 20000 in
theorem ggL_law_X9_years : GoodIn wsL_law wsX9_years := goodIn_r _ [1083, 1084, 1085, 1086, 1087, 1088, 1089, 112, 1090, 1091, 174, 175, 5, 176, 177, 178, 179, 180, 114, 648, 649, 650, 651, 516, 517, 518, 519, 652, 653, 654, 655, 431, 432, 433, 434, 435, 436, 437, 438, 439, 440, 441, 442, 443, 444, 445, 446, 447, 448, 449, 450, 451, 452, 453, 454, 455, 456, 457, 495, 496, 497, 1193, 1194, 1195, 1196, 1197, 1198, 1199, 1200, 1201, 1202, 1203, 1204, 1205, 1206, 1207, 1208, 1209, 1210] (by decide +kernel) (by decide +kernel)
set_option maxRecDepth 20000 in
theorem gL_law_X9_years : GoodIn wsL_law (wsV RL 154 RX9 yX9_years wsX9_years) := goodIn_app (goodIn_of _ (by decide +kernel)) ggL_law_X9_years
set_option maxRecDepth 20000 in
theorem ggL_law_X8_part : GoodIn wsL_law wsX8_part := goodIn_r _ [1095, 1051, 41, 150, 151, 2, 152, 156, 157, 158, 159, 160, 1178, 1179, 1180, 1181, 1182, 1183, 1184, 1185, 1186, 1187, 1188, 1189, 1190, 1191, 1192] (by decide +kernel) (by decide +kernel)
set_option maxRecDepth 20000 in
theorem gL_law_X8_part : GoodIn wsL_law (wsV RL 155 RX8 yX8_part wsX8_part) := goodIn_app (goodIn_of _ (by decide +kernel)) ggL_law_X8_part
set_option maxRecDepth 20000 in
theorem ggL_law_X9_part : GoodIn wsL_law wsX9_part := goodIn_r _ [1099, 1060, 115, 174, 175, 5, 176, 177, 178, 179, 180, 114, 1193, 1194, 1195, 1196, 1197, 1198, 1199, 1200, 1201, 1202, 1203, 1204, 1205, 1206, 1207, 1208, 1209, 1210] (by decide +kernel) (by decide +kernel)
set_option maxRecDepth 20000 in
theorem gL_law_X9_part : GoodIn wsL_law (wsV RL 159 RX9 yX9_part wsX9_part) := goodIn_app (goodIn_of _ (by decide +kernel)) ggL_law_X9_part
set_option maxRecDepth 20000 in
theorem ggL_law_X8_image : GoodIn wsL_law wsX8_image := goodIn_r _ [1103, 16, 15, 18, 150, 151, 2, 152, 156, 157, 158, 159, 160, 364, 365, 366, 14, 367, 47, 368, 369, 370, 371, 48, 49, 50, 51, 52, 53, 57, 58, 59, 60, 132, 133, 134, 135, 372, 373, 374, 56, 375, 67, 376, 377, 1178, 1179, 1180, 1181, 1182, 1183, 1184, 1185, 1186, 1187, 1188, 1189, 1190, 1191, 1192, 1211, 1212, 1213, 1214, 1215, 1216, 1217, 1218, 1219, 1220, 1221, 1222, 1223, 1224, 1225, 1251, 1252, 1253, 1254] (by decide +kernel) (by decide +kernel)
set_option maxRecDepth 20000 in
theorem gL_law_X8_image : GoodIn wsL_law (wsV RL 160 RX8 yX8_image wsX8_image) := goodIn_app (goodIn_of _ (by decide +kernel)) ggL_law_X8_image
set_option maxRecDepth 20000 in
theorem ggL_law_X9_image : GoodIn wsL_law wsX9_image := goodIn_r _ [1107, 112, 113, 174, 175, 5, 176, 177, 178, 179, 180, 114, 1193, 1194, 1195, 1196, 1197, 1198, 1199, 1200, 1201, 1202, 1203, 1204, 1205, 1206, 1207, 1208, 1209, 1210] (by decide +kernel) (by decide +kernel)
set_option maxRecDepth 20000 in
theorem gL_law_X9_image : GoodIn wsL_law (wsV RL 163 RX9 yX9_image wsX9_image) := goodIn_app (goodIn_of _ (by decide +kernel)) ggL_law_X9_image
set_option maxRecDepth 20000 in
theorem ggL_law_X8_from : GoodIn wsL_law wsX8_from := goodIn_r _ [1111, 18, 15, 16, 150, 151, 2, 152, 156, 157, 158, 159, 160, 507, 508, 509, 510, 511, 364, 365, 366, 14, 367, 47, 368, 369, 370, 371, 48, 49, 50, 51, 52, 53, 57, 58, 59, 60, 132, 133, 134, 135, 372, 373, 374, 56, 375, 67, 376, 377, 1178, 1179, 1180, 1181, 1182, 1183, 1184, 1185, 1186, 1187, 1188, 1189, 1190, 1191, 1192, 1211, 1212, 1213, 1214, 1215, 1216, 1217, 1218, 1219, 1220, 1221, 1222, 1223, 1224, 1225, 1251, 1252, 1253, 1254] (by decide +kernel) (by decide +kernel)
set_option maxRecDepth 20000 in
theorem gL_law_X8_from : GoodIn wsL_law (wsV RL 164 RX8 yX8_from wsX8_from) := goodIn_app (goodIn_of _ (by decide +kernel)) ggL_law_X8_from
set_option maxRecDepth 20000 in
theorem ggL_law_X9_from : GoodIn wsL_law wsX9_from := goodIn_r _ [1115, 113, 112, 174, 175, 5, 176, 177, 178, 179, 180, 114, 1193, 1194, 1195, 1196, 1197, 1198, 1199, 1200, 1201, 1202, 1203, 1204, 1205, 1206, 1207, 1208, 1209, 1210] (by decide +kernel) (by decide +kernel)
set_option maxRecDepth 20000 in
theorem gL_law_X9_from : GoodIn wsL_law (wsV RL 167 RX9 yX9_from wsX9_from) := goodIn_app (goodIn_of _ (by decide +kernel)) ggL_law_X9_from
set_option maxRecDepth 20000 in
theorem ggL_law_X8_status : GoodIn wsL_law wsX8_status := goodIn_r _ [1119, 160, 511, 165, 156, 157, 158, 2, 159, 1178, 1179, 1180, 1181, 1182, 1183, 1184, 1185, 1186, 1187, 1188, 1189, 1190, 1191, 1192] (by decide +kernel) (by decide +kernel)
set_option maxRecDepth 20000 in
theorem gL_law_X8_status : GoodIn wsL_law (wsV RL 168 RX8 yX8_status wsX8_status) := goodIn_app (goodIn_of _ (by decide +kernel)) ggL_law_X8_status
set_option maxRecDepth 20000 in
theorem ggL_law_X9_status : GoodIn wsL_law wsX9_status := goodIn_r _ [1123, 114, 174, 175, 5, 176, 759, 760, 761, 762, 177, 178, 179, 180, 1193, 1194, 1195, 1196, 1197, 1198, 1199, 1200, 1201, 1202, 1203, 1204, 1205, 1206, 1207, 1208, 1209, 1210] (by decide +kernel) (by decide +kernel)
set_option maxRecDepth 20000 in
theorem gL_law_X9_status : GoodIn wsL_law (wsV RL 171 RX9 yX9_status wsX9_status) := goodIn_app (goodIn_of _ (by decide +kernel)) ggL_law_X9_status
set_option maxRecDepth 20000 in
theorem ggL_law_X8_count : GoodIn wsL_law wsX8_count := goodIn_r _ [1127, 150, 151, 2, 152, 1128, 1129, 1130, 1131, 15, 127, 149, 618, 559, 875, 880, 918, 927, 1132, 205, 1133, 801, 802, 803, 804, 805, 806, 479, 480, 481, 14, 482, 53, 483, 484, 485, 486, 133, 1134, 1135, 1136, 1137, 156, 157, 158, 159, 160, 1178, 1179, 1180, 1181, 1182, 1183, 1184, 1185, 1186, 1187, 1188, 1189, 1190, 1191, 1192, 1211, 1212, 1213, 1214, 1215, 1216, 1217, 1218, 1219, 1220, 1221, 1222, 1223, 1224, 1225, 1251, 1252, 1253, 1254] (by decide +kernel) (by decide +kernel)
set_option maxRecDepth 20000 in
theorem gL_law_X8_count : GoodIn wsL_law (wsV RL 172 RX8 yX8_count wsX8_count) := goodIn_app (goodIn_of _ (by decide +kernel)) ggL_law_X8_count
set_option maxRecDepth 20000 in
theorem ggL_law_X9_count : GoodIn wsL_law wsX9_count := goodIn_r _ [1141, 174, 175, 5, 176, 1142, 1143, 1144, 1145, 112, 210, 495, 496, 497, 1146, 1147, 1148, 1149, 177, 178, 179, 180, 114, 1193, 1194, 1195, 1196, 1197, 1198, 1199, 1200, 1201, 1202, 1203, 1204, 1205, 1206, 1207, 1208, 1209, 1210] (by decide +kernel) (by decide +kernel)
set_option maxRecDepth 20000 in
theorem gL_law_X9_count : GoodIn wsL_law (wsV RL 175 RX9 yX9_count wsX9_count) := goodIn_app (goodIn_of _ (by decide +kernel)) ggL_law_X9_count
set_option maxRecDepth 20000 in
theorem ggL_law_X8_digest : GoodIn wsL_law wsX8_digest := goodIn_r _ [1153, 1154, 1155, 15, 1051, 41, 1128, 1129, 1130, 2, 1131, 127, 149, 618, 559, 875, 880, 918, 927, 1132, 205, 1133, 801, 802, 803, 804, 805, 806, 479, 480, 481, 14, 482, 53, 483, 484, 485, 486, 133, 1134, 1135, 1136, 1137, 1156, 1157, 1158, 1159, 132, 1160, 60, 59, 58, 1161, 602, 603, 604, 47, 48, 49, 605, 544, 545, 546, 134, 1162, 582, 583, 584, 50, 51, 52, 580, 527, 528, 529, 1163, 1164, 1165, 56, 1166, 377, 65, 1167, 67, 1178, 1179, 1180, 1181, 1182, 1183, 1184, 1185, 1186, 1187, 1188, 1189, 1190, 1191, 1192, 1211, 1212, 1213, 1214, 1215, 1216, 1217, 1218, 1219, 1220, 1221, 1222, 1223, 1224, 1225, 1251, 1252, 1253, 1254] (by decide +kernel) (by decide +kernel)
set_option maxRecDepth 20000 in
theorem gL_law_X8_digest : GoodIn wsL_law (wsV RL 176 RX8 yX8_digest wsX8_digest) := goodIn_app (goodIn_of _ (by decide +kernel)) ggL_law_X8_digest
set_option maxRecDepth 20000 in
theorem ggL_law_X9_digest : GoodIn wsL_law wsX9_digest := goodIn_r _ [1171, 1172, 1173, 112, 1060, 115, 1142, 1143, 1144, 5, 1145, 210, 495, 496, 497, 1146, 1147, 1148, 1149, 610, 611, 612, 613, 589, 590, 591, 592, 593, 594, 595, 596, 435, 436, 437, 438, 439, 440, 441, 442, 443, 444, 445, 446, 447, 448, 449, 450, 451, 452, 453, 1174, 1175, 1176, 1177, 1193, 1194, 1195, 1196, 1197, 1198, 1199, 1200, 1201, 1202, 1203, 1204, 1205, 1206, 1207, 1208, 1209, 1210] (by decide +kernel) (by decide +kernel)
set_option maxRecDepth 20000 in
theorem gL_law_X9_digest : GoodIn wsL_law (wsV RL 180 RX9 yX9_digest wsX9_digest) := goodIn_app (goodIn_of _ (by decide +kernel)) ggL_law_X9_digest

set_option maxRecDepth 20000 in
theorem ggL_law_X8_init : GoodIn wsL_law wsX8_init := goodIn_r _ [8, 9, 10, 11, 12, 13, 14, 15, 16, 17, 18, 19, 20, 21, 22, 23, 24, 25, 26, 27, 28, 29, 30, 31, 32, 33, 34, 35, 36, 37, 38, 39, 40, 41, 42, 43, 44, 45, 46, 47, 48, 49, 50, 51, 52, 53, 54, 55, 56, 57, 58, 59, 60, 61, 62, 63, 64, 65, 66, 67, 68, 69, 70, 71, 72, 73, 74, 75, 76, 77, 78, 79, 80, 81, 82, 83, 84, 85, 86, 87, 88, 89, 90, 91, 92, 93, 94, 95, 96, 97, 98, 99, 100, 101, 102, 103, 104, 105, 106, 107, 1211, 1212, 1213, 1214, 1215, 1216, 1217, 1218, 1219, 1220, 1221, 1222, 1223, 1224, 1225, 1178, 1179, 1180, 1181, 1182, 1183, 1184, 1185, 1186, 1187, 1188, 1189, 1190, 1191, 1192, 1226, 1227, 1228, 1229, 1230, 1231, 1232, 1233, 1234, 1235, 1236, 1237, 1238, 1239, 1240, 1241, 1242, 1243, 1244, 1245, 1246, 1247, 1248, 1249, 1250, 1251, 1252, 1253, 1254] (by decide +kernel) (by decide +kernel)
set_option maxRecDepth 20000 in
theorem gL_law_X8_init : GoodIn wsL_law (wsX8_init) := ggL_law_X8_init
set_option maxRecDepth 20000 in
theorem ggL_law_X9_init : GoodIn wsL_law wsX9_init := goodIn_r _ [110, 111, 10, 11, 46, 112, 17, 113, 114, 115, 116, 117, 118, 119, 120, 121, 122, 1193, 1194, 1195, 1196, 1197, 1198, 1199, 1200, 1201, 1202, 1203, 1204, 1205, 1206, 1207, 1208, 1209, 1210] (by decide +kernel) (by decide +kernel)
set_option maxRecDepth 20000 in
theorem gL_law_X9_init : GoodIn wsL_law (wsX9_init) := ggL_law_X9_init
set_option maxRecDepth 20000 in
theorem ggL_law_X8_parish : GoodIn wsL_law wsX8_parish := goodIn_r _ [126, 15, 127, 128, 129, 130, 14, 131, 132, 133, 134, 135, 57, 136, 58, 59, 60, 1178, 1179, 1180, 1181, 1182, 1183, 1184, 1185, 1186, 1187, 1188, 1189, 1190, 1191, 1192, 1211, 1212, 1213, 1214, 1215, 1216, 1217, 1218, 1219, 1220, 1221, 1222, 1223, 1224, 1225, 1251, 1252, 1253, 1254] (by decide +kernel) (by decide +kernel)
set_option maxRecDepth 20000 in
theorem gL_law_X8_parish : GoodIn wsL_law (wsV RL 13 RX8 yX8_parish wsX8_parish) := goodIn_app (goodIn_of _ (by decide +kernel)) ggL_law_X8_parish
set_option maxRecDepth 20000 in
theorem ggL_law_X9_parish : GoodIn wsL_law wsX9_parish := goodIn_r _ [140, 112, 141, 142, 143, 5, 144, 1193, 1194, 1195, 1196, 1197, 1198, 1199, 1200, 1201, 1202, 1203, 1204, 1205, 1206, 1207, 1208, 1209, 1210] (by decide +kernel) (by decide +kernel)
set_option maxRecDepth 20000 in
theorem gL_law_X9_parish : GoodIn wsL_law (wsV RL 17 RX9 yX9_parish wsX9_parish) := goodIn_app (goodIn_of _ (by decide +kernel)) ggL_law_X9_parish
set_option maxRecDepth 20000 in
theorem ggL_law_X8_flitch : GoodIn wsL_law wsX8_flitch := goodIn_r _ [148, 15, 149, 150, 151, 2, 152, 153, 154, 155, 156, 157, 158, 159, 160, 161, 162, 163, 164, 165, 166, 167, 168, 14, 169, 132, 47, 48, 49, 134, 57, 136, 1178, 1179, 1180, 1181, 1182, 1183, 1184, 1185, 1186, 1187, 1188, 1189, 1190, 1191, 1192, 1211, 1212, 1213, 1214, 1215, 1216, 1217, 1218, 1219, 1220, 1221, 1222, 1223, 1224, 1225, 1251, 1252, 1253, 1254] (by decide +kernel) (by decide +kernel)
set_option maxRecDepth 20000 in
theorem gL_law_X8_flitch : GoodIn wsL_law (wsV RL 18 RX8 yX8_flitch wsX8_flitch) := goodIn_app (goodIn_of _ (by decide +kernel)) ggL_law_X8_flitch
set_option maxRecDepth 20000 in
theorem ggL_law_X9_flitch : GoodIn wsL_law wsX9_flitch := goodIn_r _ [173, 112, 174, 175, 5, 176, 177, 178, 179, 180, 114, 181, 182, 183, 184, 1193, 1194, 1195, 1196, 1197, 1198, 1199, 1200, 1201, 1202, 1203, 1204, 1205, 1206, 1207, 1208, 1209, 1210] (by decide +kernel) (by decide +kernel)
set_option maxRecDepth 20000 in
theorem gL_law_X9_flitch : GoodIn wsL_law (wsV RL 22 RX9 yX9_flitch wsX9_flitch) := goodIn_app (goodIn_of _ (by decide +kernel)) ggL_law_X9_flitch
set_option maxRecDepth 20000 in
theorem ggL_law_X8_family : GoodIn wsL_law wsX8_family := goodIn_r _ [188, 15, 127, 150, 151, 2, 152, 153, 154, 155, 156, 157, 158, 159, 160, 161, 162, 163, 164, 165, 189, 190, 191, 14, 192, 133, 50, 51, 52, 53, 57, 136, 1178, 1179, 1180, 1181, 1182, 1183, 1184, 1185, 1186, 1187, 1188, 1189, 1190, 1191, 1192, 1211, 1212, 1213, 1214, 1215, 1216, 1217, 1218, 1219, 1220, 1221, 1222, 1223, 1224, 1225, 1251, 1252, 1253, 1254] (by decide +kernel) (by decide +kernel)
set_option maxRecDepth 20000 in
theorem gL_law_X8_family : GoodIn wsL_law (wsV RL 23 RX8 yX8_family wsX8_family) := goodIn_app (goodIn_of _ (by decide +kernel)) ggL_law_X8_family
set_option maxRecDepth 20000 in
theorem ggL_law_X9_family : GoodIn wsL_law wsX9_family := goodIn_r _ [196, 112, 174, 175, 5, 176, 177, 178, 179, 180, 114, 197, 198, 199, 200, 1193, 1194, 1195, 1196, 1197, 1198, 1199, 1200, 1201, 1202, 1203, 1204, 1205, 1206, 1207, 1208, 1209, 1210] (by decide +kernel) (by decide +kernel)
set_option maxRecDepth 20000 in
theorem gL_law_X9_family : GoodIn wsL_law (wsV RL 27 RX9 yX9_family wsX9_family) := goodIn_app (goodIn_of _ (by decide +kernel)) ggL_law_X9_family
set_option maxRecDepth 20000 in
theorem ggL_law_X8_type : GoodIn wsL_law wsX8_type := goodIn_r _ [204, 205, 20, 150, 151, 2, 152, 156, 157, 158, 159, 160, 161, 162, 163, 164, 165, 1178, 1179, 1180, 1181, 1182, 1183, 1184, 1185, 1186, 1187, 1188, 1189, 1190, 1191, 1192] (by decide +kernel) (by decide +kernel)
set_option maxRecDepth 20000 in
theorem gL_law_X8_type : GoodIn wsL_law (wsV RL 28 RX8 yX8_type wsX8_type) := goodIn_app (goodIn_of _ (by decide +kernel)) ggL_law_X8_type
set_option maxRecDepth 20000 in
theorem ggL_law_X9_type : GoodIn wsL_law wsX9_type := goodIn_r _ [209, 210, 116, 174, 175, 5, 176, 177, 178, 179, 180, 114, 1193, 1194, 1195, 1196, 1197, 1198, 1199, 1200, 1201, 1202, 1203, 1204, 1205, 1206, 1207, 1208, 1209, 1210] (by decide +kernel) (by decide +kernel)
set_option maxRecDepth 20000 in
theorem gL_law_X9_type : GoodIn wsL_law (wsV RL 32 RX9 yX9_type wsX9_type) := goodIn_app (goodIn_of _ (by decide +kernel)) ggL_law_X9_type
set_option maxRecDepth 20000 in
theorem ggL_law_X8_clear : GoodIn wsL_law wsX8_clear := goodIn_r _ [214, 205, 1178, 1179, 1180, 1181, 1182, 1183, 1184, 1185, 1186, 1187, 1188, 1189, 1190, 1191, 1192] (by decide +kernel) (by decide +kernel)
set_option maxRecDepth 20000 in
theorem gL_law_X8_clear : GoodIn wsL_law (wsV RL 33 RX8 yX8_clear wsX8_clear) := goodIn_app (goodIn_of _ (by decide +kernel)) ggL_law_X8_clear
set_option maxRecDepth 20000 in
theorem ggL_law_X9_clear : GoodIn wsL_law wsX9_clear := goodIn_r _ [218, 210, 1193, 1194, 1195, 1196, 1197, 1198, 1199, 1200, 1201, 1202, 1203, 1204, 1205, 1206, 1207, 1208, 1209, 1210] (by decide +kernel) (by decide +kernel)
set_option maxRecDepth 20000 in
theorem gL_law_X9_clear : GoodIn wsL_law (wsV RL 36 RX9 yX9_clear wsX9_clear) := goodIn_app (goodIn_of _ (by decide +kernel)) ggL_law_X9_clear
set_option maxRecDepth 20000 in
theorem ggL_law_X8_read : GoodIn wsL_law wsX8_read := goodIn_r _ [222, 40, 205, 15, 223, 224, 225, 226, 39, 227, 104, 106, 228, 229, 230, 231, 232, 233, 234, 235, 236, 129, 130, 14, 131, 132, 133, 134, 135, 57, 136, 58, 59, 60, 237, 238, 239, 240, 241, 242, 243, 244, 245, 246, 247, 248, 249, 250, 251, 252, 253, 254, 255, 256, 257, 258, 259, 260, 261, 262, 263, 264, 265, 266, 267, 268, 269, 270, 271, 272, 273, 274, 275, 276, 277, 278, 279, 280, 281, 282, 283, 284, 285, 286, 287, 288, 289, 290, 291, 292, 293, 294, 295, 296, 297, 298, 299, 300, 301, 302, 303, 304, 305, 306, 307, 308, 309, 310, 311, 312, 313, 314, 315, 316, 317, 318, 319, 320, 321, 322, 323, 324, 325, 326, 105, 151, 2, 152, 327, 328, 329, 330, 331, 167, 168, 169, 47, 48, 49, 332, 190, 191, 192, 50, 51, 52, 53, 333, 334, 335, 336, 337, 338, 339, 340, 341, 342, 343, 344, 345, 346, 347, 348, 349, 350, 351, 352, 353, 354, 355, 356, 357, 358, 359, 360, 361, 362, 363, 364, 365, 366, 367, 368, 369, 370, 371, 372, 373, 374, 56, 375, 67, 376, 377, 1178, 1179, 1180, 1181, 1182, 1183, 1184, 1185, 1186, 1187, 1188, 1189, 1190, 1191, 1192, 1243, 1244, 1245, 1246, 1247, 1248, 1249, 1250, 1211, 1212, 1213, 1214, 1215, 1216, 1217, 1218, 1219, 1220, 1221, 1222, 1223, 1224, 1225, 1251, 1252, 1253, 1254] (by decide +kernel) (by decide +kernel)
set_option maxRecDepth 20000 in
theorem gL_law_X8_read : GoodIn wsL_law (wsV RL 37 RX8 yX8_read wsX8_read) := goodIn_app (goodIn_of _ (by decide +kernel)) ggL_law_X8_read
set_option maxRecDepth 20000 in
theorem ggL_law_X9_read : GoodIn wsL_law wsX9_read := goodIn_r _ [381, 382, 112, 383, 384, 385, 5, 386, 387, 388, 389, 390, 210, 116, 391, 392, 393, 394, 395, 396, 397, 398, 174, 175, 176, 399, 400, 401, 402, 403, 404, 405, 406, 407, 408, 409, 410, 117, 411, 412, 413, 414, 141, 142, 143, 144, 415, 416, 417, 418, 419, 420, 421, 422, 181, 182, 183, 184, 423, 424, 425, 426, 197, 198, 199, 200, 427, 428, 429, 430, 431, 432, 433, 434, 435, 436, 437, 438, 439, 440, 441, 442, 443, 444, 445, 446, 447, 448, 449, 450, 451, 452, 453, 454, 455, 456, 457, 1193, 1194, 1195, 1196, 1197, 1198, 1199, 1200, 1201, 1202, 1203, 1204, 1205, 1206, 1207, 1208, 1209, 1210] (by decide +kernel) (by decide +kernel)
set_option maxRecDepth 20000 in
theorem gL_law_X9_read : GoodIn wsL_law (wsV RL 40 RX9 yX9_read wsX9_read) := goodIn_app (goodIn_of _ (by decide +kernel)) ggL_law_X9_read
set_option maxRecDepth 20000 in
theorem ggL_law_X8_days : GoodIn wsL_law wsX8_days := goodIn_r _ [461, 15, 150, 151, 2, 152, 156, 157, 158, 159, 160, 462, 463, 464, 14, 465, 57, 136, 135, 134, 53, 52, 466, 467, 468, 56, 469, 377, 66, 470, 471, 472, 473, 67, 65, 376, 369, 370, 371, 474, 475, 476, 477, 478, 338, 339, 340, 341, 342, 343, 344, 133, 50, 345, 346, 230, 347, 348, 349, 350, 351, 132, 48, 352, 353, 354, 47, 49, 355, 356, 357, 358, 359, 360, 361, 362, 363, 229, 231, 479, 480, 481, 482, 483, 484, 485, 486, 1178, 1179, 1180, 1181, 1182, 1183, 1184, 1185, 1186, 1187, 1188, 1189, 1190, 1191, 1192, 1211, 1212, 1213, 1214, 1215, 1216, 1217, 1218, 1219, 1220, 1221, 1222, 1223, 1224, 1225, 1251, 1252, 1253, 1254] (by decide +kernel) (by decide +kernel)
set_option maxRecDepth 20000 in
theorem gL_law_X8_days : GoodIn wsL_law (wsV RL 41 RX8 yX8_days wsX8_days) := goodIn_app (goodIn_of _ (by decide +kernel)) ggL_law_X8_days
set_option maxRecDepth 20000 in
theorem ggL_law_X9_days : GoodIn wsL_law wsX9_days := goodIn_r _ [490, 112, 174, 175, 5, 176, 177, 178, 179, 180, 114, 491, 492, 493, 494, 427, 428, 429, 430, 431, 432, 433, 434, 435, 436, 437, 438, 439, 440, 441, 442, 443, 444, 445, 446, 447, 448, 449, 450, 451, 452, 453, 454, 455, 456, 457, 495, 496, 497, 1193, 1194, 1195, 1196, 1197, 1198, 1199, 1200, 1201, 1202, 1203, 1204, 1205, 1206, 1207, 1208, 1209, 1210] (by decide +kernel) (by decide +kernel)
set_option maxRecDepth 20000 in
theorem gL_law_X9_days : GoodIn wsL_law (wsV RL 44 RX9 yX9_days wsX9_days) := goodIn_app (goodIn_of _ (by decide +kernel)) ggL_law_X9_days
set_option maxRecDepth 20000 in
theorem ggL_law_X8_goes : GoodIn wsL_law wsX8_goes := goodIn_r _ [501, 15, 502, 503, 504, 505, 2, 506, 127, 150, 151, 152, 153, 154, 155, 156, 157, 158, 159, 160, 507, 508, 509, 510, 511, 462, 463, 464, 14, 465, 57, 136, 135, 134, 53, 52, 466, 467, 468, 56, 469, 377, 66, 470, 471, 472, 473, 67, 65, 376, 369, 370, 371, 474, 475, 476, 477, 1178, 1179, 1180, 1181, 1182, 1183, 1184, 1185, 1186, 1187, 1188, 1189, 1190, 1191, 1192, 1211, 1212, 1213, 1214, 1215, 1216, 1217, 1218, 1219, 1220, 1221, 1222, 1223, 1224, 1225, 1251, 1252, 1253, 1254] (by decide +kernel) (by decide +kernel)
set_option maxRecDepth 20000 in
theorem gL_law_X8_goes : GoodIn wsL_law (wsV RL 45 RX8 yX8_goes wsX8_goes) := goodIn_app (goodIn_of _ (by decide +kernel)) ggL_law_X8_goes
set_option maxRecDepth 20000 in
theorem ggL_law_X9_goes : GoodIn wsL_law wsX9_goes := goodIn_r _ [515, 112, 516, 517, 518, 5, 519, 174, 175, 176, 177, 178, 179, 180, 114, 491, 492, 493, 494, 1193, 1194, 1195, 1196, 1197, 1198, 1199, 1200, 1201, 1202, 1203, 1204, 1205, 1206, 1207, 1208, 1209, 1210] (by decide +kernel) (by decide +kernel)
set_option maxRecDepth 20000 in
theorem gL_law_X9_goes : GoodIn wsL_law (wsV RL 49 RX9 yX9_goes wsX9_goes) := goodIn_app (goodIn_of _ (by decide +kernel)) ggL_law_X9_goes
set_option maxRecDepth 20000 in
theorem ggL_law_X8_turnip : GoodIn wsL_law wsX8_turnip := goodIn_r _ [523, 15, 524, 525, 229, 230, 231, 503, 504, 505, 2, 506, 127, 150, 151, 152, 156, 157, 158, 159, 160, 526, 527, 528, 14, 529, 53, 507, 508, 509, 510, 511, 462, 463, 464, 465, 57, 136, 135, 134, 52, 466, 467, 468, 56, 469, 377, 66, 470, 471, 472, 473, 67, 65, 376, 369, 370, 371, 474, 475, 476, 477, 1178, 1179, 1180, 1181, 1182, 1183, 1184, 1185, 1186, 1187, 1188, 1189, 1190, 1191, 1192, 1211, 1212, 1213, 1214, 1215, 1216, 1217, 1218, 1219, 1220, 1221, 1222, 1223, 1224, 1225, 1251, 1252, 1253, 1254] (by decide +kernel) (by decide +kernel)
set_option maxRecDepth 20000 in
theorem gL_law_X8_turnip : GoodIn wsL_law (wsV RL 50 RX8 yX8_turnip wsX8_turnip) := goodIn_app (goodIn_of _ (by decide +kernel)) ggL_law_X8_turnip
set_option maxRecDepth 20000 in
theorem ggL_law_X9_turnip : GoodIn wsL_law wsX9_turnip := goodIn_r _ [533, 112, 516, 517, 518, 5, 519, 174, 175, 176, 177, 178, 179, 180, 114, 435, 436, 437, 491, 492, 493, 494, 1193, 1194, 1195, 1196, 1197, 1198, 1199, 1200, 1201, 1202, 1203, 1204, 1205, 1206, 1207, 1208, 1209, 1210] (by decide +kernel) (by decide +kernel)
set_option maxRecDepth 20000 in
theorem gL_law_X9_turnip : GoodIn wsL_law (wsV RL 53 RX9 yX9_turnip wsX9_turnip) := goodIn_app (goodIn_of _ (by decide +kernel)) ggL_law_X9_turnip
set_option maxRecDepth 20000 in
theorem ggL_law_X8_outs : GoodIn wsL_law wsX8_outs := goodIn_r _ [537, 15, 538, 539, 540, 2, 541, 149, 150, 151, 152, 156, 157, 158, 159, 160, 462, 463, 464, 14, 465, 57, 136, 135, 134, 53, 52, 466, 467, 468, 56, 469, 377, 66, 470, 471, 472, 473, 67, 65, 376, 369, 370, 371, 474, 475, 476, 477, 542, 334, 335, 336, 543, 544, 545, 546, 1178, 1179, 1180, 1181, 1182, 1183, 1184, 1185, 1186, 1187, 1188, 1189, 1190, 1191, 1192, 1211, 1212, 1213, 1214, 1215, 1216, 1217, 1218, 1219, 1220, 1221, 1222, 1223, 1224, 1225, 1251, 1252, 1253, 1254] (by decide +kernel) (by decide +kernel)
set_option maxRecDepth 20000 in
theorem gL_law_X8_outs : GoodIn wsL_law (wsV RL 54 RX8 yX8_outs wsX8_outs) := goodIn_app (goodIn_of _ (by decide +kernel)) ggL_law_X8_outs
set_option maxRecDepth 20000 in
theorem ggL_law_X9_outs : GoodIn wsL_law wsX9_outs := goodIn_r _ [550, 112, 551, 552, 553, 5, 554, 174, 175, 176, 177, 178, 179, 180, 114, 491, 492, 493, 494, 1193, 1194, 1195, 1196, 1197, 1198, 1199, 1200, 1201, 1202, 1203, 1204, 1205, 1206, 1207, 1208, 1209, 1210] (by decide +kernel) (by decide +kernel)
set_option maxRecDepth 20000 in
theorem gL_law_X9_outs : GoodIn wsL_law (wsV RL 57 RX9 yX9_outs wsX9_outs) := goodIn_app (goodIn_of _ (by decide +kernel)) ggL_law_X9_outs
set_option maxRecDepth 20000 in
theorem ggL_law_X8_undo : GoodIn wsL_law wsX8_undo := goodIn_r _ [558, 15, 559, 560, 561, 562, 14, 563, 57, 136, 135, 134, 53, 52, 564, 565, 566, 56, 567, 67, 65, 507, 508, 509, 2, 510, 511, 1178, 1179, 1180, 1181, 1182, 1183, 1184, 1185, 1186, 1187, 1188, 1189, 1190, 1191, 1192, 1211, 1212, 1213, 1214, 1215, 1216, 1217, 1218, 1219, 1220, 1221, 1222, 1223, 1224, 1225, 1251, 1252, 1253, 1254] (by decide +kernel) (by decide +kernel)
set_option maxRecDepth 20000 in
theorem gL_law_X8_undo : GoodIn wsL_law (wsV RL 58 RX8 yX8_undo wsX8_undo) := goodIn_app (goodIn_of _ (by decide +kernel)) ggL_law_X8_undo
set_option maxRecDepth 20000 in
theorem ggL_law_X9_undo : GoodIn wsL_law wsX9_undo := goodIn_r _ [571, 112, 177, 178, 179, 5, 180, 114, 1193, 1194, 1195, 1196, 1197, 1198, 1199, 1200, 1201, 1202, 1203, 1204, 1205, 1206, 1207, 1208, 1209, 1210] (by decide +kernel) (by decide +kernel)
set_option maxRecDepth 20000 in
theorem gL_law_X9_undo : GoodIn wsL_law (wsV RL 61 RX9 yX9_undo wsX9_undo) := goodIn_app (goodIn_of _ (by decide +kernel)) ggL_law_X9_undo
set_option maxRecDepth 20000 in
theorem ggL_law_X8_of : GoodIn wsL_law wsX8_of := goodIn_r _ [575, 15, 503, 504, 505, 2, 506, 127, 150, 151, 152, 156, 157, 158, 159, 160, 576, 577, 578, 14, 579, 50, 52, 135, 134, 580, 527, 528, 529, 53, 348, 349, 350, 351, 132, 48, 352, 353, 230, 354, 47, 49, 355, 356, 357, 358, 359, 360, 361, 362, 346, 347, 363, 229, 231, 581, 582, 583, 584, 51, 1178, 1179, 1180, 1181, 1182, 1183, 1184, 1185, 1186, 1187, 1188, 1189, 1190, 1191, 1192, 1211, 1212, 1213, 1214, 1215, 1216, 1217, 1218, 1219, 1220, 1221, 1222, 1223, 1224, 1225] (by decide +kernel) (by decide +kernel)
set_option maxRecDepth 20000 in
theorem gL_law_X8_of : GoodIn wsL_law (wsV RL 62 RX8 yX8_of wsX8_of) := goodIn_app (goodIn_of _ (by decide +kernel)) ggL_law_X8_of
set_option maxRecDepth 20000 in
theorem ggL_law_X9_of : GoodIn wsL_law wsX9_of := goodIn_r _ [588, 516, 517, 518, 5, 519, 112, 174, 175, 176, 589, 590, 591, 592, 593, 594, 595, 596, 435, 436, 437, 438, 439, 440, 441, 442, 443, 444, 445, 446, 447, 448, 449, 450, 451, 452, 453, 177, 178, 179, 180, 114, 1193, 1194, 1195, 1196, 1197, 1198, 1199, 1200, 1201, 1202, 1203, 1204, 1205, 1206, 1207, 1208, 1209, 1210] (by decide +kernel) (by decide +kernel)
set_option maxRecDepth 20000 in
theorem gL_law_X9_of : GoodIn wsL_law (wsV RL 65 RX9 yX9_of wsX9_of) := goodIn_app (goodIn_of _ (by decide +kernel)) ggL_law_X9_of
set_option maxRecDepth 20000 in
theorem ggL_law_X8_about : GoodIn wsL_law wsX8_about := goodIn_r _ [600, 15, 538, 539, 540, 2, 541, 149, 150, 151, 152, 156, 157, 158, 159, 160, 601, 602, 603, 14, 604, 47, 48, 49, 605, 544, 545, 546, 134, 1178, 1179, 1180, 1181, 1182, 1183, 1184, 1185, 1186, 1187, 1188, 1189, 1190, 1191, 1192, 1211, 1212, 1213, 1214, 1215, 1216, 1217, 1218, 1219, 1220, 1221, 1222, 1223, 1224, 1225] (by decide +kernel) (by decide +kernel)
set_option maxRecDepth 20000 in
theorem gL_law_X8_about : GoodIn wsL_law (wsV RL 66 RX8 yX8_about wsX8_about) := goodIn_app (goodIn_of _ (by decide +kernel)) ggL_law_X8_about
set_option maxRecDepth 20000 in
theorem ggL_law_X9_about : GoodIn wsL_law wsX9_about := goodIn_r _ [609, 551, 552, 553, 5, 554, 112, 174, 175, 176, 610, 611, 612, 613, 177, 178, 179, 180, 114, 1193, 1194, 1195, 1196, 1197, 1198, 1199, 1200, 1201, 1202, 1203, 1204, 1205, 1206, 1207, 1208, 1209, 1210] (by decide +kernel) (by decide +kernel)
set_option maxRecDepth 20000 in
theorem gL_law_X9_about : GoodIn wsL_law (wsV RL 69 RX9 yX9_about wsX9_about) := goodIn_app (goodIn_of _ (by decide +kernel)) ggL_law_X9_about

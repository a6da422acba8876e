set_option maxRecDepth 20000 in
theorem ggL_law_X8_smell : GoodIn wsL_law wsX8_smell := goodIn_r _ [617, 15, 559, 618, 153, 154, 2, 155, 150, 151, 152, 156, 157, 158, 159, 160, 619, 349, 350, 14, 351, 132, 48, 352, 353, 230, 354, 47, 49, 355, 356, 357, 358, 1178, 1179, 1180, 1181, 1182, 1183, 1184, 1185, 1186, 1187, 1188, 1189, 1190, 1191, 1192, 1211, 1212, 1213, 1214, 1215, 1216, 1217, 1218, 1219, 1220, 1221, 1222, 1223, 1224, 1225] (by decide +kernel) (by decide +kernel)
set_option maxRecDepth 20000 in
theorem gL_law_X8_smell : GoodIn wsL_law (wsV RL 70 RX8 yX8_smell wsX8_smell) := goodIn_app (goodIn_of _ (by decide +kernel)) ggL_law_X8_smell
set_option maxRecDepth 20000 in
theorem ggL_law_X9_smell : GoodIn wsL_law wsX9_smell := goodIn_r _ [623, 112, 174, 175, 5, 176, 438, 439, 440, 441, 435, 436, 437, 442, 443, 444, 445, 446, 447, 448, 449, 450, 177, 178, 179, 180, 114, 1193, 1194, 1195, 1196, 1197, 1198, 1199, 1200, 1201, 1202, 1203, 1204, 1205, 1206, 1207, 1208, 1209, 1210] (by decide +kernel) (by decide +kernel)
set_option maxRecDepth 20000 in
theorem gL_law_X9_smell : GoodIn wsL_law (wsV RL 73 RX9 yX9_smell wsX9_smell) := goodIn_app (goodIn_of _ (by decide +kernel)) ggL_law_X9_smell
set_option maxRecDepth 20000 in
theorem ggL_law_X8_then : GoodIn wsL_law wsX8_then := goodIn_r _ [627, 24, 503, 504, 505, 2, 506, 15, 127, 150, 151, 152, 156, 157, 158, 159, 160, 628, 629, 630, 23, 631, 78, 632, 633, 634, 635, 72, 636, 346, 230, 347, 637, 638, 639, 640, 641, 642, 349, 350, 14, 351, 132, 48, 352, 353, 354, 47, 49, 355, 356, 357, 358, 643, 360, 361, 362, 363, 229, 231, 1178, 1179, 1180, 1181, 1182, 1183, 1184, 1185, 1186, 1187, 1188, 1189, 1190, 1191, 1192, 1211, 1212, 1213, 1214, 1215, 1216, 1217, 1218, 1219, 1220, 1221, 1222, 1223, 1224, 1225, 1226, 1227, 1228, 1229, 1230, 1231, 1232] (by decide +kernel) (by decide +kernel)
set_option maxRecDepth 20000 in
theorem gL_law_X8_then : GoodIn wsL_law (wsV RL 74 RX8 yX8_then wsX8_then) := goodIn_app (goodIn_of _ (by decide +kernel)) ggL_law_X8_then
set_option maxRecDepth 20000 in
theorem ggL_law_X9_then : GoodIn wsL_law wsX9_then := goodIn_r _ [647, 112, 516, 517, 518, 5, 519, 174, 175, 176, 177, 178, 179, 180, 114, 648, 649, 650, 651, 652, 653, 654, 655, 431, 432, 433, 434, 435, 436, 437, 438, 439, 440, 441, 442, 443, 444, 445, 446, 447, 448, 449, 450, 451, 452, 453, 454, 455, 456, 457, 1193, 1194, 1195, 1196, 1197, 1198, 1199, 1200, 1201, 1202, 1203, 1204, 1205, 1206, 1207, 1208, 1209, 1210] (by decide +kernel) (by decide +kernel)
set_option maxRecDepth 20000 in
theorem gL_law_X9_then : GoodIn wsL_law (wsV RL 77 RX9 yX9_then wsX9_then) := goodIn_app (goodIn_of _ (by decide +kernel)) ggL_law_X9_then
set_option maxRecDepth 20000 in
theorem ggL_law_X8_when : GoodIn wsL_law wsX8_when := goodIn_r _ [659, 24, 15, 502, 503, 504, 505, 2, 506, 127, 150, 151, 152, 156, 157, 158, 159, 160, 660, 661, 662, 23, 663, 78, 632, 634, 635, 637, 638, 639, 640, 72, 641, 642, 349, 350, 14, 351, 132, 48, 352, 353, 230, 354, 47, 49, 355, 356, 357, 358, 643, 360, 361, 362, 346, 347, 363, 229, 231, 664, 665, 666, 667, 1178, 1179, 1180, 1181, 1182, 1183, 1184, 1185, 1186, 1187, 1188, 1189, 1190, 1191, 1192, 1211, 1212, 1213, 1214, 1215, 1216, 1217, 1218, 1219, 1220, 1221, 1222, 1223, 1224, 1225, 1226, 1227, 1228, 1229, 1230, 1231, 1232] (by decide +kernel) (by decide +kernel)
set_option maxRecDepth 20000 in
theorem gL_law_X8_when : GoodIn wsL_law (wsV RL 78 RX8 yX8_when wsX8_when) := goodIn_app (goodIn_of _ (by decide +kernel)) ggL_law_X8_when
set_option maxRecDepth 20000 in
theorem ggL_law_X9_when : GoodIn wsL_law wsX9_when := goodIn_r _ [671, 672, 516, 517, 518, 5, 519, 112, 174, 175, 176, 177, 178, 179, 180, 114, 648, 649, 650, 651, 673, 674, 675, 676, 435, 436, 437, 652, 653, 654, 655, 431, 432, 433, 434, 438, 439, 440, 441, 442, 443, 444, 445, 446, 447, 448, 449, 450, 451, 452, 453, 454, 455, 456, 457, 1193, 1194, 1195, 1196, 1197, 1198, 1199, 1200, 1201, 1202, 1203, 1204, 1205, 1206, 1207, 1208, 1209, 1210] (by decide +kernel) (by decide +kernel)
set_option maxRecDepth 20000 in
theorem gL_law_X9_when : GoodIn wsL_law (wsV RL 81 RX9 yX9_when wsX9_when) := goodIn_app (goodIn_of _ (by decide +kernel)) ggL_law_X9_when
set_option maxRecDepth 20000 in
theorem ggL_law_X8_right : GoodIn wsL_law wsX8_right := goodIn_r _ [680, 24, 681, 682, 683, 23, 684, 685, 686, 687, 688, 78, 689, 632, 633, 634, 73, 635, 637, 638, 639, 640, 72, 641, 642, 349, 350, 14, 351, 132, 48, 352, 353, 230, 354, 47, 49, 355, 356, 357, 358, 643, 360, 361, 362, 346, 347, 363, 229, 231, 664, 665, 666, 667, 690, 691, 692, 693, 694, 1178, 1179, 1180, 1181, 1182, 1183, 1184, 1185, 1186, 1187, 1188, 1189, 1190, 1191, 1192, 1226, 1227, 1228, 1229, 1230, 1231, 1232, 1211, 1212, 1213, 1214, 1215, 1216, 1217, 1218, 1219, 1220, 1221, 1222, 1223, 1224, 1225] (by decide +kernel) (by decide +kernel)
set_option maxRecDepth 20000 in
theorem gL_law_X8_right : GoodIn wsL_law (wsV RL 82 RX8 yX8_right wsX8_right) := goodIn_app (goodIn_of _ (by decide +kernel)) ggL_law_X8_right
set_option maxRecDepth 20000 in
theorem ggL_law_X9_right : GoodIn wsL_law wsX9_right := goodIn_r _ [698, 699, 700, 701, 5, 702, 112, 435, 436, 437, 1193, 1194, 1195, 1196, 1197, 1198, 1199, 1200, 1201, 1202, 1203, 1204, 1205, 1206, 1207, 1208, 1209, 1210] (by decide +kernel) (by decide +kernel)
set_option maxRecDepth 20000 in
theorem gL_law_X9_right : GoodIn wsL_law (wsV RL 85 RX9 yX9_right wsX9_right) := goodIn_app (goodIn_of _ (by decide +kernel)) ggL_law_X9_right
set_option maxRecDepth 20000 in
theorem ggL_law_X8_ends : GoodIn wsL_law wsX8_ends := goodIn_r _ [706, 24, 150, 151, 2, 152, 156, 157, 158, 159, 160, 707, 708, 709, 23, 710, 685, 686, 687, 688, 78, 689, 632, 633, 634, 73, 635, 637, 638, 639, 640, 72, 641, 642, 349, 350, 14, 351, 132, 48, 352, 353, 230, 354, 47, 49, 355, 356, 357, 358, 643, 360, 361, 362, 346, 347, 363, 229, 231, 664, 665, 666, 667, 690, 691, 692, 693, 694, 681, 682, 683, 684, 1178, 1179, 1180, 1181, 1182, 1183, 1184, 1185, 1186, 1187, 1188, 1189, 1190, 1191, 1192, 1226, 1227, 1228, 1229, 1230, 1231, 1232, 1211, 1212, 1213, 1214, 1215, 1216, 1217, 1218, 1219, 1220, 1221, 1222, 1223, 1224, 1225] (by decide +kernel) (by decide +kernel)
set_option maxRecDepth 20000 in
theorem gL_law_X8_ends : GoodIn wsL_law (wsV RL 86 RX8 yX8_ends wsX8_ends) := goodIn_app (goodIn_of _ (by decide +kernel)) ggL_law_X8_ends
set_option maxRecDepth 20000 in
theorem ggL_law_X9_ends : GoodIn wsL_law wsX9_ends := goodIn_r _ [714, 112, 174, 175, 5, 176, 177, 178, 179, 180, 114, 648, 649, 650, 651, 699, 700, 701, 702, 435, 436, 437, 495, 496, 497, 652, 653, 654, 655, 431, 432, 433, 434, 438, 439, 440, 441, 442, 443, 444, 445, 446, 447, 448, 449, 450, 451, 452, 453, 454, 455, 456, 457, 1193, 1194, 1195, 1196, 1197, 1198, 1199, 1200, 1201, 1202, 1203, 1204, 1205, 1206, 1207, 1208, 1209, 1210] (by decide +kernel) (by decide +kernel)
set_option maxRecDepth 20000 in
theorem gL_law_X9_ends : GoodIn wsL_law (wsV RL 89 RX9 yX9_ends wsX9_ends) := goodIn_app (goodIn_of _ (by decide +kernel)) ggL_law_X9_ends
set_option maxRecDepth 20000 in
theorem ggL_law_X8_way : GoodIn wsL_law wsX8_way := goodIn_r _ [718, 28, 153, 154, 2, 155, 150, 151, 152, 719, 720, 721, 722, 160, 723, 724, 725, 27, 726, 727, 83, 85, 728, 729, 84, 730, 731, 349, 350, 14, 351, 132, 48, 352, 353, 230, 354, 47, 49, 355, 356, 357, 358, 732, 733, 734, 735, 736, 737, 738, 739, 740, 741, 742, 743, 744, 745, 746, 747, 748, 749, 750, 751, 752, 753, 754, 1178, 1179, 1180, 1181, 1182, 1183, 1184, 1185, 1186, 1187, 1188, 1189, 1190, 1191, 1192, 1233, 1234, 1235, 1236, 1211, 1212, 1213, 1214, 1215, 1216, 1217, 1218, 1219, 1220, 1221, 1222, 1223, 1224, 1225] (by decide +kernel) (by decide +kernel)
set_option maxRecDepth 20000 in
theorem gL_law_X8_way : GoodIn wsL_law (wsV RL 90 RX8 yX8_way wsX8_way) := goodIn_app (goodIn_of _ (by decide +kernel)) ggL_law_X8_way
set_option maxRecDepth 20000 in
theorem ggL_law_X9_way : GoodIn wsL_law wsX9_way := goodIn_r _ [758, 118, 119, 174, 175, 5, 176, 759, 760, 761, 762, 177, 178, 179, 180, 114, 763, 764, 765, 766, 672, 767, 768, 769, 770, 112, 771, 772, 773, 438, 439, 440, 441, 435, 436, 437, 442, 443, 444, 445, 446, 447, 448, 449, 450, 774, 775, 776, 777, 1193, 1194, 1195, 1196, 1197, 1198, 1199, 1200, 1201, 1202, 1203, 1204, 1205, 1206, 1207, 1208, 1209, 1210] (by decide +kernel) (by decide +kernel)
set_option maxRecDepth 20000 in
theorem gL_law_X9_way : GoodIn wsL_law (wsV RL 93 RX9 yX9_way wsX9_way) := goodIn_app (goodIn_of _ (by decide +kernel)) ggL_law_X9_way
set_option maxRecDepth 20000 in
theorem ggL_law_X8_home : GoodIn wsL_law wsX8_home := goodIn_r _ [781, 24, 503, 504, 505, 2, 506, 15, 127, 150, 151, 152, 156, 157, 158, 159, 160, 782, 783, 784, 23, 785, 786, 661, 662, 663, 78, 632, 634, 635, 637, 638, 639, 640, 72, 641, 642, 349, 350, 14, 351, 132, 48, 352, 353, 230, 354, 47, 49, 355, 356, 357, 358, 643, 360, 361, 362, 346, 347, 363, 229, 231, 664, 665, 666, 667, 1178, 1179, 1180, 1181, 1182, 1183, 1184, 1185, 1186, 1187, 1188, 1189, 1190, 1191, 1192, 1211, 1212, 1213, 1214, 1215, 1216, 1217, 1218, 1219, 1220, 1221, 1222, 1223, 1224, 1225, 1226, 1227, 1228, 1229, 1230, 1231, 1232] (by decide +kernel) (by decide +kernel)
set_option maxRecDepth 20000 in
theorem gL_law_X8_home : GoodIn wsL_law (wsV RL 94 RX8 yX8_home wsX8_home) := goodIn_app (goodIn_of _ (by decide +kernel)) ggL_law_X8_home
set_option maxRecDepth 20000 in
theorem ggL_law_X9_home : GoodIn wsL_law wsX9_home := goodIn_r _ [790, 112, 516, 517, 518, 5, 519, 174, 175, 176, 177, 178, 179, 180, 114, 648, 649, 650, 651, 673, 674, 675, 676, 672, 435, 436, 437, 652, 653, 654, 655, 431, 432, 433, 434, 438, 439, 440, 441, 442, 443, 444, 445, 446, 447, 448, 449, 450, 451, 452, 453, 454, 455, 456, 457, 1193, 1194, 1195, 1196, 1197, 1198, 1199, 1200, 1201, 1202, 1203, 1204, 1205, 1206, 1207, 1208, 1209, 1210] (by decide +kernel) (by decide +kernel)
set_option maxRecDepth 20000 in
theorem gL_law_X9_home : GoodIn wsL_law (wsV RL 97 RX9 yX9_home wsX9_home) := goodIn_app (goodIn_of _ (by decide +kernel)) ggL_law_X9_home
set_option maxRecDepth 20000 in
theorem ggL_law_X8_quiet : GoodIn wsL_law wsX8_quiet := goodIn_r _ [794, 24, 150, 151, 2, 152, 156, 157, 158, 159, 160, 795, 796, 797, 23, 798, 78, 799, 800, 801, 802, 803, 804, 805, 806, 807, 808, 809, 810, 689, 632, 633, 72, 635, 811, 527, 528, 14, 529, 53, 637, 638, 639, 640, 641, 642, 349, 350, 351, 132, 48, 352, 353, 230, 354, 47, 49, 355, 356, 357, 358, 643, 360, 361, 362, 346, 347, 363, 229, 231, 1178, 1179, 1180, 1181, 1182, 1183, 1184, 1185, 1186, 1187, 1188, 1189, 1190, 1191, 1192, 1226, 1227, 1228, 1229, 1230, 1231, 1232, 1211, 1212, 1213, 1214, 1215, 1216, 1217, 1218, 1219, 1220, 1221, 1222, 1223, 1224, 1225] (by decide +kernel) (by decide +kernel)
set_option maxRecDepth 20000 in
theorem gL_law_X8_quiet : GoodIn wsL_law (wsV RL 98 RX8 yX8_quiet wsX8_quiet) := goodIn_app (goodIn_of _ (by decide +kernel)) ggL_law_X8_quiet
set_option maxRecDepth 20000 in
theorem ggL_law_X9_quiet : GoodIn wsL_law wsX9_quiet := goodIn_r _ [815, 112, 174, 175, 5, 176, 177, 178, 179, 180, 114, 648, 649, 650, 651, 652, 653, 654, 655, 431, 432, 433, 434, 435, 436, 437, 438, 439, 440, 441, 442, 443, 444, 445, 446, 447, 448, 449, 450, 451, 452, 453, 454, 455, 456, 457, 495, 496, 497, 1193, 1194, 1195, 1196, 1197, 1198, 1199, 1200, 1201, 1202, 1203, 1204, 1205, 1206, 1207, 1208, 1209, 1210] (by decide +kernel) (by decide +kernel)
set_option maxRecDepth 20000 in
theorem gL_law_X9_quiet : GoodIn wsL_law (wsV RL 101 RX9 yX9_quiet wsX9_quiet) := goodIn_app (goodIn_of _ (by decide +kernel)) ggL_law_X9_quiet
set_option maxRecDepth 20000 in
theorem ggL_law_X8_marry : GoodIn wsL_law wsX8_marry := goodIn_r _ [819, 32, 820, 821, 503, 504, 505, 2, 506, 15, 127, 150, 151, 152, 719, 720, 721, 722, 160, 822, 823, 824, 31, 825, 90, 826, 827, 828, 829, 92, 830, 831, 832, 833, 834, 91, 835, 369, 370, 371, 836, 837, 838, 839, 840, 841, 842, 353, 230, 354, 1178, 1179, 1180, 1181, 1182, 1183, 1184, 1185, 1186, 1187, 1188, 1189, 1190, 1191, 1192, 1237, 1238, 1239, 1240, 1211, 1212, 1213, 1214, 1215, 1216, 1217, 1218, 1219, 1220, 1221, 1222, 1223, 1224, 1225] (by decide +kernel) (by decide +kernel)
set_option maxRecDepth 20000 in
theorem gL_law_X8_marry : GoodIn wsL_law (wsV RL 102 RX8 yX8_marry wsX8_marry) := goodIn_app (goodIn_of _ (by decide +kernel)) ggL_law_X8_marry
set_option maxRecDepth 20000 in
theorem ggL_law_X9_marry : GoodIn wsL_law wsX9_marry := goodIn_r _ [846, 121, 516, 517, 518, 5, 519, 112, 174, 175, 176, 759, 760, 761, 762, 177, 178, 179, 180, 114, 847, 848, 849, 850, 120, 851, 852, 853, 854, 855, 856, 857, 858, 859, 860, 861, 862, 863, 864, 865, 866, 867, 868, 869, 870, 445, 446, 447, 1193, 1194, 1195, 1196, 1197, 1198, 1199, 1200, 1201, 1202, 1203, 1204, 1205, 1206, 1207, 1208, 1209, 1210] (by decide +kernel) (by decide +kernel)
set_option maxRecDepth 20000 in
theorem gL_law_X9_marry : GoodIn wsL_law (wsV RL 105 RX9 yX9_marry wsX9_marry) := goodIn_app (goodIn_of _ (by decide +kernel)) ggL_law_X9_marry
set_option maxRecDepth 20000 in
theorem ggL_law_X8_seen : GoodIn wsL_law wsX8_seen := goodIn_r _ [874, 15, 875, 503, 504, 505, 2, 506, 127, 150, 151, 152, 156, 157, 158, 159, 160, 876, 877, 878, 879, 880, 881, 467, 468, 56, 469, 377, 66, 161, 162, 163, 164, 165, 882, 883, 884, 885, 65, 886, 475, 476, 477, 67, 1178, 1179, 1180, 1181, 1182, 1183, 1184, 1185, 1186, 1187, 1188, 1189, 1190, 1191, 1192, 1211, 1212, 1213, 1214, 1215, 1216, 1217, 1218, 1219, 1220, 1221, 1222, 1223, 1224, 1225, 1251, 1252, 1253, 1254] (by decide +kernel) (by decide +kernel)
set_option maxRecDepth 20000 in
theorem gL_law_X8_seen : GoodIn wsL_law (wsV RL 106 RX8 yX8_seen wsX8_seen) := goodIn_app (goodIn_of _ (by decide +kernel)) ggL_law_X8_seen
set_option maxRecDepth 20000 in
theorem ggL_law_X9_seen : GoodIn wsL_law wsX9_seen := goodIn_r _ [890, 112, 516, 517, 518, 5, 519, 174, 175, 176, 177, 178, 179, 180, 114, 1193, 1194, 1195, 1196, 1197, 1198, 1199, 1200, 1201, 1202, 1203, 1204, 1205, 1206, 1207, 1208, 1209, 1210] (by decide +kernel) (by decide +kernel)
set_option maxRecDepth 20000 in
theorem gL_law_X9_seen : GoodIn wsL_law (wsV RL 109 RX9 yX9_seen wsX9_seen) := goodIn_app (goodIn_of _ (by decide +kernel)) ggL_law_X9_seen
set_option maxRecDepth 20000 in
theorem ggL_law_X8_wills : GoodIn wsL_law wsX8_wills := goodIn_r _ [894, 24, 503, 504, 505, 2, 506, 15, 127, 150, 151, 152, 156, 157, 158, 159, 160, 895, 896, 897, 23, 898, 78, 632, 633, 634, 637, 638, 639, 640, 72, 641, 642, 349, 350, 14, 351, 132, 48, 352, 353, 230, 354, 47, 49, 355, 356, 357, 358, 643, 360, 361, 362, 346, 347, 363, 229, 231, 899, 900, 901, 902, 903, 904, 905, 565, 566, 56, 567, 67, 65, 1178, 1179, 1180, 1181, 1182, 1183, 1184, 1185, 1186, 1187, 1188, 1189, 1190, 1191, 1192, 1211, 1212, 1213, 1214, 1215, 1216, 1217, 1218, 1219, 1220, 1221, 1222, 1223, 1224, 1225, 1226, 1227, 1228, 1229, 1230, 1231, 1232, 1251, 1252, 1253, 1254] (by decide +kernel) (by decide +kernel)
set_option maxRecDepth 20000 in
theorem gL_law_X8_wills : GoodIn wsL_law (wsV RL 110 RX8 yX8_wills wsX8_wills) := goodIn_app (goodIn_of _ (by decide +kernel)) ggL_law_X8_wills
set_option maxRecDepth 20000 in
theorem ggL_law_X9_wills : GoodIn wsL_law wsX9_wills := goodIn_r _ [909, 516, 517, 518, 5, 519, 112, 174, 175, 176, 177, 178, 179, 180, 114, 910, 911, 912, 913, 648, 649, 650, 651, 673, 674, 675, 676, 672, 435, 436, 437, 652, 653, 654, 655, 431, 432, 433, 434, 438, 439, 440, 441, 442, 443, 444, 445, 446, 447, 448, 449, 450, 451, 452, 453, 454, 455, 456, 457, 1193, 1194, 1195, 1196, 1197, 1198, 1199, 1200, 1201, 1202, 1203, 1204, 1205, 1206, 1207, 1208, 1209, 1210] (by decide +kernel) (by decide +kernel)
set_option maxRecDepth 20000 in
theorem gL_law_X9_wills : GoodIn wsL_law (wsV RL 113 RX9 yX9_wills wsX9_wills) := goodIn_app (goodIn_of _ (by decide +kernel)) ggL_law_X9_wills
set_option maxRecDepth 20000 in
theorem ggL_law_X8_note : GoodIn wsL_law wsX8_note := goodIn_r _ [917, 15, 918, 538, 539, 540, 2, 541, 149, 150, 151, 152, 156, 157, 158, 159, 160, 876, 877, 878, 879, 880, 881, 467, 468, 56, 469, 377, 66, 161, 162, 163, 164, 165, 882, 883, 884, 885, 65, 886, 475, 476, 477, 67, 1178, 1179, 1180, 1181, 1182, 1183, 1184, 1185, 1186, 1187, 1188, 1189, 1190, 1191, 1192, 1211, 1212, 1213, 1214, 1215, 1216, 1217, 1218, 1219, 1220, 1221, 1222, 1223, 1224, 1225, 1251, 1252, 1253, 1254] (by decide +kernel) (by decide +kernel)
set_option maxRecDepth 20000 in
theorem gL_law_X8_note : GoodIn wsL_law (wsV RL 114 RX8 yX8_note wsX8_note) := goodIn_app (goodIn_of _ (by decide +kernel)) ggL_law_X8_note
set_option maxRecDepth 20000 in
theorem ggL_law_X9_note : GoodIn wsL_law wsX9_note := goodIn_r _ [922, 112, 551, 552, 553, 5, 554, 174, 175, 176, 177, 178, 179, 180, 114, 1193, 1194, 1195, 1196, 1197, 1198, 1199, 1200, 1201, 1202, 1203, 1204, 1205, 1206, 1207, 1208, 1209, 1210] (by decide +kernel) (by decide +kernel)
set_option maxRecDepth 20000 in
theorem gL_law_X9_note : GoodIn wsL_law (wsV RL 118 RX9 yX9_note wsX9_note) := goodIn_app (goodIn_of _ (by decide +kernel)) ggL_law_X9_note
set_option maxRecDepth 20000 in
theorem ggL_law_X8_mark : GoodIn wsL_law wsX8_mark := goodIn_r _ [926, 15, 927, 503, 504, 505, 2, 506, 127, 150, 151, 152, 156, 157, 158, 159, 160, 876, 877, 878, 879, 880, 881, 467, 468, 56, 469, 377, 66, 161, 162, 163, 164, 165, 882, 883, 884, 885, 65, 886, 475, 476, 477, 67, 1178, 1179, 1180, 1181, 1182, 1183, 1184, 1185, 1186, 1187, 1188, 1189, 1190, 1191, 1192, 1211, 1212, 1213, 1214, 1215, 1216, 1217, 1218, 1219, 1220, 1221, 1222, 1223, 1224, 1225, 1251, 1252, 1253, 1254] (by decide +kernel) (by decide +kernel)
set_option maxRecDepth 20000 in
theorem gL_law_X8_mark : GoodIn wsL_law (wsV RL 119 RX8 yX8_mark wsX8_mark) := goodIn_app (goodIn_of _ (by decide +kernel)) ggL_law_X8_mark
set_option maxRecDepth 20000 in
theorem ggL_law_X9_mark : GoodIn wsL_law wsX9_mark := goodIn_r _ [931, 112, 516, 517, 518, 5, 519, 174, 175, 176, 177, 178, 179, 180, 114, 1193, 1194, 1195, 1196, 1197, 1198, 1199, 1200, 1201, 1202, 1203, 1204, 1205, 1206, 1207, 1208, 1209, 1210] (by decide +kernel) (by decide +kernel)
set_option maxRecDepth 20000 in
theorem gL_law_X9_mark : GoodIn wsL_law (wsV RL 122 RX9 yX9_mark wsX9_mark) := goodIn_app (goodIn_of _ (by decide +kernel)) ggL_law_X9_mark
set_option maxRecDepth 20000 in
theorem ggL_law_X8_forget : GoodIn wsL_law wsX8_forget := goodIn_r _ [935, 15, 875, 918, 927, 880, 150, 151, 2, 152, 156, 157, 158, 159, 160, 1178, 1179, 1180, 1181, 1182, 1183, 1184, 1185, 1186, 1187, 1188, 1189, 1190, 1191, 1192, 1211, 1212, 1213, 1214, 1215, 1216, 1217, 1218, 1219, 1220, 1221, 1222, 1223, 1224, 1225, 1251, 1252, 1253, 1254] (by decide +kernel) (by decide +kernel)
set_option maxRecDepth 20000 in
theorem gL_law_X8_forget : GoodIn wsL_law (wsV RL 123 RX8 yX8_forget wsX8_forget) := goodIn_app (goodIn_of _ (by decide +kernel)) ggL_law_X8_forget
set_option maxRecDepth 20000 in
theorem ggL_law_X9_forget : GoodIn wsL_law wsX9_forget := goodIn_r _ [939, 112, 174, 175, 5, 176, 177, 178, 179, 180, 114, 1193, 1194, 1195, 1196, 1197, 1198, 1199, 1200, 1201, 1202, 1203, 1204, 1205, 1206, 1207, 1208, 1209, 1210] (by decide +kernel) (by decide +kernel)
set_option maxRecDepth 20000 in
theorem gL_law_X9_forget : GoodIn wsL_law (wsV RL 126 RX9 yX9_forget wsX9_forget) := goodIn_app (goodIn_of _ (by decide +kernel)) ggL_law_X9_forget

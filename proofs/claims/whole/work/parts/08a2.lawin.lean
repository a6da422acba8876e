set_option maxRecDepth 20000 in
theorem lwin_18 : ∀ w ∈ wsL_law_r18, w ∈ lw_tbl := fun w h => (goodIn_p wsL_law_r18 [1113, 1117, 1121, 1125, 1129, 1133] (by decide +kernel) (by decide +kernel) w h).1
set_option maxRecDepth 20000 in
theorem lwin_19 : ∀ w ∈ wsL_law_r19, w ∈ lw_tbl := fun w h => (goodIn_p wsL_law_r19 [1137, 1140, 1144, 1147, 1150, 1153, 1156] (by decide +kernel) (by decide +kernel) w h).1
set_option maxRecDepth 20000 in
theorem lwin_20 : ∀ w ∈ wsL_law_r20, w ∈ lw_tbl := fun w h => (goodIn_p wsL_law_r20 [1160, 575, 579, 583, 587, 591] (by decide +kernel) (by decide +kernel) w h).1
set_option maxRecDepth 20000 in
theorem lwin_21 : ∀ w ∈ wsL_law_r21, w ∈ lw_tbl := fun w h => (goodIn_p wsL_law_r21 [596, 600, 1164, 1168, 1171, 604] (by decide +kernel) (by decide +kernel) w h).1
set_option maxRecDepth 20000 in
theorem lwin_22 : ∀ w ∈ wsL_law_r22, w ∈ lw_tbl := fun w h => (goodIn_p wsL_law_r22 [608, 612, 1175, 1179, 616] (by decide +kernel) (by decide +kernel) w h).1
set_option maxRecDepth 20000 in
theorem lwin_23 : ∀ w ∈ wsL_law_r23, w ∈ lw_tbl := fun w h => (goodIn_p wsL_law_r23 [620, 1183, 625, 629, 634, 1187] (by decide +kernel) (by decide +kernel) w h).1
set_option maxRecDepth 20000 in
theorem lwin_24 : ∀ w ∈ wsL_law_r24, w ∈ lw_tbl := fun w h => (goodIn_p wsL_law_r24 [1191, 638, 642, 646, 1195, 650] (by decide +kernel) (by decide +kernel) w h).1
set_option maxRecDepth 20000 in
theorem lwin_25 : ∀ w ∈ wsL_law_r25, w ∈ lw_tbl := fun w h => (goodIn_p wsL_law_r25 [654, 659, 1199, 1203, 1207] (by decide +kernel) (by decide +kernel) w h).1
set_option maxRecDepth 20000 in
theorem lwin_26 : ∀ w ∈ wsL_law_r26, w ∈ lw_tbl := fun w h => (goodIn_p wsL_law_r26 [663, 667, 1211, 1215, 672, 1219] (by decide +kernel) (by decide +kernel) w h).1
set_option maxRecDepth 20000 in
theorem lwin_27 : ∀ w ∈ wsL_law_r27, w ∈ lw_tbl := fun w h => (goodIn_p wsL_law_r27 [677, 681, 685, 1223] (by decide +kernel) (by decide +kernel) w h).1
set_option maxRecDepth 20000 in
theorem lwin_28 : ∀ w ∈ wsL_law_r28, w ∈ lw_tbl := fun w h => (goodIn_p wsL_law_r28 [1227, 1231, 692, 696, 700, 1235] (by decide +kernel) (by decide +kernel) w h).1
set_option maxRecDepth 20000 in
theorem lwin_29 : ∀ w ∈ wsL_law_r29, w ∈ lw_tbl := fun w h => (goodIn_p wsL_law_r29 [1239, 704, 708, 712, 716] (by decide +kernel) (by decide +kernel) w h).1
set_option maxRecDepth 20000 in
theorem lwin_30 : ∀ w ∈ wsL_law_r30, w ∈ lw_tbl := fun w h => (goodIn_p wsL_law_r30 [1244, 1248, 720, 724, 1252, 728] (by decide +kernel) (by decide +kernel) w h).1
set_option maxRecDepth 20000 in
theorem lwin_31 : ∀ w ∈ wsL_law_r31, w ∈ lw_tbl := fun w h => (goodIn_p wsL_law_r31 [732, 736, 742, 745, 749] (by decide +kernel) (by decide +kernel) w h).1
set_option maxRecDepth 20000 in
theorem lwin_32 : ∀ w ∈ wsL_law_r32, w ∈ lw_tbl := fun w h => (goodIn_p wsL_law_r32 [753, 757, 761, 1256, 1260, 1264] (by decide +kernel) (by decide +kernel) w h).1
set_option maxRecDepth 20000 in
theorem lwin_33 : ∀ w ∈ wsL_law_r33, w ∈ lw_tbl := fun w h => (goodIn_p wsL_law_r33 [1268, 1271, 1275, 765, 769, 1279] (by decide +kernel) (by decide +kernel) w h).1
set_option maxRecDepth 20000 in
theorem lwin_34 : ∀ w ∈ wsL_law_r34, w ∈ lw_tbl := fun w h => (goodIn_p wsL_law_r34 [774, 778, 781, 788, 1283] (by decide +kernel) (by decide +kernel) w h).1

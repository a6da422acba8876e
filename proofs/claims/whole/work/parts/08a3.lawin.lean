set_option maxRecDepth 20000 in
theorem lwin_35 : ∀ w ∈ wsL_law_r35, w ∈ lw_tbl := fun w h => (goodIn_p wsL_law_r35 [793, 797, 800, 804, 809] (by decide +kernel) (by decide +kernel) w h).1
set_option maxRecDepth 20000 in
theorem lwin_36 : ∀ w ∈ wsL_law_r36, w ∈ lw_tbl := fun w h => (goodIn_p wsL_law_r36 [1287, 1291, 1295, 1299, 1303] (by decide +kernel) (by decide +kernel) w h).1
set_option maxRecDepth 20000 in
theorem lwin_37 : ∀ w ∈ wsL_law_r37, w ∈ lw_tbl := fun w h => (goodIn_p wsL_law_r37 [1307, 1311, 814, 818, 823] (by decide +kernel) (by decide +kernel) w h).1
set_option maxRecDepth 20000 in
theorem lwin_38 : ∀ w ∈ wsL_law_r38, w ∈ lw_tbl := fun w h => (goodIn_p wsL_law_r38 [1315, 828, 832, 836, 1319] (by decide +kernel) (by decide +kernel) w h).1
set_option maxRecDepth 20000 in
theorem lwin_39 : ∀ w ∈ wsL_law_r39, w ∈ lw_tbl := fun w h => (goodIn_p wsL_law_r39 [1323, 841, 1327, 845, 1331, 849] (by decide +kernel) (by decide +kernel) w h).1
set_option maxRecDepth 20000 in
theorem lwin_40 : ∀ w ∈ wsL_law_r40, w ∈ lw_tbl := fun w h => (goodIn_p wsL_law_r40 [1335, 853, 857, 861, 1339] (by decide +kernel) (by decide +kernel) w h).1
set_option maxRecDepth 20000 in
theorem lwin_41 : ∀ w ∈ wsL_law_r41, w ∈ lw_tbl := fun w h => (goodIn_p wsL_law_r41 [1343, 867, 871, 876, 1347] (by decide +kernel) (by decide +kernel) w h).1
set_option maxRecDepth 20000 in
theorem lwin_42 : ∀ w ∈ wsL_law_r42, w ∈ lw_tbl := fun w h => (goodIn_p wsL_law_r42 [1351, 881, 885, 889, 1355] (by decide +kernel) (by decide +kernel) w h).1
set_option maxRecDepth 20000 in
theorem lwin_43 : ∀ w ∈ wsL_law_r43, w ∈ lw_tbl := fun w h => (goodIn_p wsL_law_r43 [1359, 894, 898, 1363, 903, 906] (by decide +kernel) (by decide +kernel) w h).1
set_option maxRecDepth 20000 in
theorem lwin_44 : ∀ w ∈ wsL_law_r44, w ∈ lw_tbl := fun w h => (goodIn_p wsL_law_r44 [1367, 1371, 910, 915, 919, 1375] (by decide +kernel) (by decide +kernel) w h).1
set_option maxRecDepth 20000 in
theorem lwin_45 : ∀ w ∈ wsL_law_r45, w ∈ lw_tbl := fun w h => (goodIn_p wsL_law_r45 [1379, 923, 928] (by decide +kernel) (by decide +kernel) w h).1
set_option maxRecDepth 20000 in
theorem lwin_46 : ∀ w ∈ wsL_law_r46, w ∈ lw_tbl := fun w h => (goodIn_p wsL_law_r46 [1383, 942, 1395, 946] (by decide +kernel) (by decide +kernel) w h).1
set_option maxRecDepth 20000 in
theorem lwin_47 : ∀ w ∈ wsL_law_r47, w ∈ lw_tbl := fun w h => (goodIn_p wsL_law_r47 [1399, 950, 1403, 954, 1407, 958] (by decide +kernel) (by decide +kernel) w h).1
set_option maxRecDepth 20000 in
theorem lwin_48 : ∀ w ∈ wsL_law_r48, w ∈ lw_tbl := fun w h => (goodIn_p wsL_law_r48 [962, 967, 1411, 1415, 1419] (by decide +kernel) (by decide +kernel) w h).1
set_option maxRecDepth 20000 in
theorem lwin_49 : ∀ w ∈ wsL_law_r49, w ∈ lw_tbl := fun w h => (goodIn_p wsL_law_r49 [971, 977, 984, 1423] (by decide +kernel) (by decide +kernel) w h).1
set_option maxRecDepth 20000 in
theorem lwin_50 : ∀ w ∈ wsL_law_r50, w ∈ lw_tbl := fun w h => (goodIn_p wsL_law_r50 [1429] (by decide +kernel) (by decide +kernel) w h).1
set_option maxRecDepth 20000 in
theorem lwin_wsX80 : ∀ w ∈ wsX80, w ∈ lw_tbl := by decide +kernel
set_option maxRecDepth 20000 in
theorem lwin_wsX90 : ∀ w ∈ wsX90, w ∈ lw_tbl := by decide +kernel
set_option maxRecDepth 20000 in
theorem lwin_wsX40 : ∀ w ∈ wsX40, w ∈ lw_tbl := by decide +kernel
set_option maxRecDepth 20000 in
theorem lwin_wsX10 : ∀ w ∈ wsX10, w ∈ lw_tbl := by decide +kernel
set_option maxRecDepth 20000 in
theorem lwin_wsX50 : ∀ w ∈ wsX50, w ∈ lw_tbl := by decide +kernel
set_option maxRecDepth 20000 in
theorem lwin_wsX00 : ∀ w ∈ wsX00, w ∈ lw_tbl := by decide +kernel
set_option maxRecDepth 20000 in
theorem lwin_wsX20 : ∀ w ∈ wsX20, w ∈ lw_tbl := by decide +kernel
set_option maxRecDepth 20000 in
theorem lwin_wsX70 : ∀ w ∈ wsX70, w ∈ lw_tbl := by decide +kernel
set_option maxRecDepth 20000 in
theorem lwin_wsX60 : ∀ w ∈ wsX60, w ∈ lw_tbl := by decide +kernel
theorem wsL_law_in : ∀ w ∈ wsL_law, w ∈ lw_tbl := List.forall_mem_append.mpr ⟨List.forall_mem_append.mpr ⟨List.forall_mem_append.mpr ⟨List.forall_mem_append.mpr ⟨List.forall_mem_append.mpr ⟨List.forall_mem_append.mpr ⟨List.forall_mem_append.mpr ⟨List.forall_mem_append.mpr ⟨List.forall_mem_append.mpr ⟨List.forall_mem_append.mpr ⟨List.forall_mem_append.mpr ⟨lwin_1, List.forall_mem_append.mpr ⟨lwin_2, List.forall_mem_append.mpr ⟨lwin_3, List.forall_mem_append.mpr ⟨lwin_4, List.forall_mem_append.mpr ⟨lwin_5, List.forall_mem_append.mpr ⟨lwin_6, List.forall_mem_append.mpr ⟨lwin_7, List.forall_mem_append.mpr ⟨lwin_8, List.forall_mem_append.mpr ⟨lwin_9, List.forall_mem_append.mpr ⟨lwin_10, List.forall_mem_append.mpr ⟨lwin_11, List.forall_mem_append.mpr ⟨lwin_12, List.forall_mem_append.mpr ⟨lwin_13, List.forall_mem_append.mpr ⟨lwin_14, List.forall_mem_append.mpr ⟨lwin_15, List.forall_mem_append.mpr ⟨lwin_16, List.forall_mem_append.mpr ⟨lwin_17, List.forall_mem_append.mpr ⟨lwin_18, List.forall_mem_append.mpr ⟨lwin_19, List.forall_mem_append.mpr ⟨lwin_20, List.forall_mem_append.mpr ⟨lwin_21, List.forall_mem_append.mpr ⟨lwin_22, List.forall_mem_append.mpr ⟨lwin_23, List.forall_mem_append.mpr ⟨lwin_24, List.forall_mem_append.mpr ⟨lwin_25, List.forall_mem_append.mpr ⟨lwin_26, List.forall_mem_append.mpr ⟨lwin_27, List.forall_mem_append.mpr ⟨lwin_28, List.forall_mem_append.mpr ⟨lwin_29, List.forall_mem_append.mpr ⟨lwin_30, List.forall_mem_append.mpr ⟨lwin_31, List.forall_mem_append.mpr ⟨lwin_32, List.forall_mem_append.mpr ⟨lwin_33, List.forall_mem_append.mpr ⟨lwin_34, List.forall_mem_append.mpr ⟨lwin_35, List.forall_mem_append.mpr ⟨lwin_36, List.forall_mem_append.mpr ⟨lwin_37, List.forall_mem_append.mpr ⟨lwin_38, List.forall_mem_append.mpr ⟨lwin_39, List.forall_mem_append.mpr ⟨lwin_40, List.forall_mem_append.mpr ⟨lwin_41, List.forall_mem_append.mpr ⟨lwin_42, List.forall_mem_append.mpr ⟨lwin_43, List.forall_mem_append.mpr ⟨lwin_44, List.forall_mem_append.mpr ⟨lwin_45, List.forall_mem_append.mpr ⟨lwin_46, List.forall_mem_append.mpr ⟨lwin_47, List.forall_mem_append.mpr ⟨lwin_48, List.forall_mem_append.mpr ⟨lwin_49, lwin_50⟩⟩⟩⟩⟩⟩⟩⟩⟩⟩⟩⟩⟩⟩⟩⟩⟩⟩⟩⟩⟩⟩⟩⟩⟩⟩⟩⟩⟩⟩⟩⟩⟩⟩⟩⟩⟩⟩⟩⟩⟩⟩⟩⟩⟩⟩⟩⟩⟩, lwin_wsX80⟩, lwin_wsX90⟩, lwin_wsX40⟩, lwin_wsX10⟩, lwin_wsX50⟩, lwin_wsX00⟩, lwin_wsX20⟩, lwin_wsX70⟩, lwin_wsX60⟩, fun _ h => absurd h List.not_mem_nil⟩

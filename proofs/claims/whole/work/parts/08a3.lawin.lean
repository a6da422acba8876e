set_option maxRecDepth 20000 in
theorem lwin_35 : ∀ w ∈ wsL_law_r35, w ∈ lw_tbl := fun w h => (goodIn_p wsL_law_r35 [794, 798, 802, 806] (by decide +kernel) (by decide +kernel) w h).1
set_option maxRecDepth 20000 in
theorem lwin_36 : ∀ w ∈ wsL_law_r36, w ∈ lw_tbl := fun w h => (goodIn_p wsL_law_r36 [811, 1289, 1293, 1297, 1301, 1305] (by decide +kernel) (by decide +kernel) w h).1
set_option maxRecDepth 20000 in
theorem lwin_37 : ∀ w ∈ wsL_law_r37, w ∈ lw_tbl := fun w h => (goodIn_p wsL_law_r37 [1309, 1313, 816, 820, 825] (by decide +kernel) (by decide +kernel) w h).1
set_option maxRecDepth 20000 in
theorem lwin_38 : ∀ w ∈ wsL_law_r38, w ∈ lw_tbl := fun w h => (goodIn_p wsL_law_r38 [1317, 830, 834, 838, 1321] (by decide +kernel) (by decide +kernel) w h).1
set_option maxRecDepth 20000 in
theorem lwin_39 : ∀ w ∈ wsL_law_r39, w ∈ lw_tbl := fun w h => (goodIn_p wsL_law_r39 [1325, 843, 1329, 847, 1333] (by decide +kernel) (by decide +kernel) w h).1
set_option maxRecDepth 20000 in
theorem lwin_40 : ∀ w ∈ wsL_law_r40, w ∈ lw_tbl := fun w h => (goodIn_p wsL_law_r40 [851, 1337, 855, 859, 863] (by decide +kernel) (by decide +kernel) w h).1
set_option maxRecDepth 20000 in
theorem lwin_41 : ∀ w ∈ wsL_law_r41, w ∈ lw_tbl := fun w h => (goodIn_p wsL_law_r41 [1341, 1345, 869, 873, 878, 1349] (by decide +kernel) (by decide +kernel) w h).1
set_option maxRecDepth 20000 in
theorem lwin_42 : ∀ w ∈ wsL_law_r42, w ∈ lw_tbl := fun w h => (goodIn_p wsL_law_r42 [1353, 883, 887, 891, 1357] (by decide +kernel) (by decide +kernel) w h).1
set_option maxRecDepth 20000 in
theorem lwin_43 : ∀ w ∈ wsL_law_r43, w ∈ lw_tbl := fun w h => (goodIn_p wsL_law_r43 [1361, 896, 900, 1365, 905, 908] (by decide +kernel) (by decide +kernel) w h).1
set_option maxRecDepth 20000 in
theorem lwin_44 : ∀ w ∈ wsL_law_r44, w ∈ lw_tbl := fun w h => (goodIn_p wsL_law_r44 [1369, 1373, 912, 917, 921] (by decide +kernel) (by decide +kernel) w h).1
set_option maxRecDepth 20000 in
theorem lwin_45 : ∀ w ∈ wsL_law_r45, w ∈ lw_tbl := fun w h => (goodIn_p wsL_law_r45 [1377, 1381, 925, 930] (by decide +kernel) (by decide +kernel) w h).1
set_option maxRecDepth 20000 in
theorem lwin_46 : ∀ w ∈ wsL_law_r46, w ∈ lw_tbl := fun w h => (goodIn_p wsL_law_r46 [1385, 944, 1397] (by decide +kernel) (by decide +kernel) w h).1
set_option maxRecDepth 20000 in
theorem lwin_47 : ∀ w ∈ wsL_law_r47, w ∈ lw_tbl := fun w h => (goodIn_p wsL_law_r47 [948, 1401, 952, 1405, 956, 1409] (by decide +kernel) (by decide +kernel) w h).1
set_option maxRecDepth 20000 in
theorem lwin_48 : ∀ w ∈ wsL_law_r48, w ∈ lw_tbl := fun w h => (goodIn_p wsL_law_r48 [960, 964, 969, 1413, 1417, 1421] (by decide +kernel) (by decide +kernel) w h).1
set_option maxRecDepth 20000 in
theorem lwin_49 : ∀ w ∈ wsL_law_r49, w ∈ lw_tbl := fun w h => (goodIn_p wsL_law_r49 [973, 979, 986, 1425] (by decide +kernel) (by decide +kernel) w h).1
set_option maxRecDepth 20000 in
theorem lwin_50 : ∀ w ∈ wsL_law_r50, w ∈ lw_tbl := fun w h => (goodIn_p wsL_law_r50 [1431] (by decide +kernel) (by decide +kernel) w h).1
set_option maxRecDepth 20000 in
theorem lwin_wsX80 : ∀ w ∈ wsX80, w ∈ lw_tbl := by decide +kernel
set_option maxRecDepth 20000 in
theorem lwin_wsX90 : ∀ w ∈ wsX90, w ∈ lw_tbl := by decide +kernel
set_option maxRecDepth 20000 in
theorem lwin_wsX40 : ∀ w ∈ wsX40, w ∈ lw_tbl := by decide +kernel
set_option maxRecDepth 20000 in
theorem lwin_wsX10 : ∀ w ∈ wsX10, w ∈ lw_tbl := by decide +kernel
set_option maxRecDepth 20000 in
theorem lwin_wsX50 : ∀ w ∈ wsX50, w ∈ lw_tbl := by decide +kernel
set_option maxRecDepth 20000 in
theorem lwin_wsX00 : ∀ w ∈ wsX00, w ∈ lw_tbl := by decide +kernel
set_option maxRecDepth 20000 in
theorem lwin_wsX20 : ∀ w ∈ wsX20, w ∈ lw_tbl := by decide +kernel
set_option maxRecDepth 20000 in
theorem lwin_wsX70 : ∀ w ∈ wsX70, w ∈ lw_tbl := by decide +kernel
set_option maxRecDepth 20000 in
theorem lwin_wsX60 : ∀ w ∈ wsX60, w ∈ lw_tbl := by decide +kernel
theorem wsL_law_in : ∀ w ∈ wsL_law, w ∈ lw_tbl := List.forall_mem_append.mpr ⟨List.forall_mem_append.mpr ⟨List.forall_mem_append.mpr ⟨List.forall_mem_append.mpr ⟨List.forall_mem_append.mpr ⟨List.forall_mem_append.mpr ⟨List.forall_mem_append.mpr ⟨List.forall_mem_append.mpr ⟨List.forall_mem_append.mpr ⟨List.forall_mem_append.mpr ⟨List.forall_mem_append.mpr ⟨lwin_1, List.forall_mem_append.mpr ⟨lwin_2, List.forall_mem_append.mpr ⟨lwin_3, List.forall_mem_append.mpr ⟨lwin_4, List.forall_mem_append.mpr ⟨lwin_5, List.forall_mem_append.mpr ⟨lwin_6, List.forall_mem_append.mpr ⟨lwin_7, List.forall_mem_append.mpr ⟨lwin_8, List.forall_mem_append.mpr ⟨lwin_9, List.forall_mem_append.mpr ⟨lwin_10, List.forall_mem_append.mpr ⟨lwin_11, List.forall_mem_append.mpr ⟨lwin_12, List.forall_mem_append.mpr ⟨lwin_13, List.forall_mem_append.mpr ⟨lwin_14, List.forall_mem_append.mpr ⟨lwin_15, List.forall_mem_append.mpr ⟨lwin_16, List.forall_mem_append.mpr ⟨lwin_17, List.forall_mem_append.mpr ⟨lwin_18, List.forall_mem_append.mpr ⟨lwin_19, List.forall_mem_append.mpr ⟨lwin_20, List.forall_mem_append.mpr ⟨lwin_21, List.forall_mem_append.mpr ⟨lwin_22, List.forall_mem_append.mpr ⟨lwin_23, List.forall_mem_append.mpr ⟨lwin_24, List.forall_mem_append.mpr ⟨lwin_25, List.forall_mem_append.mpr ⟨lwin_26, List.forall_mem_append.mpr ⟨lwin_27, List.forall_mem_append.mpr ⟨lwin_28, List.forall_mem_append.mpr ⟨lwin_29, List.forall_mem_append.mpr ⟨lwin_30, List.forall_mem_append.mpr ⟨lwin_31, List.forall_mem_append.mpr ⟨lwin_32, List.forall_mem_append.mpr ⟨lwin_33, List.forall_mem_append.mpr ⟨lwin_34, List.forall_mem_append.mpr ⟨lwin_35, List.forall_mem_append.mpr ⟨lwin_36, List.forall_mem_append.mpr ⟨lwin_37, List.forall_mem_append.mpr ⟨lwin_38, List.forall_mem_append.mpr ⟨lwin_39, List.forall_mem_append.mpr ⟨lwin_40, List.forall_mem_append.mpr ⟨lwin_41, List.forall_mem_append.mpr ⟨lwin_42, List.forall_mem_append.mpr ⟨lwin_43, List.forall_mem_append.mpr ⟨lwin_44, List.forall_mem_append.mpr ⟨lwin_45, List.forall_mem_append.mpr ⟨lwin_46, List.forall_mem_append.mpr ⟨lwin_47, List.forall_mem_append.mpr ⟨lwin_48, List.forall_mem_append.mpr ⟨lwin_49, lwin_50⟩⟩⟩⟩⟩⟩⟩⟩⟩⟩⟩⟩⟩⟩⟩⟩⟩⟩⟩⟩⟩⟩⟩⟩⟩⟩⟩⟩⟩⟩⟩⟩⟩⟩⟩⟩⟩⟩⟩⟩⟩⟩⟩⟩⟩⟩⟩⟩⟩, lwin_wsX80⟩, lwin_wsX90⟩, lwin_wsX40⟩, lwin_wsX10⟩, lwin_wsX50⟩, lwin_wsX00⟩, lwin_wsX20⟩, lwin_wsX70⟩, lwin_wsX60⟩, fun _ h => absurd h List.not_mem_nil⟩

theorem dX1_firstLapse_13 : decode cX1_firstLapse 13 = .ok (.aload_n 0, 1) := by decide +kernel
theorem dX1_firstLapse_14 : decode cX1_firstLapse 14 = .ok (.getfield 9, 3) := by decide +kernel
theorem dX1_firstLapse_17 : decode cX1_firstLapse 17 = .ok (.iload_n 3, 1) := by decide +kernel
theorem dX1_firstLapse_18 : decode cX1_firstLapse 18 = .ok (.iaload, 1) := by decide +kernel
theorem dX1_firstLapse_19 : decode cX1_firstLapse 19 = .ok (.iload_n 1, 1) := by decide +kernel
theorem dX1_firstLapse_20 : decode cX1_firstLapse 20 = .ok (.if_icmp .lt 5, 3) := by decide +kernel
theorem dX1_firstLapse_23 : decode cX1_firstLapse 23 = .ok (.iload_n 3, 1) := by decide +kernel
theorem dX1_firstLapse_24 : decode cX1_firstLapse 24 = .ok (.ireturn, 1) := by decide +kernel
theorem dX1_firstLapse_25 : decode cX1_firstLapse 25 = .ok (.iinc 3 1, 3) := by decide +kernel
theorem dX1_firstLapse_28 : decode cX1_firstLapse 28 = .ok (.goto (-26), 3) := by decide +kernel
theorem dX1_firstLapse_31 : decode cX1_firstLapse 31 = .ok (.iconst (-1), 1) := by decide +kernel
theorem dX1_firstLapse_32 : decode cX1_firstLapse 32 = .ok (.ireturn, 1) := by decide +kernel
set_option maxRecDepth 20000 in
theorem ggX1_reckonLapses_X1_reckon : GoodIn wsX1_reckonLapses wsX1_reckon := goodIn_r _ [12, 1, 13, 14, 15, 16, 17, 18, 19, 20, 21, 22, 23, 24, 25, 26, 27, 28, 29, 30, 31, 32, 33, 34, 35, 36, 37, 38, 39, 40, 45, 46, 47, 48, 49, 50, 51, 52, 53, 54, 55, 56, 57, 58, 59, 60, 61, 62, 63, 64, 65, 66] (by decide +kernel) (by decide +kernel)
set_option maxRecDepth 20000 in
theorem gX1_reckonLapses_X1_reckon : GoodIn wsX1_reckonLapses (wsV RX1 58 RX1 yX1_reckon wsX1_reckon) := goodIn_app (goodIn_of _ (by decide +kernel)) ggX1_reckonLapses_X1_reckon
set_option maxRecDepth 20000 in
theorem ggX1_reckonLapses_X1_firstLapse : GoodIn wsX1_reckonLapses wsX1_firstLapse := goodIn_r _ [44, 13, 45, 46, 47, 48, 49, 50, 51] (by decide +kernel) (by decide +kernel)
set_option maxRecDepth 20000 in
theorem gX1_reckonLapses_X1_firstLapse : GoodIn wsX1_reckonLapses (wsV RX1 71 RX1 yX1_firstLapse wsX1_firstLapse) := goodIn_app (goodIn_of _ (by decide +kernel)) ggX1_reckonLapses_X1_firstLapse
theorem dX1_reckonLapses_0 : decode cX1_reckonLapses 0 = .ok (.iconst 0, 1) := by decide +kernel
theorem dX1_reckonLapses_1 : decode cX1_reckonLapses 1 = .ok (.istore_n 2, 1) := by decide +kernel
theorem dX1_reckonLapses_2 : decode cX1_reckonLapses 2 = .ok (.iload_n 2, 1) := by decide +kernel
theorem dX1_reckonLapses_3 : decode cX1_reckonLapses 3 = .ok (.aload_n 0, 1) := by decide +kernel
theorem dX1_reckonLapses_4 : decode cX1_reckonLapses 4 = .ok (.getfield 30, 3) := by decide +kernel
theorem dX1_reckonLapses_7 : decode cX1_reckonLapses 7 = .ok (.getfield 74, 3) := by decide +kernel
theorem dX1_reckonLapses_10 : decode cX1_reckonLapses 10 = .ok (.if_icmp .ge 59, 3) := by decide +kernel
theorem dX1_reckonLapses_13 : decode cX1_reckonLapses 13 = .ok (.aload_n 0, 1) := by decide +kernel
theorem dX1_reckonLapses_14 : decode cX1_reckonLapses 14 = .ok (.aload_n 0, 1) := by decide +kernel
theorem dX1_reckonLapses_15 : decode cX1_reckonLapses 15 = .ok (.getfield 30, 3) := by decide +kernel
theorem dX1_reckonLapses_18 : decode cX1_reckonLapses 18 = .ok (.getfield 49, 3) := by decide +kernel
theorem dX1_reckonLapses_21 : decode cX1_reckonLapses 21 = .ok (.iload_n 2, 1) := by decide +kernel
theorem dX1_reckonLapses_22 : decode cX1_reckonLapses 22 = .ok (.iaload, 1) := by decide +kernel
theorem dX1_reckonLapses_23 : decode cX1_reckonLapses 23 = .ok (.aload_n 0, 1) := by decide +kernel
theorem dX1_reckonLapses_24 : decode cX1_reckonLapses 24 = .ok (.getfield 30, 3) := by decide +kernel
theorem dX1_reckonLapses_27 : decode cX1_reckonLapses 27 = .ok (.getfield 52, 3) := by decide +kernel
theorem dX1_reckonLapses_30 : decode cX1_reckonLapses 30 = .ok (.iload_n 2, 1) := by decide +kernel
theorem dX1_reckonLapses_31 : decode cX1_reckonLapses 31 = .ok (.iaload, 1) := by decide +kernel
theorem dX1_reckonLapses_32 : decode cX1_reckonLapses 32 = .ok (.aload_n 0, 1) := by decide +kernel
theorem dX1_reckonLapses_33 : decode cX1_reckonLapses 33 = .ok (.getfield 30, 3) := by decide +kernel
theorem dX1_reckonLapses_36 : decode cX1_reckonLapses 36 = .ok (.getfield 55, 3) := by decide +kernel
theorem dX1_reckonLapses_39 : decode cX1_reckonLapses 39 = .ok (.iload_n 1, 1) := by decide +kernel
theorem dX1_reckonLapses_40 : decode cX1_reckonLapses 40 = .ok (.invokevirtual 58, 3) := by decide +kernel
theorem dX1_reckonLapses_43 : decode cX1_reckonLapses 43 = .ok (.aload_n 0, 1) := by decide +kernel
theorem dX1_reckonLapses_44 : decode cX1_reckonLapses 44 = .ok (.getfield 15, 3) := by decide +kernel
theorem dX1_reckonLapses_47 : decode cX1_reckonLapses 47 = .ok (.iload_n 2, 1) := by decide +kernel
theorem dX1_reckonLapses_48 : decode cX1_reckonLapses 48 = .ok (.aload_n 0, 1) := by decide +kernel
theorem dX1_reckonLapses_49 : decode cX1_reckonLapses 49 = .ok (.aload_n 0, 1) := by decide +kernel
theorem dX1_reckonLapses_50 : decode cX1_reckonLapses 50 = .ok (.getfield 30, 3) := by decide +kernel
theorem dX1_reckonLapses_53 : decode cX1_reckonLapses 53 = .ok (.getfield 62, 3) := by decide +kernel
theorem dX1_reckonLapses_56 : decode cX1_reckonLapses 56 = .ok (.iload_n 2, 1) := by decide +kernel
theorem dX1_reckonLapses_57 : decode cX1_reckonLapses 57 = .ok (.iaload, 1) := by decide +kernel
theorem dX1_reckonLapses_58 : decode cX1_reckonLapses 58 = .ok (.iload_n 1, 1) := by decide +kernel
theorem dX1_reckonLapses_59 : decode cX1_reckonLapses 59 = .ok (.invokevirtual 71, 3) := by decide +kernel
theorem dX1_reckonLapses_62 : decode cX1_reckonLapses 62 = .ok (.iastore, 1) := by decide +kernel
theorem dX1_reckonLapses_63 : decode cX1_reckonLapses 63 = .ok (.iinc 2 1, 3) := by decide +kernel
theorem dX1_reckonLapses_66 : decode cX1_reckonLapses 66 = .ok (.goto (-64), 3) := by decide +kernel
theorem dX1_reckonLapses_69 : decode cX1_reckonLapses 69 = .ok (.return_, 1) := by decide +kernel
theorem dX1_holdingSides_0 : decode cX1_holdingSides 0 = .ok (.iconst 0, 1) := by decide +kernel
theorem dX1_holdingSides_1 : decode cX1_holdingSides 1 = .ok (.istore_n 2, 1) := by decide +kernel
theorem dX1_holdingSides_2 : decode cX1_holdingSides 2 = .ok (.iconst 0, 1) := by decide +kernel
theorem dX1_holdingSides_3 : decode cX1_holdingSides 3 = .ok (.istore_n 3, 1) := by decide +kernel
theorem dX1_holdingSides_4 : decode cX1_holdingSides 4 = .ok (.iload_n 3, 1) := by decide +kernel
theorem dX1_holdingSides_5 : decode cX1_holdingSides 5 = .ok (.aload_n 0, 1) := by decide +kernel
theorem dX1_holdingSides_6 : decode cX1_holdingSides 6 = .ok (.getfield 30, 3) := by decide +kernel
theorem dX1_holdingSides_9 : decode cX1_holdingSides 9 = .ok (.getfield 74, 3) := by decide +kernel
theorem dX1_holdingSides_12 : decode cX1_holdingSides 12 = .ok (.if_icmp .ge 43, 3) := by decide +kernel
theorem dX1_holdingSides_15 : decode cX1_holdingSides 15 = .ok (.aload_n 0, 1) := by decide +kernel
theorem dX1_holdingSides_16 : decode cX1_holdingSides 16 = .ok (.getfield 15, 3) := by decide +kernel
theorem dX1_holdingSides_19 : decode cX1_holdingSides 19 = .ok (.iload_n 3, 1) := by decide +kernel
theorem dX1_holdingSides_20 : decode cX1_holdingSides 20 = .ok (.iaload, 1) := by decide +kernel
theorem dX1_holdingSides_21 : decode cX1_holdingSides 21 = .ok (.iconst (-1), 1) := by decide +kernel
theorem dX1_holdingSides_22 : decode cX1_holdingSides 22 = .ok (.if_icmp .eq 13, 3) := by decide +kernel
theorem dX1_holdingSides_25 : decode cX1_holdingSides 25 = .ok (.aload_n 0, 1) := by decide +kernel
theorem dX1_holdingSides_26 : decode cX1_holdingSides 26 = .ok (.getfield 15, 3) := by decide +kernel
theorem dX1_holdingSides_29 : decode cX1_holdingSides 29 = .ok (.iload_n 3, 1) := by decide +kernel
theorem dX1_holdingSides_30 : decode cX1_holdingSides 30 = .ok (.iaload, 1) := by decide +kernel
theorem dX1_holdingSides_31 : decode cX1_holdingSides 31 = .ok (.iload_n 1, 1) := by decide +kernel
theorem dX1_holdingSides_32 : decode cX1_holdingSides 32 = .ok (.if_icmp .le 17, 3) := by decide +kernel
theorem dX1_holdingSides_35 : decode cX1_holdingSides 35 = .ok (.iload_n 2, 1) := by decide +kernel
theorem dX1_holdingSides_36 : decode cX1_holdingSides 36 = .ok (.iconst 1, 1) := by decide +kernel
theorem dX1_holdingSides_37 : decode cX1_holdingSides 37 = .ok (.aload_n 0, 1) := by decide +kernel
theorem dX1_holdingSides_38 : decode cX1_holdingSides 38 = .ok (.getfield 30, 3) := by decide +kernel
theorem dX1_holdingSides_41 : decode cX1_holdingSides 41 = .ok (.getfield 77, 3) := by decide +kernel
theorem dX1_holdingSides_44 : decode cX1_holdingSides 44 = .ok (.iload_n 3, 1) := by decide +kernel
theorem dX1_holdingSides_45 : decode cX1_holdingSides 45 = .ok (.iaload, 1) := by decide +kernel
theorem dX1_holdingSides_46 : decode cX1_holdingSides 46 = .ok (.ishl, 1) := by decide +kernel
theorem dX1_holdingSides_47 : decode cX1_holdingSides 47 = .ok (.ior, 1) := by decide +kernel
theorem dX1_holdingSides_48 : decode cX1_holdingSides 48 = .ok (.istore_n 2, 1) := by decide +kernel
theorem dX1_holdingSides_49 : decode cX1_holdingSides 49 = .ok (.iinc 3 1, 3) := by decide +kernel
theorem dX1_holdingSides_52 : decode cX1_holdingSides 52 = .ok (.goto (-48), 3) := by decide +kernel
theorem dX1_holdingSides_55 : decode cX1_holdingSides 55 = .ok (.iload_n 2, 1) := by decide +kernel
theorem dX1_holdingSides_56 : decode cX1_holdingSides 56 = .ok (.ireturn, 1) := by decide +kernel
set_option maxRecDepth 20000 in
theorem ggX1_rightAfter_X1_reckonLapses : GoodIn wsX1_rightAfter wsX1_reckonLapses := goodIn_r _ [5, 6, 7, 8, 9, 10, 11, 12, 13, 14, 15, 4, 16, 17, 18, 19, 20, 21, 22, 23, 24, 25, 26, 27, 28, 29, 30, 31, 32, 33, 34, 35, 36, 37, 38, 39, 40, 41, 42, 43, 44, 45, 46, 47, 48, 54, 55, 56, 57, 58, 59, 60, 61, 62, 63, 64, 65, 66, 67, 68, 69, 70, 71, 72, 73, 74, 75] (by decide +kernel) (by decide +kernel)
set_option maxRecDepth 20000 in
theorem gX1_rightAfter_X1_reckonLapses : GoodIn wsX1_rightAfter (wsV RX1 80 RX1 yX1_reckonLapses wsX1_reckonLapses) := goodIn_app (goodIn_of _ (by decide +kernel)) ggX1_rightAfter_X1_reckonLapses
set_option maxRecDepth 20000 in
theorem ggX1_rightAfter_X1_holdingSides : GoodIn wsX1_rightAfter wsX1_holdingSides := goodIn_r _ [52, 6, 7, 11, 53, 54, 55, 56, 57, 58, 59, 60, 61, 62, 63, 64, 65, 66, 67, 68, 69, 70, 71, 72, 73, 74, 75] (by decide +kernel) (by decide +kernel)
set_option maxRecDepth 20000 in
theorem gX1_rightAfter_X1_holdingSides : GoodIn wsX1_rightAfter (wsV RX1 84 RX1 yX1_holdingSides wsX1_holdingSides) := goodIn_app (goodIn_of _ (by decide +kernel)) ggX1_rightAfter_X1_holdingSides
theorem dX1_rightAfter_0 : decode cX1_rightAfter 0 = .ok (.aload_n 0, 1) := by decide +kernel
theorem dX1_rightAfter_1 : decode cX1_rightAfter 1 = .ok (.iload_n 1, 1) := by decide +kernel
theorem dX1_rightAfter_2 : decode cX1_rightAfter 2 = .ok (.invokevirtual 80, 3) := by decide +kernel
theorem dX1_rightAfter_5 : decode cX1_rightAfter 5 = .ok (.aload_n 0, 1) := by decide +kernel
theorem dX1_rightAfter_6 : decode cX1_rightAfter 6 = .ok (.iload_n 1, 1) := by decide +kernel
theorem dX1_rightAfter_7 : decode cX1_rightAfter 7 = .ok (.invokevirtual 84, 3) := by decide +kernel
theorem dX1_rightAfter_10 : decode cX1_rightAfter 10 = .ok (.istore_n 2, 1) := by decide +kernel
theorem dX1_rightAfter_11 : decode cX1_rightAfter 11 = .ok (.iload_n 2, 1) := by decide +kernel
theorem dX1_rightAfter_12 : decode cX1_rightAfter 12 = .ok (.iconst 1, 1) := by decide +kernel
theorem dX1_rightAfter_13 : decode cX1_rightAfter 13 = .ok (.if_icmp .ne 7, 3) := by decide +kernel
theorem dX1_rightAfter_16 : decode cX1_rightAfter 16 = .ok (.iconst 0, 1) := by decide +kernel
theorem dX1_rightAfter_17 : decode cX1_rightAfter 17 = .ok (.goto 13, 3) := by decide +kernel
theorem dX1_rightAfter_20 : decode cX1_rightAfter 20 = .ok (.iload_n 2, 1) := by decide +kernel
theorem dX1_rightAfter_21 : decode cX1_rightAfter 21 = .ok (.iconst 2, 1) := by decide +kernel
theorem dX1_rightAfter_22 : decode cX1_rightAfter 22 = .ok (.if_icmp .ne 7, 3) := by decide +kernel
theorem dX1_rightAfter_25 : decode cX1_rightAfter 25 = .ok (.iconst 1, 1) := by decide +kernel
theorem dX1_rightAfter_26 : decode cX1_rightAfter 26 = .ok (.goto 4, 3) := by decide +kernel
theorem dX1_rightAfter_29 : decode cX1_rightAfter 29 = .ok (.iconst (-1), 1) := by decide +kernel
theorem dX1_rightAfter_30 : decode cX1_rightAfter 30 = .ok (.ireturn, 1) := by decide +kernel
set_option maxRecDepth 20000 in
theorem ggX1_endOfCase_X1_reckonLapses : GoodIn wsX1_endOfCase wsX1_reckonLapses := goodIn_r _ [5, 6, 7, 8, 9, 10, 11, 12, 13, 14, 15, 4, 16, 17, 18, 19, 20, 21, 22, 23, 24, 25, 26, 27, 28, 29, 30, 31, 32, 33, 34, 35, 36, 37, 38, 39, 40, 41, 42, 43, 44, 45, 46, 47, 48, 54, 55, 56, 57, 58, 59, 60, 61, 62, 63, 64, 65, 66, 67, 68, 69, 70, 71, 72, 73, 74, 75] (by decide +kernel) (by decide +kernel)
set_option maxRecDepth 20000 in
theorem gX1_endOfCase_X1_reckonLapses : GoodIn wsX1_endOfCase (wsV RX1 80 RX1 yX1_reckonLapses wsX1_reckonLapses) := goodIn_app (goodIn_of _ (by decide +kernel)) ggX1_endOfCase_X1_reckonLapses
set_option maxRecDepth 20000 in
theorem ggX1_endOfCase_X1_holdingSides : GoodIn wsX1_endOfCase wsX1_holdingSides := goodIn_r _ [52, 6, 7, 11, 53, 54, 55, 56, 57, 58, 59, 60, 61, 62, 63, 64, 65, 66, 67, 68, 69, 70, 71, 72, 73, 74, 75] (by decide +kernel) (by decide +kernel)
set_option maxRecDepth 20000 in
theorem gX1_endOfCase_X1_holdingSides : GoodIn wsX1_endOfCase (wsV RX1 84 RX1 yX1_holdingSides wsX1_holdingSides) := goodIn_app (goodIn_of _ (by decide +kernel)) ggX1_endOfCase_X1_holdingSides
theorem dX1_endOfCase_0 : decode cX1_endOfCase 0 = .ok (.aload_n 0, 1) := by decide +kernel
theorem dX1_endOfCase_1 : decode cX1_endOfCase 1 = .ok (.bipush 60, 2) := by decide +kernel
theorem dX1_endOfCase_3 : decode cX1_endOfCase 3 = .ok (.invokevirtual 80, 3) := by decide +kernel
theorem dX1_endOfCase_6 : decode cX1_endOfCase 6 = .ok (.iconst 0, 1) := by decide +kernel
theorem dX1_endOfCase_7 : decode cX1_endOfCase 7 = .ok (.istore_n 1, 1) := by decide +kernel
theorem dX1_endOfCase_8 : decode cX1_endOfCase 8 = .ok (.iload_n 1, 1) := by decide +kernel
theorem dX1_endOfCase_9 : decode cX1_endOfCase 9 = .ok (.bipush 60, 2) := by decide +kernel
theorem dX1_endOfCase_11 : decode cX1_endOfCase 11 = .ok (.if_icmp .gt 20, 3) := by decide +kernel
theorem dX1_endOfCase_14 : decode cX1_endOfCase 14 = .ok (.aload_n 0, 1) := by decide +kernel
theorem dX1_endOfCase_15 : decode cX1_endOfCase 15 = .ok (.iload_n 1, 1) := by decide +kernel
theorem dX1_endOfCase_16 : decode cX1_endOfCase 16 = .ok (.invokevirtual 84, 3) := by decide +kernel
theorem dX1_endOfCase_19 : decode cX1_endOfCase 19 = .ok (.iconst 3, 1) := by decide +kernel
theorem dX1_endOfCase_20 : decode cX1_endOfCase 20 = .ok (.if_icmp .eq 5, 3) := by decide +kernel
theorem dX1_endOfCase_23 : decode cX1_endOfCase 23 = .ok (.iload_n 1, 1) := by decide +kernel
theorem dX1_endOfCase_24 : decode cX1_endOfCase 24 = .ok (.ireturn, 1) := by decide +kernel
theorem dX1_endOfCase_25 : decode cX1_endOfCase 25 = .ok (.iinc 1 1, 3) := by decide +kernel
theorem dX1_endOfCase_28 : decode cX1_endOfCase 28 = .ok (.goto (-20), 3) := by decide +kernel
theorem dX1_endOfCase_31 : decode cX1_endOfCase 31 = .ok (.iconst (-1), 1) := by decide +kernel
theorem dX1_endOfCase_32 : decode cX1_endOfCase 32 = .ok (.ireturn, 1) := by decide +kernel
set_option maxRecDepth 20000 in
theorem ggX1_bestCell_X1_lapseWithin : GoodIn wsX1_bestCell wsX1_lapseWithin := goodIn_r _ [5, 6, 7, 8, 9, 10, 11, 12, 4, 13, 14, 15, 16, 17, 18, 19, 20, 21, 22, 23, 24, 25, 26, 27, 28, 29, 30, 31, 32, 33, 34, 35, 36, 37, 38, 39, 40, 41, 42, 43, 44, 45, 46, 47, 48, 49, 50, 51, 52, 53, 54, 55, 56, 57, 58, 59, 60, 61, 62, 63, 64, 65, 66, 67] (by decide +kernel) (by decide +kernel)
set_option maxRecDepth 20000 in
theorem gX1_bestCell_X1_lapseWithin : GoodIn wsX1_bestCell (wsV RX1 88 RX1 yX1_lapseWithin wsX1_lapseWithin) := goodIn_app (goodIn_of _ (by decide +kernel)) ggX1_bestCell_X1_lapseWithin
theorem dX1_bestCell_0 : decode cX1_bestCell 0 = .ok (.iconst 0, 1) := by decide +kernel
theorem dX1_bestCell_1 : decode cX1_bestCell 1 = .ok (.istore_n 2, 1) := by decide +kernel
theorem dX1_bestCell_2 : decode cX1_bestCell 2 = .ok (.iconst (-1), 1) := by decide +kernel
theorem dX1_bestCell_3 : decode cX1_bestCell 3 = .ok (.istore_n 3, 1) := by decide +kernel
theorem dX1_bestCell_4 : decode cX1_bestCell 4 = .ok (.iconst 0, 1) := by decide +kernel
theorem dX1_bestCell_5 : decode cX1_bestCell 5 = .ok (.istore 4, 2) := by decide +kernel
theorem dX1_bestCell_7 : decode cX1_bestCell 7 = .ok (.iload 4, 2) := by decide +kernel
theorem dX1_bestCell_9 : decode cX1_bestCell 9 = .ok (.bipush 25, 2) := by decide +kernel
theorem dX1_bestCell_11 : decode cX1_bestCell 11 = .ok (.if_icmp .ge 47, 3) := by decide +kernel
theorem dX1_bestCell_14 : decode cX1_bestCell 14 = .ok (.aload_n 0, 1) := by decide +kernel
theorem dX1_bestCell_15 : decode cX1_bestCell 15 = .ok (.iload_n 1, 1) := by decide +kernel
theorem dX1_bestCell_16 : decode cX1_bestCell 16 = .ok (.iload 4, 2) := by decide +kernel
theorem dX1_bestCell_18 : decode cX1_bestCell 18 = .ok (.bipush 60, 2) := by decide +kernel
theorem dX1_bestCell_20 : decode cX1_bestCell 20 = .ok (.invokevirtual 88, 3) := by decide +kernel
theorem dX1_bestCell_23 : decode cX1_bestCell 23 = .ok (.istore 5, 2) := by decide +kernel
theorem dX1_bestCell_25 : decode cX1_bestCell 25 = .ok (.iload 5, 2) := by decide +kernel
theorem dX1_bestCell_27 : decode cX1_bestCell 27 = .ok (.iconst (-1), 1) := by decide +kernel
theorem dX1_bestCell_28 : decode cX1_bestCell 28 = .ok (.if_icmp .ne 8, 3) := by decide +kernel
theorem dX1_bestCell_31 : decode cX1_bestCell 31 = .ok (.bipush 61, 2) := by decide +kernel
theorem dX1_bestCell_33 : decode cX1_bestCell 33 = .ok (.goto 5, 3) := by decide +kernel
theorem dX1_bestCell_36 : decode cX1_bestCell 36 = .ok (.iload 5, 2) := by decide +kernel
theorem dX1_bestCell_38 : decode cX1_bestCell 38 = .ok (.istore 6, 2) := by decide +kernel
theorem dX1_bestCell_40 : decode cX1_bestCell 40 = .ok (.iload 6, 2) := by decide +kernel
theorem dX1_bestCell_42 : decode cX1_bestCell 42 = .ok (.iload_n 3, 1) := by decide +kernel
theorem dX1_bestCell_43 : decode cX1_bestCell 43 = .ok (.if_icmp .le 9, 3) := by decide +kernel
theorem dX1_bestCell_46 : decode cX1_bestCell 46 = .ok (.iload 6, 2) := by decide +kernel
theorem dX1_bestCell_48 : decode cX1_bestCell 48 = .ok (.istore_n 3, 1) := by decide +kernel
theorem dX1_bestCell_49 : decode cX1_bestCell 49 = .ok (.iload 4, 2) := by decide +kernel
theorem dX1_bestCell_51 : decode cX1_bestCell 51 = .ok (.istore_n 2, 1) := by decide +kernel
theorem dX1_bestCell_52 : decode cX1_bestCell 52 = .ok (.iinc 4 1, 3) := by decide +kernel
theorem dX1_bestCell_55 : decode cX1_bestCell 55 = .ok (.goto (-48), 3) := by decide +kernel
theorem dX1_bestCell_58 : decode cX1_bestCell 58 = .ok (.iload_n 2, 1) := by decide +kernel
theorem dX1_bestCell_59 : decode cX1_bestCell 59 = .ok (.ireturn, 1) := by decide +kernel
set_option maxRecDepth 20000 in
theorem ggX1_fewestOut_J6_bitCount_0f7a4 : GoodIn wsX1_fewestOut wsJ6_bitCount_0f7a4 := goodIn_r _ [6, 7, 8, 9] (by decide +kernel) (by decide +kernel)
set_option maxRecDepth 20000 in
theorem gX1_fewestOut_J6_bitCount_0f7a4 : GoodIn wsX1_fewestOut (va_wsS RX1 94 yJ6_bitCount_0f7a4 wsJ6_bitCount_0f7a4) := goodIn_app (goodIn_of _ (by decide +kernel)) ggX1_fewestOut_J6_bitCount_0f7a4
set_option maxRecDepth 20000 in
theorem ggX1_fewestOut_X1_allHold : GoodIn wsX1_fewestOut wsX1_allHold := goodIn_r _ [14, 1, 15, 16, 17, 18, 19, 20, 21, 22, 23, 24, 25, 26, 27, 28, 13, 29, 30, 31, 32, 33, 34, 35, 36, 37, 38, 39, 40, 41, 42, 43, 44, 45, 46, 47, 48, 49, 50, 51, 52, 53, 54, 55, 56, 57, 58, 59, 60, 61, 62, 63, 64, 65, 66, 67, 68, 69, 70, 71, 72, 73, 74, 75, 76, 77] (by decide +kernel) (by decide +kernel)
set_option maxRecDepth 20000 in
theorem gX1_fewestOut_X1_allHold : GoodIn wsX1_fewestOut (wsV RX1 99 RX1 yX1_allHold wsX1_allHold) := goodIn_app (goodIn_of _ (by decide +kernel)) ggX1_fewestOut_X1_allHold
theorem dX1_fewestOut_0 : decode cX1_fewestOut 0 = .ok (.iconst (-1), 1) := by decide +kernel
theorem dX1_fewestOut_1 : decode cX1_fewestOut 1 = .ok (.istore_n 2, 1) := by decide +kernel
theorem dX1_fewestOut_2 : decode cX1_fewestOut 2 = .ok (.iconst 1, 1) := by decide +kernel
theorem dX1_fewestOut_3 : decode cX1_fewestOut 3 = .ok (.aload_n 0, 1) := by decide +kernel
theorem dX1_fewestOut_4 : decode cX1_fewestOut 4 = .ok (.getfield 30, 3) := by decide +kernel
theorem dX1_fewestOut_7 : decode cX1_fewestOut 7 = .ok (.getfield 91, 3) := by decide +kernel
theorem dX1_fewestOut_10 : decode cX1_fewestOut 10 = .ok (.ishl, 1) := by decide +kernel
theorem dX1_fewestOut_11 : decode cX1_fewestOut 11 = .ok (.iconst 1, 1) := by decide +kernel
theorem dX1_fewestOut_12 : decode cX1_fewestOut 12 = .ok (.isub, 1) := by decide +kernel
theorem dX1_fewestOut_13 : decode cX1_fewestOut 13 = .ok (.istore_n 3, 1) := by decide +kernel
theorem dX1_fewestOut_14 : decode cX1_fewestOut 14 = .ok (.iconst 0, 1) := by decide +kernel
theorem dX1_fewestOut_15 : decode cX1_fewestOut 15 = .ok (.istore 4, 2) := by decide +kernel
theorem dX1_fewestOut_17 : decode cX1_fewestOut 17 = .ok (.iload 4, 2) := by decide +kernel
theorem dX1_fewestOut_19 : decode cX1_fewestOut 19 = .ok (.iload_n 3, 1) := by decide +kernel
theorem dX1_fewestOut_20 : decode cX1_fewestOut 20 = .ok (.if_icmp .gt 55, 3) := by decide +kernel
theorem dX1_fewestOut_23 : decode cX1_fewestOut 23 = .ok (.iload_n 2, 1) := by decide +kernel
theorem dX1_fewestOut_24 : decode cX1_fewestOut 24 = .ok (.iconst (-1), 1) := by decide +kernel
theorem dX1_fewestOut_25 : decode cX1_fewestOut 25 = .ok (.if_icmp .eq 15, 3) := by decide +kernel
theorem dX1_fewestOut_28 : decode cX1_fewestOut 28 = .ok (.iload 4, 2) := by decide +kernel
theorem dX1_fewestOut_30 : decode cX1_fewestOut 30 = .ok (.invokestatic 94, 3) := by decide +kernel
theorem dX1_fewestOut_33 : decode cX1_fewestOut 33 = .ok (.iload_n 2, 1) := by decide +kernel
theorem dX1_fewestOut_34 : decode cX1_fewestOut 34 = .ok (.invokestatic 94, 3) := by decide +kernel
theorem dX1_fewestOut_37 : decode cX1_fewestOut 37 = .ok (.if_icmp .ge 7, 3) := by decide +kernel
theorem dX1_fewestOut_40 : decode cX1_fewestOut 40 = .ok (.iconst 1, 1) := by decide +kernel
theorem dX1_fewestOut_41 : decode cX1_fewestOut 41 = .ok (.goto 4, 3) := by decide +kernel
theorem dX1_fewestOut_44 : decode cX1_fewestOut 44 = .ok (.iconst 0, 1) := by decide +kernel
theorem dX1_fewestOut_45 : decode cX1_fewestOut 45 = .ok (.istore 5, 2) := by decide +kernel
theorem dX1_fewestOut_47 : decode cX1_fewestOut 47 = .ok (.iload 5, 2) := by decide +kernel
theorem dX1_fewestOut_49 : decode cX1_fewestOut 49 = .ok (.ifCond .eq 20, 3) := by decide +kernel
theorem dX1_fewestOut_52 : decode cX1_fewestOut 52 = .ok (.aload_n 0, 1) := by decide +kernel
theorem dX1_fewestOut_53 : decode cX1_fewestOut 53 = .ok (.iload_n 3, 1) := by decide +kernel
theorem dX1_fewestOut_54 : decode cX1_fewestOut 54 = .ok (.iload 4, 2) := by decide +kernel
theorem dX1_fewestOut_56 : decode cX1_fewestOut 56 = .ok (.iconst (-1), 1) := by decide +kernel
theorem dX1_fewestOut_57 : decode cX1_fewestOut 57 = .ok (.ixor, 1) := by decide +kernel
theorem dX1_fewestOut_58 : decode cX1_fewestOut 58 = .ok (.iand, 1) := by decide +kernel
theorem dX1_fewestOut_59 : decode cX1_fewestOut 59 = .ok (.iload_n 1, 1) := by decide +kernel
theorem dX1_fewestOut_60 : decode cX1_fewestOut 60 = .ok (.invokevirtual 99, 3) := by decide +kernel
theorem dX1_fewestOut_63 : decode cX1_fewestOut 63 = .ok (.ifCond .eq 6, 3) := by decide +kernel
theorem dX1_fewestOut_66 : decode cX1_fewestOut 66 = .ok (.iload 4, 2) := by decide +kernel
theorem dX1_fewestOut_68 : decode cX1_fewestOut 68 = .ok (.istore_n 2, 1) := by decide +kernel
theorem dX1_fewestOut_69 : decode cX1_fewestOut 69 = .ok (.iinc 4 1, 3) := by decide +kernel
theorem dX1_fewestOut_72 : decode cX1_fewestOut 72 = .ok (.goto (-55), 3) := by decide +kernel
theorem dX1_fewestOut_75 : decode cX1_fewestOut 75 = .ok (.iload_n 2, 1) := by decide +kernel
theorem dX1_fewestOut_76 : decode cX1_fewestOut 76 = .ok (.ireturn, 1) := by decide +kernel
set_option maxRecDepth 20000 in
theorem ggX1_allHold_X4_hasLapsed : GoodIn wsX1_allHold wsX4_hasLapsed := goodIn_r _ [11, 12, 51, 52, 53, 54, 55, 56, 57, 58, 59, 60, 61, 62, 63, 64, 65] (by decide +kernel) (by decide +kernel)
set_option maxRecDepth 20000 in
theorem gX1_allHold_X4_hasLapsed : GoodIn wsX1_allHold (wsV RX1 103 RX4 yX4_hasLapsed wsX4_hasLapsed) := goodIn_app (goodIn_of _ (by decide +kernel)) ggX1_allHold_X4_hasLapsed
set_option maxRecDepth 20000 in
theorem ggX1_allHold_X1_reckon : GoodIn wsX1_allHold wsX1_reckon := goodIn_r _ [17, 1, 5, 18, 19, 20, 21, 10, 22, 23, 24, 25, 26, 27, 28, 29, 30, 31, 32, 33, 34, 35, 36, 37, 38, 39, 40, 41, 42, 43, 44, 45, 46, 47, 48, 49, 50, 51, 52, 53, 54, 55, 56, 57, 58, 59, 60, 61, 62, 63, 64, 65] (by decide +kernel) (by decide +kernel)
set_option maxRecDepth 20000 in
theorem gX1_allHold_X1_reckon : GoodIn wsX1_allHold (wsV RX1 58 RX1 yX1_reckon wsX1_reckon) := goodIn_app (goodIn_of _ (by decide +kernel)) ggX1_allHold_X1_reckon
theorem dX1_allHold_0 : decode cX1_allHold 0 = .ok (.iconst 0, 1) := by decide +kernel
theorem dX1_allHold_1 : decode cX1_allHold 1 = .ok (.istore_n 3, 1) := by decide +kernel
theorem dX1_allHold_2 : decode cX1_allHold 2 = .ok (.iload_n 3, 1) := by decide +kernel
theorem dX1_allHold_3 : decode cX1_allHold 3 = .ok (.aload_n 0, 1) := by decide +kernel
theorem dX1_allHold_4 : decode cX1_allHold 4 = .ok (.getfield 30, 3) := by decide +kernel
theorem dX1_allHold_7 : decode cX1_allHold 7 = .ok (.getfield 74, 3) := by decide +kernel
theorem dX1_allHold_10 : decode cX1_allHold 10 = .ok (.if_icmp .ge 64, 3) := by decide +kernel
theorem dX1_allHold_13 : decode cX1_allHold 13 = .ok (.aload_n 0, 1) := by decide +kernel
theorem dX1_allHold_14 : decode cX1_allHold 14 = .ok (.getfield 30, 3) := by decide +kernel
theorem dX1_allHold_17 : decode cX1_allHold 17 = .ok (.iload_n 3, 1) := by decide +kernel
theorem dX1_allHold_18 : decode cX1_allHold 18 = .ok (.invokevirtual 103, 3) := by decide +kernel
theorem dX1_allHold_21 : decode cX1_allHold 21 = .ok (.ifCond .ne 47, 3) := by decide +kernel
theorem dX1_allHold_24 : decode cX1_allHold 24 = .ok (.aload_n 0, 1) := by decide +kernel
theorem dX1_allHold_25 : decode cX1_allHold 25 = .ok (.aload_n 0, 1) := by decide +kernel
theorem dX1_allHold_26 : decode cX1_allHold 26 = .ok (.getfield 30, 3) := by decide +kernel
theorem dX1_allHold_29 : decode cX1_allHold 29 = .ok (.getfield 49, 3) := by decide +kernel
theorem dX1_allHold_32 : decode cX1_allHold 32 = .ok (.iload_n 3, 1) := by decide +kernel
theorem dX1_allHold_33 : decode cX1_allHold 33 = .ok (.iaload, 1) := by decide +kernel
theorem dX1_allHold_34 : decode cX1_allHold 34 = .ok (.aload_n 0, 1) := by decide +kernel
theorem dX1_allHold_35 : decode cX1_allHold 35 = .ok (.getfield 30, 3) := by decide +kernel
theorem dX1_allHold_38 : decode cX1_allHold 38 = .ok (.getfield 52, 3) := by decide +kernel
theorem dX1_allHold_41 : decode cX1_allHold 41 = .ok (.iload_n 3, 1) := by decide +kernel
theorem dX1_allHold_42 : decode cX1_allHold 42 = .ok (.iaload, 1) := by decide +kernel
theorem dX1_allHold_43 : decode cX1_allHold 43 = .ok (.iload_n 1, 1) := by decide +kernel
theorem dX1_allHold_44 : decode cX1_allHold 44 = .ok (.iload_n 2, 1) := by decide +kernel
theorem dX1_allHold_45 : decode cX1_allHold 45 = .ok (.invokevirtual 58, 3) := by decide +kernel
theorem dX1_allHold_48 : decode cX1_allHold 48 = .ok (.aload_n 0, 1) := by decide +kernel
theorem dX1_allHold_49 : decode cX1_allHold 49 = .ok (.getfield 9, 3) := by decide +kernel
theorem dX1_allHold_52 : decode cX1_allHold 52 = .ok (.iload_n 2, 1) := by decide +kernel
theorem dX1_allHold_53 : decode cX1_allHold 53 = .ok (.iaload, 1) := by decide +kernel
theorem dX1_allHold_54 : decode cX1_allHold 54 = .ok (.aload_n 0, 1) := by decide +kernel
theorem dX1_allHold_55 : decode cX1_allHold 55 = .ok (.getfield 30, 3) := by decide +kernel
theorem dX1_allHold_58 : decode cX1_allHold 58 = .ok (.getfield 62, 3) := by decide +kernel
theorem dX1_allHold_61 : decode cX1_allHold 61 = .ok (.iload_n 3, 1) := by decide +kernel
theorem dX1_allHold_62 : decode cX1_allHold 62 = .ok (.iaload, 1) := by decide +kernel
theorem dX1_allHold_63 : decode cX1_allHold 63 = .ok (.if_icmp .lt 5, 3) := by decide +kernel
theorem dX1_allHold_66 : decode cX1_allHold 66 = .ok (.iconst 0, 1) := by decide +kernel
theorem dX1_allHold_67 : decode cX1_allHold 67 = .ok (.ireturn, 1) := by decide +kernel
theorem dX1_allHold_68 : decode cX1_allHold 68 = .ok (.iinc 3 1, 3) := by decide +kernel
theorem dX1_allHold_71 : decode cX1_allHold 71 = .ok (.goto (-69), 3) := by decide +kernel
theorem dX1_allHold_74 : decode cX1_allHold 74 = .ok (.iconst 1, 1) := by decide +kernel
theorem dX1_allHold_75 : decode cX1_allHold 75 = .ok (.ireturn, 1) := by decide +kernel
set_option maxRecDepth 20000 in
theorem ggX1_fittingWills_X1_reckon : GoodIn wsX1_fittingWills wsX1_reckon := goodIn_r _ [9, 1, 10, 11, 12, 13, 14, 15, 16, 17, 18, 19, 20, 21, 22, 23, 24, 25, 26, 27, 28, 29, 30, 31, 32, 33, 34, 35, 36, 37, 51, 52, 53, 54, 55, 56, 57, 58, 59, 60, 61, 62, 63, 64, 65, 66, 67, 68, 69, 70, 71, 72] (by decide +kernel) (by decide +kernel)
set_option maxRecDepth 20000 in
theorem gX1_fittingWills_X1_reckon : GoodIn wsX1_fittingWills (wsV RX1 58 RX1 yX1_reckon wsX1_reckon) := goodIn_app (goodIn_of _ (by decide +kernel)) ggX1_fittingWills_X1_reckon
set_option maxRecDepth 20000 in
theorem ggX1_fittingWills_X1_fits : GoodIn wsX1_fittingWills wsX1_fits := goodIn_r _ [41, 1, 42, 43, 10, 44, 45, 46, 47, 48, 49, 50, 51, 52, 53, 54, 55, 56, 57, 58, 59, 60, 61, 62, 63, 64, 65, 66, 67, 68, 69, 70, 71, 72, 73, 74, 75, 76] (by decide +kernel) (by decide +kernel)
set_option maxRecDepth 20000 in
theorem gX1_fittingWills_X1_fits : GoodIn wsX1_fittingWills (wsV RX1 107 RX1 yX1_fits wsX1_fits) := goodIn_app (goodIn_of _ (by decide +kernel)) ggX1_fittingWills_X1_fits
theorem dX1_fittingWills_0 : decode cX1_fittingWills 0 = .ok (.aload_n 0, 1) := by decide +kernel
theorem dX1_fittingWills_1 : decode cX1_fittingWills 1 = .ok (.aload_n 0, 1) := by decide +kernel
theorem dX1_fittingWills_2 : decode cX1_fittingWills 2 = .ok (.getfield 30, 3) := by decide +kernel
theorem dX1_fittingWills_5 : decode cX1_fittingWills 5 = .ok (.getfield 49, 3) := by decide +kernel
theorem dX1_fittingWills_8 : decode cX1_fittingWills 8 = .ok (.iload_n 1, 1) := by decide +kernel
theorem dX1_fittingWills_9 : decode cX1_fittingWills 9 = .ok (.iaload, 1) := by decide +kernel
theorem dX1_fittingWills_10 : decode cX1_fittingWills 10 = .ok (.aload_n 0, 1) := by decide +kernel
theorem dX1_fittingWills_11 : decode cX1_fittingWills 11 = .ok (.getfield 30, 3) := by decide +kernel
theorem dX1_fittingWills_14 : decode cX1_fittingWills 14 = .ok (.getfield 52, 3) := by decide +kernel
theorem dX1_fittingWills_17 : decode cX1_fittingWills 17 = .ok (.iload_n 1, 1) := by decide +kernel
theorem dX1_fittingWills_18 : decode cX1_fittingWills 18 = .ok (.iaload, 1) := by decide +kernel
theorem dX1_fittingWills_19 : decode cX1_fittingWills 19 = .ok (.aload_n 0, 1) := by decide +kernel
theorem dX1_fittingWills_20 : decode cX1_fittingWills 20 = .ok (.getfield 30, 3) := by decide +kernel
theorem dX1_fittingWills_23 : decode cX1_fittingWills 23 = .ok (.getfield 55, 3) := by decide +kernel
theorem dX1_fittingWills_26 : decode cX1_fittingWills 26 = .ok (.bipush 60, 2) := by decide +kernel
theorem dX1_fittingWills_28 : decode cX1_fittingWills 28 = .ok (.invokevirtual 58, 3) := by decide +kernel
theorem dX1_fittingWills_31 : decode cX1_fittingWills 31 = .ok (.iconst 0, 1) := by decide +kernel
theorem dX1_fittingWills_32 : decode cX1_fittingWills 32 = .ok (.istore_n 3, 1) := by decide +kernel
theorem dX1_fittingWills_33 : decode cX1_fittingWills 33 = .ok (.iconst (-1), 1) := by decide +kernel
theorem dX1_fittingWills_34 : decode cX1_fittingWills 34 = .ok (.istore 4, 2) := by decide +kernel
theorem dX1_fittingWills_36 : decode cX1_fittingWills 36 = .ok (.iconst (-1), 1) := by decide +kernel
theorem dX1_fittingWills_37 : decode cX1_fittingWills 37 = .ok (.istore 5, 2) := by decide +kernel
theorem dX1_fittingWills_39 : decode cX1_fittingWills 39 = .ok (.iconst 1, 1) := by decide +kernel
theorem dX1_fittingWills_40 : decode cX1_fittingWills 40 = .ok (.istore 6, 2) := by decide +kernel
theorem dX1_fittingWills_42 : decode cX1_fittingWills 42 = .ok (.iload 6, 2) := by decide +kernel
theorem dX1_fittingWills_44 : decode cX1_fittingWills 44 = .ok (.bipush 99, 2) := by decide +kernel
theorem dX1_fittingWills_46 : decode cX1_fittingWills 46 = .ok (.if_icmp .gt 41, 3) := by decide +kernel
theorem dX1_fittingWills_49 : decode cX1_fittingWills 49 = .ok (.aload_n 0, 1) := by decide +kernel
theorem dX1_fittingWills_50 : decode cX1_fittingWills 50 = .ok (.iload_n 1, 1) := by decide +kernel
theorem dX1_fittingWills_51 : decode cX1_fittingWills 51 = .ok (.iload 6, 2) := by decide +kernel
theorem dX1_fittingWills_53 : decode cX1_fittingWills 53 = .ok (.invokevirtual 107, 3) := by decide +kernel
theorem dX1_fittingWills_56 : decode cX1_fittingWills 56 = .ok (.ifCond .eq 25, 3) := by decide +kernel
theorem dX1_fittingWills_59 : decode cX1_fittingWills 59 = .ok (.iinc 3 1, 3) := by decide +kernel
theorem dX1_fittingWills_62 : decode cX1_fittingWills 62 = .ok (.iload 4, 2) := by decide +kernel
theorem dX1_fittingWills_64 : decode cX1_fittingWills 64 = .ok (.iconst (-1), 1) := by decide +kernel
theorem dX1_fittingWills_65 : decode cX1_fittingWills 65 = .ok (.if_icmp .ne 8, 3) := by decide +kernel
theorem dX1_fittingWills_68 : decode cX1_fittingWills 68 = .ok (.iload 6, 2) := by decide +kernel
theorem dX1_fittingWills_70 : decode cX1_fittingWills 70 = .ok (.goto 5, 3) := by decide +kernel
theorem dX1_fittingWills_73 : decode cX1_fittingWills 73 = .ok (.iload 4, 2) := by decide +kernel
theorem dX1_fittingWills_75 : decode cX1_fittingWills 75 = .ok (.istore 4, 2) := by decide +kernel
theorem dX1_fittingWills_77 : decode cX1_fittingWills 77 = .ok (.iload 6, 2) := by decide +kernel
theorem dX1_fittingWills_79 : decode cX1_fittingWills 79 = .ok (.istore 5, 2) := by decide +kernel
theorem dX1_fittingWills_81 : decode cX1_fittingWills 81 = .ok (.iinc 6 1, 3) := by decide +kernel
theorem dX1_fittingWills_84 : decode cX1_fittingWills 84 = .ok (.goto (-42), 3) := by decide +kernel
theorem dX1_fittingWills_87 : decode cX1_fittingWills 87 = .ok (.iload_n 2, 1) := by decide +kernel
theorem dX1_fittingWills_88 : decode cX1_fittingWills 88 = .ok (.ifCond .ne 7, 3) := by decide +kernel
theorem dX1_fittingWills_91 : decode cX1_fittingWills 91 = .ok (.iload_n 3, 1) := by decide +kernel
theorem dX1_fittingWills_92 : decode cX1_fittingWills 92 = .ok (.goto 15, 3) := by decide +kernel
theorem dX1_fittingWills_95 : decode cX1_fittingWills 95 = .ok (.iload_n 2, 1) := by decide +kernel
theorem dX1_fittingWills_96 : decode cX1_fittingWills 96 = .ok (.iconst 1, 1) := by decide +kernel
theorem dX1_fittingWills_97 : decode cX1_fittingWills 97 = .ok (.if_icmp .ne 8, 3) := by decide +kernel
theorem dX1_fittingWills_100 : decode cX1_fittingWills 100 = .ok (.iload 4, 2) := by decide +kernel
theorem dX1_fittingWills_102 : decode cX1_fittingWills 102 = .ok (.goto 5, 3) := by decide +kernel
theorem dX1_fittingWills_105 : decode cX1_fittingWills 105 = .ok (.iload 5, 2) := by decide +kernel
theorem dX1_fittingWills_107 : decode cX1_fittingWills 107 = .ok (.ireturn, 1) := by decide +kernel
set_option maxRecDepth 20000 in
theorem ggX1_fits_X6_at : GoodIn wsX1_fits wsX6_at := goodIn_r _ [9, 10, 11, 34, 35, 36, 37] (by decide +kernel) (by decide +kernel)
set_option maxRecDepth 20000 in
theorem gX1_fits_X6_at : GoodIn wsX1_fits (wsV RX1 119 RX6 yX6_at wsX6_at) := goodIn_app (goodIn_of _ (by decide +kernel)) ggX1_fits_X6_at
theorem dX1_fits_0 : decode cX1_fits 0 = .ok (.aload_n 0, 1) := by decide +kernel
theorem dX1_fits_1 : decode cX1_fits 1 = .ok (.getfield 30, 3) := by decide +kernel
theorem dX1_fits_4 : decode cX1_fits 4 = .ok (.getfield 110, 3) := by decide +kernel
theorem dX1_fits_7 : decode cX1_fits 7 = .ok (.astore_n 3, 1) := by decide +kernel
theorem dX1_fits_8 : decode cX1_fits 8 = .ok (.iconst 0, 1) := by decide +kernel
theorem dX1_fits_9 : decode cX1_fits 9 = .ok (.istore 4, 2) := by decide +kernel
theorem dX1_fits_11 : decode cX1_fits 11 = .ok (.iload 4, 2) := by decide +kernel
theorem dX1_fits_13 : decode cX1_fits 13 = .ok (.aload_n 3, 1) := by decide +kernel
theorem dX1_fits_14 : decode cX1_fits 14 = .ok (.getfield 114, 3) := by decide +kernel
theorem dX1_fits_17 : decode cX1_fits 17 = .ok (.if_icmp .ge 66, 3) := by decide +kernel
theorem dX1_fits_20 : decode cX1_fits 20 = .ok (.aload_n 3, 1) := by decide +kernel
theorem dX1_fits_21 : decode cX1_fits 21 = .ok (.iload 4, 2) := by decide +kernel
theorem dX1_fits_23 : decode cX1_fits 23 = .ok (.iconst 0, 1) := by decide +kernel
theorem dX1_fits_24 : decode cX1_fits 24 = .ok (.invokevirtual 119, 3) := by decide +kernel
theorem dX1_fits_27 : decode cX1_fits 27 = .ok (.iload_n 1, 1) := by decide +kernel
theorem dX1_fits_28 : decode cX1_fits 28 = .ok (.if_icmp .ne 49, 3) := by decide +kernel
theorem dX1_fits_31 : decode cX1_fits 31 = .ok (.aload_n 0, 1) := by decide +kernel
theorem dX1_fits_32 : decode cX1_fits 32 = .ok (.getfield 9, 3) := by decide +kernel
theorem dX1_fits_35 : decode cX1_fits 35 = .ok (.aload_n 3, 1) := by decide +kernel
theorem dX1_fits_36 : decode cX1_fits 36 = .ok (.iload 4, 2) := by decide +kernel
theorem dX1_fits_38 : decode cX1_fits 38 = .ok (.iconst 1, 1) := by decide +kernel
theorem dX1_fits_39 : decode cX1_fits 39 = .ok (.invokevirtual 119, 3) := by decide +kernel
theorem dX1_fits_42 : decode cX1_fits 42 = .ok (.iaload, 1) := by decide +kernel
theorem dX1_fits_43 : decode cX1_fits 43 = .ok (.iload_n 2, 1) := by decide +kernel
theorem dX1_fits_44 : decode cX1_fits 44 = .ok (.if_icmp .lt 7, 3) := by decide +kernel
theorem dX1_fits_47 : decode cX1_fits 47 = .ok (.iconst 1, 1) := by decide +kernel
theorem dX1_fits_48 : decode cX1_fits 48 = .ok (.goto 4, 3) := by decide +kernel
theorem dX1_fits_51 : decode cX1_fits 51 = .ok (.iconst 0, 1) := by decide +kernel
theorem dX1_fits_52 : decode cX1_fits 52 = .ok (.istore 5, 2) := by decide +kernel
theorem dX1_fits_54 : decode cX1_fits 54 = .ok (.iload 5, 2) := by decide +kernel
theorem dX1_fits_56 : decode cX1_fits 56 = .ok (.aload_n 3, 1) := by decide +kernel
theorem dX1_fits_57 : decode cX1_fits 57 = .ok (.iload 4, 2) := by decide +kernel
theorem dX1_fits_59 : decode cX1_fits 59 = .ok (.iconst 2, 1) := by decide +kernel
theorem dX1_fits_60 : decode cX1_fits 60 = .ok (.invokevirtual 119, 3) := by decide +kernel
theorem dX1_fits_63 : decode cX1_fits 63 = .ok (.iconst 1, 1) := by decide +kernel
theorem dX1_fits_64 : decode cX1_fits 64 = .ok (.if_icmp .ne 7, 3) := by decide +kernel
theorem dX1_fits_67 : decode cX1_fits 67 = .ok (.iconst 1, 1) := by decide +kernel
theorem dX1_fits_68 : decode cX1_fits 68 = .ok (.goto 4, 3) := by decide +kernel
theorem dX1_fits_71 : decode cX1_fits 71 = .ok (.iconst 0, 1) := by decide +kernel
theorem dX1_fits_72 : decode cX1_fits 72 = .ok (.if_icmp .eq 5, 3) := by decide +kernel
theorem dX1_fits_75 : decode cX1_fits 75 = .ok (.iconst 0, 1) := by decide +kernel
theorem dX1_fits_76 : decode cX1_fits 76 = .ok (.ireturn, 1) := by decide +kernel
theorem dX1_fits_77 : decode cX1_fits 77 = .ok (.iinc 4 1, 3) := by decide +kernel
theorem dX1_fits_80 : decode cX1_fits 80 = .ok (.goto (-69), 3) := by decide +kernel
theorem dX1_fits_83 : decode cX1_fits 83 = .ok (.iconst 1, 1) := by decide +kernel
theorem dX1_fits_84 : decode cX1_fits 84 = .ok (.ireturn, 1) := by decide +kernel
set_option maxRecDepth 20000 in
theorem ggX1_lapsingMornings_X4_scentAt : GoodIn wsX1_lapsingMornings wsX4_scentAt := goodIn_r _ [13, 14, 15, 16, 17, 18, 19, 20, 21, 22, 23, 24, 25, 42, 43, 44, 45, 46, 47, 48, 49, 50, 51, 52, 53, 54, 55, 56] (by decide +kernel) (by decide +kernel)
set_option maxRecDepth 20000 in
theorem gX1_lapsingMornings_X4_scentAt : GoodIn wsX1_lapsingMornings (wsV RX1 34 RX4 yX4_scentAt wsX4_scentAt) := goodIn_app (goodIn_of _ (by decide +kernel)) ggX1_lapsingMornings_X4_scentAt
set_option maxRecDepth 20000 in
theorem ggX1_lapsingMornings_X3_loss : GoodIn wsX1_lapsingMornings wsX3_loss := goodIn_r _ [28, 29, 30, 18, 31, 32, 33, 34] (by decide +kernel) (by decide +kernel)
set_option maxRecDepth 20000 in
theorem gX1_lapsingMornings_X3_loss : GoodIn wsX1_lapsingMornings (va_wsS RX1 44 yX3_loss wsX3_loss) := goodIn_app (goodIn_of _ (by decide +kernel)) ggX1_lapsingMornings_X3_loss
theorem dX1_lapsingMornings_0 : decode cX1_lapsingMornings 0 = .ok (.aload_n 0, 1) := by decide +kernel
theorem dX1_lapsingMornings_1 : decode cX1_lapsingMornings 1 = .ok (.getfield 30, 3) := by decide +kernel
theorem dX1_lapsingMornings_4 : decode cX1_lapsingMornings 4 = .ok (.getfield 49, 3) := by decide +kernel
theorem dX1_lapsingMornings_7 : decode cX1_lapsingMornings 7 = .ok (.iload_n 1, 1) := by decide +kernel
theorem dX1_lapsingMornings_8 : decode cX1_lapsingMornings 8 = .ok (.iaload, 1) := by decide +kernel
theorem dX1_lapsingMornings_9 : decode cX1_lapsingMornings 9 = .ok (.istore 4, 2) := by decide +kernel
theorem dX1_lapsingMornings_11 : decode cX1_lapsingMornings 11 = .ok (.iconst 0, 1) := by decide +kernel
theorem dX1_lapsingMornings_12 : decode cX1_lapsingMornings 12 = .ok (.istore 5, 2) := by decide +kernel
theorem dX1_lapsingMornings_14 : decode cX1_lapsingMornings 14 = .ok (.iload 5, 2) := by decide +kernel
theorem dX1_lapsingMornings_16 : decode cX1_lapsingMornings 16 = .ok (.iload_n 2, 1) := by decide +kernel
theorem dX1_lapsingMornings_17 : decode cX1_lapsingMornings 17 = .ok (.if_icmp .ge 75, 3) := by decide +kernel
theorem dX1_lapsingMornings_20 : decode cX1_lapsingMornings 20 = .ok (.aload_n 0, 1) := by decide +kernel
theorem dX1_lapsingMornings_21 : decode cX1_lapsingMornings 21 = .ok (.getfield 30, 3) := by decide +kernel
theorem dX1_lapsingMornings_24 : decode cX1_lapsingMornings 24 = .ok (.getfield 40, 3) := by decide +kernel
theorem dX1_lapsingMornings_27 : decode cX1_lapsingMornings 27 = .ok (.iload 5, 2) := by decide +kernel
theorem dX1_lapsingMornings_29 : decode cX1_lapsingMornings 29 = .ok (.iadd, 1) := by decide +kernel
theorem dX1_lapsingMornings_30 : decode cX1_lapsingMornings 30 = .ok (.istore 6, 2) := by decide +kernel
theorem dX1_lapsingMornings_32 : decode cX1_lapsingMornings 32 = .ok (.aload_n 0, 1) := by decide +kernel
theorem dX1_lapsingMornings_33 : decode cX1_lapsingMornings 33 = .ok (.getfield 24, 3) := by decide +kernel
theorem dX1_lapsingMornings_36 : decode cX1_lapsingMornings 36 = .ok (.iload 5, 2) := by decide +kernel
theorem dX1_lapsingMornings_38 : decode cX1_lapsingMornings 38 = .ok (.iload 4, 2) := by decide +kernel
theorem dX1_lapsingMornings_40 : decode cX1_lapsingMornings 40 = .ok (.aload_n 0, 1) := by decide +kernel
theorem dX1_lapsingMornings_41 : decode cX1_lapsingMornings 41 = .ok (.getfield 30, 3) := by decide +kernel
theorem dX1_lapsingMornings_44 : decode cX1_lapsingMornings 44 = .ok (.aload_n 0, 1) := by decide +kernel
theorem dX1_lapsingMornings_45 : decode cX1_lapsingMornings 45 = .ok (.getfield 30, 3) := by decide +kernel
theorem dX1_lapsingMornings_48 : decode cX1_lapsingMornings 48 = .ok (.getfield 52, 3) := by decide +kernel
theorem dX1_lapsingMornings_51 : decode cX1_lapsingMornings 51 = .ok (.iload_n 1, 1) := by decide +kernel
theorem dX1_lapsingMornings_52 : decode cX1_lapsingMornings 52 = .ok (.iaload, 1) := by decide +kernel
theorem dX1_lapsingMornings_53 : decode cX1_lapsingMornings 53 = .ok (.iload 6, 2) := by decide +kernel
theorem dX1_lapsingMornings_55 : decode cX1_lapsingMornings 55 = .ok (.aload_n 0, 1) := by decide +kernel
theorem dX1_lapsingMornings_56 : decode cX1_lapsingMornings 56 = .ok (.getfield 30, 3) := by decide +kernel
theorem dX1_lapsingMornings_59 : decode cX1_lapsingMornings 59 = .ok (.getfield 55, 3) := by decide +kernel
theorem dX1_lapsingMornings_62 : decode cX1_lapsingMornings 62 = .ok (.invokevirtual 34, 3) := by decide +kernel
theorem dX1_lapsingMornings_65 : decode cX1_lapsingMornings 65 = .ok (.iload 6, 2) := by decide +kernel
theorem dX1_lapsingMornings_67 : decode cX1_lapsingMornings 67 = .ok (.invokestatic 44, 3) := by decide +kernel
theorem dX1_lapsingMornings_70 : decode cX1_lapsingMornings 70 = .ok (.iastore, 1) := by decide +kernel
theorem dX1_lapsingMornings_71 : decode cX1_lapsingMornings 71 = .ok (.aload_n 0, 1) := by decide +kernel
theorem dX1_lapsingMornings_72 : decode cX1_lapsingMornings 72 = .ok (.getfield 27, 3) := by decide +kernel
theorem dX1_lapsingMornings_75 : decode cX1_lapsingMornings 75 = .ok (.iload 5, 2) := by decide +kernel
theorem dX1_lapsingMornings_77 : decode cX1_lapsingMornings 77 = .ok (.iload 4, 2) := by decide +kernel
theorem dX1_lapsingMornings_79 : decode cX1_lapsingMornings 79 = .ok (.iconst 0, 1) := by decide +kernel
theorem dX1_lapsingMornings_80 : decode cX1_lapsingMornings 80 = .ok (.iload 6, 2) := by decide +kernel
theorem dX1_lapsingMornings_82 : decode cX1_lapsingMornings 82 = .ok (.invokestatic 44, 3) := by decide +kernel
theorem dX1_lapsingMornings_85 : decode cX1_lapsingMornings 85 = .ok (.iastore, 1) := by decide +kernel
theorem dX1_lapsingMornings_86 : decode cX1_lapsingMornings 86 = .ok (.iinc 5 1, 3) := by decide +kernel
theorem dX1_lapsingMornings_89 : decode cX1_lapsingMornings 89 = .ok (.goto (-75), 3) := by decide +kernel
theorem dX1_lapsingMornings_92 : decode cX1_lapsingMornings 92 = .ok (.lconst 0, 1) := by decide +kernel
theorem dX1_lapsingMornings_93 : decode cX1_lapsingMornings 93 = .ok (.lstore 5, 2) := by decide +kernel
theorem dX1_lapsingMornings_95 : decode cX1_lapsingMornings 95 = .ok (.iconst 0, 1) := by decide +kernel
theorem dX1_lapsingMornings_96 : decode cX1_lapsingMornings 96 = .ok (.istore 7, 2) := by decide +kernel
theorem dX1_lapsingMornings_98 : decode cX1_lapsingMornings 98 = .ok (.iload 7, 2) := by decide +kernel
theorem dX1_lapsingMornings_100 : decode cX1_lapsingMornings 100 = .ok (.iconst 1, 1) := by decide +kernel
theorem dX1_lapsingMornings_101 : decode cX1_lapsingMornings 101 = .ok (.iload_n 2, 1) := by decide +kernel
theorem dX1_lapsingMornings_102 : decode cX1_lapsingMornings 102 = .ok (.ishl, 1) := by decide +kernel
theorem dX1_lapsingMornings_103 : decode cX1_lapsingMornings 103 = .ok (.if_icmp .ge 115, 3) := by decide +kernel
theorem dX1_lapsingMornings_106 : decode cX1_lapsingMornings 106 = .ok (.lconst 1, 1) := by decide +kernel
theorem dX1_lapsingMornings_107 : decode cX1_lapsingMornings 107 = .ok (.lstore 8, 2) := by decide +kernel
theorem dX1_lapsingMornings_109 : decode cX1_lapsingMornings 109 = .ok (.iconst 0, 1) := by decide +kernel
theorem dX1_lapsingMornings_110 : decode cX1_lapsingMornings 110 = .ok (.istore 10, 2) := by decide +kernel
theorem dX1_lapsingMornings_112 : decode cX1_lapsingMornings 112 = .ok (.iconst 0, 1) := by decide +kernel
theorem dX1_lapsingMornings_113 : decode cX1_lapsingMornings 113 = .ok (.istore 11, 2) := by decide +kernel
theorem dX1_lapsingMornings_115 : decode cX1_lapsingMornings 115 = .ok (.iload 11, 2) := by decide +kernel
theorem dX1_lapsingMornings_117 : decode cX1_lapsingMornings 117 = .ok (.iload_n 2, 1) := by decide +kernel
theorem dX1_lapsingMornings_118 : decode cX1_lapsingMornings 118 = .ok (.if_icmp .ge 73, 3) := by decide +kernel
theorem dX1_lapsingMornings_121 : decode cX1_lapsingMornings 121 = .ok (.iload 7, 2) := by decide +kernel
theorem dX1_lapsingMornings_123 : decode cX1_lapsingMornings 123 = .ok (.iload 11, 2) := by decide +kernel
theorem dX1_lapsingMornings_125 : decode cX1_lapsingMornings 125 = .ok (.ishr, 1) := by decide +kernel
theorem dX1_lapsingMornings_126 : decode cX1_lapsingMornings 126 = .ok (.iconst 1, 1) := by decide +kernel
theorem dX1_lapsingMornings_127 : decode cX1_lapsingMornings 127 = .ok (.iand, 1) := by decide +kernel
theorem dX1_lapsingMornings_128 : decode cX1_lapsingMornings 128 = .ok (.iconst 1, 1) := by decide +kernel
theorem dX1_lapsingMornings_129 : decode cX1_lapsingMornings 129 = .ok (.if_icmp .ne 7, 3) := by decide +kernel
theorem dX1_lapsingMornings_132 : decode cX1_lapsingMornings 132 = .ok (.iconst 1, 1) := by decide +kernel
theorem dX1_lapsingMornings_133 : decode cX1_lapsingMornings 133 = .ok (.goto 4, 3) := by decide +kernel
theorem dX1_lapsingMornings_136 : decode cX1_lapsingMornings 136 = .ok (.iconst 0, 1) := by decide +kernel
theorem dX1_lapsingMornings_137 : decode cX1_lapsingMornings 137 = .ok (.istore 12, 2) := by decide +kernel
theorem dX1_lapsingMornings_139 : decode cX1_lapsingMornings 139 = .ok (.lload 8, 2) := by decide +kernel
theorem dX1_lapsingMornings_141 : decode cX1_lapsingMornings 141 = .ok (.iload 12, 2) := by decide +kernel
theorem dX1_lapsingMornings_143 : decode cX1_lapsingMornings 143 = .ok (.ifCond .eq 7, 3) := by decide +kernel
theorem dX1_lapsingMornings_146 : decode cX1_lapsingMornings 146 = .ok (.iload_n 3, 1) := by decide +kernel
theorem dX1_lapsingMornings_147 : decode cX1_lapsingMornings 147 = .ok (.goto 7, 3) := by decide +kernel
theorem dX1_lapsingMornings_150 : decode cX1_lapsingMornings 150 = .ok (.bipush 10, 2) := by decide +kernel
theorem dX1_lapsingMornings_152 : decode cX1_lapsingMornings 152 = .ok (.iload_n 3, 1) := by decide +kernel
theorem dX1_lapsingMornings_153 : decode cX1_lapsingMornings 153 = .ok (.isub, 1) := by decide +kernel
theorem dX1_lapsingMornings_154 : decode cX1_lapsingMornings 154 = .ok (.i2l, 1) := by decide +kernel
theorem dX1_lapsingMornings_155 : decode cX1_lapsingMornings 155 = .ok (.lmul, 1) := by decide +kernel
theorem dX1_lapsingMornings_156 : decode cX1_lapsingMornings 156 = .ok (.lstore 8, 2) := by decide +kernel
theorem dX1_lapsingMornings_158 : decode cX1_lapsingMornings 158 = .ok (.iload 10, 2) := by decide +kernel
theorem dX1_lapsingMornings_160 : decode cX1_lapsingMornings 160 = .ok (.iload 12, 2) := by decide +kernel
theorem dX1_lapsingMornings_162 : decode cX1_lapsingMornings 162 = .ok (.ifCond .eq 13, 3) := by decide +kernel
theorem dX1_lapsingMornings_165 : decode cX1_lapsingMornings 165 = .ok (.aload_n 0, 1) := by decide +kernel
theorem dX1_lapsingMornings_166 : decode cX1_lapsingMornings 166 = .ok (.getfield 27, 3) := by decide +kernel
theorem dX1_lapsingMornings_169 : decode cX1_lapsingMornings 169 = .ok (.iload 11, 2) := by decide +kernel
theorem dX1_lapsingMornings_171 : decode cX1_lapsingMornings 171 = .ok (.iaload, 1) := by decide +kernel
theorem dX1_lapsingMornings_172 : decode cX1_lapsingMornings 172 = .ok (.goto 10, 3) := by decide +kernel
theorem dX1_lapsingMornings_175 : decode cX1_lapsingMornings 175 = .ok (.aload_n 0, 1) := by decide +kernel
theorem dX1_lapsingMornings_176 : decode cX1_lapsingMornings 176 = .ok (.getfield 24, 3) := by decide +kernel
theorem dX1_lapsingMornings_179 : decode cX1_lapsingMornings 179 = .ok (.iload 11, 2) := by decide +kernel
theorem dX1_lapsingMornings_181 : decode cX1_lapsingMornings 181 = .ok (.iaload, 1) := by decide +kernel
theorem dX1_lapsingMornings_182 : decode cX1_lapsingMornings 182 = .ok (.iadd, 1) := by decide +kernel
theorem dX1_lapsingMornings_183 : decode cX1_lapsingMornings 183 = .ok (.istore 10, 2) := by decide +kernel
theorem dX1_lapsingMornings_185 : decode cX1_lapsingMornings 185 = .ok (.iinc 11 1, 3) := by decide +kernel
theorem dX1_lapsingMornings_188 : decode cX1_lapsingMornings 188 = .ok (.goto (-73), 3) := by decide +kernel
theorem dX1_lapsingMornings_191 : decode cX1_lapsingMornings 191 = .ok (.iload 10, 2) := by decide +kernel
theorem dX1_lapsingMornings_193 : decode cX1_lapsingMornings 193 = .ok (.aload_n 0, 1) := by decide +kernel
theorem dX1_lapsingMornings_194 : decode cX1_lapsingMornings 194 = .ok (.getfield 30, 3) := by decide +kernel
theorem dX1_lapsingMornings_197 : decode cX1_lapsingMornings 197 = .ok (.getfield 62, 3) := by decide +kernel
theorem dX1_lapsingMornings_200 : decode cX1_lapsingMornings 200 = .ok (.iload_n 1, 1) := by decide +kernel
theorem dX1_lapsingMornings_201 : decode cX1_lapsingMornings 201 = .ok (.iaload, 1) := by decide +kernel
theorem dX1_lapsingMornings_202 : decode cX1_lapsingMornings 202 = .ok (.if_icmp .lt 10, 3) := by decide +kernel
theorem dX1_lapsingMornings_205 : decode cX1_lapsingMornings 205 = .ok (.lload 5, 2) := by decide +kernel
theorem dX1_lapsingMornings_207 : decode cX1_lapsingMornings 207 = .ok (.lload 8, 2) := by decide +kernel
theorem dX1_lapsingMornings_209 : decode cX1_lapsingMornings 209 = .ok (.ladd, 1) := by decide +kernel
theorem dX1_lapsingMornings_210 : decode cX1_lapsingMornings 210 = .ok (.lstore 5, 2) := by decide +kernel
theorem dX1_lapsingMornings_212 : decode cX1_lapsingMornings 212 = .ok (.iinc 7 1, 3) := by decide +kernel
theorem dX1_lapsingMornings_215 : decode cX1_lapsingMornings 215 = .ok (.goto (-117), 3) := by decide +kernel
theorem dX1_lapsingMornings_218 : decode cX1_lapsingMornings 218 = .ok (.lload 5, 2) := by decide +kernel
theorem dX1_lapsingMornings_220 : decode cX1_lapsingMornings 220 = .ok (.lreturn, 1) := by decide +kernel
set_option maxRecDepth 20000 in
theorem ggX1_lapsedByYears_X4_wearDown : GoodIn wsX1_lapsedByYears wsX4_wearDown := goodIn_r _ [23, 24, 25, 26, 27, 28, 29, 30, 31, 32, 33, 22, 34, 35, 36, 37, 38, 39, 40, 41, 42, 43, 44, 45, 46, 47, 48, 49, 50, 51, 52, 64, 65, 66, 67, 68, 69, 70, 71, 72, 73, 74, 75, 76, 77, 78] (by decide +kernel) (by decide +kernel)
set_option maxRecDepth 20000 in
theorem gX1_lapsedByYears_X4_wearDown : GoodIn wsX1_lapsedByYears (wsV RX1 142 RX4 yX4_wearDown wsX4_wearDown) := goodIn_app (goodIn_of _ (by decide +kernel)) ggX1_lapsedByYears_X4_wearDown
set_option maxRecDepth 20000 in
theorem ggX1_lapsedByYears_X4_lapsedOf : GoodIn wsX1_lapsedByYears wsX4_lapsedOf := goodIn_r _ [56, 24, 64, 65, 66, 67, 68, 69, 70, 71, 72, 73, 74, 75, 76, 77, 78] (by decide +kernel) (by decide +kernel)
set_option maxRecDepth 20000 in
theorem gX1_lapsedByYears_X4_lapsedOf : GoodIn wsX1_lapsedByYears (wsV RX1 146 RX4 yX4_lapsedOf wsX4_lapsedOf) := goodIn_app (goodIn_of _ (by decide +kernel)) ggX1_lapsedByYears_X4_lapsedOf
theorem dX1_lapsedByYears_0 : decode cX1_lapsedByYears 0 = .ok (.aload_n 0, 1) := by decide +kernel
theorem dX1_lapsedByYears_1 : decode cX1_lapsedByYears 1 = .ok (.getfield 30, 3) := by decide +kernel
theorem dX1_lapsedByYears_4 : decode cX1_lapsedByYears 4 = .ok (.getfield 62, 3) := by decide +kernel
theorem dX1_lapsedByYears_7 : decode cX1_lapsedByYears 7 = .ok (.iconst 0, 1) := by decide +kernel
theorem dX1_lapsedByYears_8 : decode cX1_lapsedByYears 8 = .ok (.aload_n 0, 1) := by decide +kernel
theorem dX1_lapsedByYears_9 : decode cX1_lapsedByYears 9 = .ok (.getfield 18, 3) := by decide +kernel
theorem dX1_lapsedByYears_12 : decode cX1_lapsedByYears 12 = .ok (.iconst 0, 1) := by decide +kernel
theorem dX1_lapsedByYears_13 : decode cX1_lapsedByYears 13 = .ok (.bipush 7, 2) := by decide +kernel
theorem dX1_lapsedByYears_15 : decode cX1_lapsedByYears 15 = .ok (.invokestatic 122, 3) := by decide +kernel
theorem dX1_lapsedByYears_18 : decode cX1_lapsedByYears 18 = .ok (.aload_n 0, 1) := by decide +kernel
theorem dX1_lapsedByYears_19 : decode cX1_lapsedByYears 19 = .ok (.getfield 30, 3) := by decide +kernel
theorem dX1_lapsedByYears_22 : decode cX1_lapsedByYears 22 = .ok (.getfield 52, 3) := by decide +kernel
theorem dX1_lapsedByYears_25 : decode cX1_lapsedByYears 25 = .ok (.iconst 0, 1) := by decide +kernel
theorem dX1_lapsedByYears_26 : decode cX1_lapsedByYears 26 = .ok (.aload_n 0, 1) := by decide +kernel
theorem dX1_lapsedByYears_27 : decode cX1_lapsedByYears 27 = .ok (.getfield 21, 3) := by decide +kernel
theorem dX1_lapsedByYears_30 : decode cX1_lapsedByYears 30 = .ok (.iconst 0, 1) := by decide +kernel
theorem dX1_lapsedByYears_31 : decode cX1_lapsedByYears 31 = .ok (.bipush 7, 2) := by decide +kernel
theorem dX1_lapsedByYears_33 : decode cX1_lapsedByYears 33 = .ok (.invokestatic 122, 3) := by decide +kernel
theorem dX1_lapsedByYears_36 : decode cX1_lapsedByYears 36 = .ok (.iload_n 1, 1) := by decide +kernel
theorem dX1_lapsedByYears_37 : decode cX1_lapsedByYears 37 = .ok (.i2l, 1) := by decide +kernel
theorem dX1_lapsedByYears_38 : decode cX1_lapsedByYears 38 = .ok (.lstore_n 3, 1) := by decide +kernel
theorem dX1_lapsedByYears_39 : decode cX1_lapsedByYears 39 = .ok (.iconst 0, 1) := by decide +kernel
theorem dX1_lapsedByYears_40 : decode cX1_lapsedByYears 40 = .ok (.istore 5, 2) := by decide +kernel
theorem dX1_lapsedByYears_42 : decode cX1_lapsedByYears 42 = .ok (.iload 5, 2) := by decide +kernel
theorem dX1_lapsedByYears_44 : decode cX1_lapsedByYears 44 = .ok (.iload_n 2, 1) := by decide +kernel
theorem dX1_lapsedByYears_45 : decode cX1_lapsedByYears 45 = .ok (.if_icmp .ge 89, 3) := by decide +kernel
theorem dX1_lapsedByYears_48 : decode cX1_lapsedByYears 48 = .ok (.lload_n 3, 1) := by decide +kernel
theorem dX1_lapsedByYears_49 : decode cX1_lapsedByYears 49 = .ok (.ldc2_w 128, 3) := by decide +kernel
theorem dX1_lapsedByYears_52 : decode cX1_lapsedByYears 52 = .ok (.lmul, 1) := by decide +kernel
theorem dX1_lapsedByYears_53 : decode cX1_lapsedByYears 53 = .ok (.ldc2_w 130, 3) := by decide +kernel
theorem dX1_lapsedByYears_56 : decode cX1_lapsedByYears 56 = .ok (.ladd, 1) := by decide +kernel
theorem dX1_lapsedByYears_57 : decode cX1_lapsedByYears 57 = .ok (.ldc2_w 132, 3) := by decide +kernel
theorem dX1_lapsedByYears_60 : decode cX1_lapsedByYears 60 = .ok (.lrem, 1) := by decide +kernel
theorem dX1_lapsedByYears_61 : decode cX1_lapsedByYears 61 = .ok (.lstore_n 3, 1) := by decide +kernel
theorem dX1_lapsedByYears_62 : decode cX1_lapsedByYears 62 = .ok (.lload_n 3, 1) := by decide +kernel
theorem dX1_lapsedByYears_63 : decode cX1_lapsedByYears 63 = .ok (.ldc2_w 134, 3) := by decide +kernel
theorem dX1_lapsedByYears_66 : decode cX1_lapsedByYears 66 = .ok (.ldiv, 1) := by decide +kernel
theorem dX1_lapsedByYears_67 : decode cX1_lapsedByYears 67 = .ok (.ldc2_w 136, 3) := by decide +kernel
theorem dX1_lapsedByYears_70 : decode cX1_lapsedByYears 70 = .ok (.lrem, 1) := by decide +kernel
theorem dX1_lapsedByYears_71 : decode cX1_lapsedByYears 71 = .ok (.l2i, 1) := by decide +kernel
theorem dX1_lapsedByYears_72 : decode cX1_lapsedByYears 72 = .ok (.istore 6, 2) := by decide +kernel
theorem dX1_lapsedByYears_74 : decode cX1_lapsedByYears 74 = .ok (.iload 6, 2) := by decide +kernel
theorem dX1_lapsedByYears_76 : decode cX1_lapsedByYears 76 = .ok (.aload_n 0, 1) := by decide +kernel
theorem dX1_lapsedByYears_77 : decode cX1_lapsedByYears 77 = .ok (.getfield 30, 3) := by decide +kernel
theorem dX1_lapsedByYears_80 : decode cX1_lapsedByYears 80 = .ok (.getfield 74, 3) := by decide +kernel
theorem dX1_lapsedByYears_83 : decode cX1_lapsedByYears 83 = .ok (.if_icmp .ge 20, 3) := by decide +kernel
theorem dX1_lapsedByYears_86 : decode cX1_lapsedByYears 86 = .ok (.aload_n 0, 1) := by decide +kernel
theorem dX1_lapsedByYears_87 : decode cX1_lapsedByYears 87 = .ok (.getfield 21, 3) := by decide +kernel
theorem dX1_lapsedByYears_90 : decode cX1_lapsedByYears 90 = .ok (.iload 6, 2) := by decide +kernel
theorem dX1_lapsedByYears_92 : decode cX1_lapsedByYears 92 = .ok (.lload_n 3, 1) := by decide +kernel
theorem dX1_lapsedByYears_93 : decode cX1_lapsedByYears 93 = .ok (.ldc2_w 138, 3) := by decide +kernel
theorem dX1_lapsedByYears_96 : decode cX1_lapsedByYears 96 = .ok (.ldiv, 1) := by decide +kernel
theorem dX1_lapsedByYears_97 : decode cX1_lapsedByYears 97 = .ok (.ldc2_w 140, 3) := by decide +kernel
theorem dX1_lapsedByYears_100 : decode cX1_lapsedByYears 100 = .ok (.lrem, 1) := by decide +kernel
theorem dX1_lapsedByYears_101 : decode cX1_lapsedByYears 101 = .ok (.l2i, 1) := by decide +kernel
theorem dX1_lapsedByYears_102 : decode cX1_lapsedByYears 102 = .ok (.iastore, 1) := by decide +kernel
theorem dX1_lapsedByYears_103 : decode cX1_lapsedByYears 103 = .ok (.aload_n 0, 1) := by decide +kernel
theorem dX1_lapsedByYears_104 : decode cX1_lapsedByYears 104 = .ok (.getfield 30, 3) := by decide +kernel
theorem dX1_lapsedByYears_107 : decode cX1_lapsedByYears 107 = .ok (.aload_n 0, 1) := by decide +kernel
theorem dX1_lapsedByYears_108 : decode cX1_lapsedByYears 108 = .ok (.getfield 21, 3) := by decide +kernel
theorem dX1_lapsedByYears_111 : decode cX1_lapsedByYears 111 = .ok (.aload_n 0, 1) := by decide +kernel
theorem dX1_lapsedByYears_112 : decode cX1_lapsedByYears 112 = .ok (.getfield 18, 3) := by decide +kernel
theorem dX1_lapsedByYears_115 : decode cX1_lapsedByYears 115 = .ok (.aload_n 0, 1) := by decide +kernel
theorem dX1_lapsedByYears_116 : decode cX1_lapsedByYears 116 = .ok (.getfield 30, 3) := by decide +kernel
theorem dX1_lapsedByYears_119 : decode cX1_lapsedByYears 119 = .ok (.getfield 40, 3) := by decide +kernel
theorem dX1_lapsedByYears_122 : decode cX1_lapsedByYears 122 = .ok (.iload 5, 2) := by decide +kernel
theorem dX1_lapsedByYears_124 : decode cX1_lapsedByYears 124 = .ok (.iadd, 1) := by decide +kernel
theorem dX1_lapsedByYears_125 : decode cX1_lapsedByYears 125 = .ok (.invokevirtual 142, 3) := by decide +kernel
theorem dX1_lapsedByYears_128 : decode cX1_lapsedByYears 128 = .ok (.iinc 5 1, 3) := by decide +kernel
theorem dX1_lapsedByYears_131 : decode cX1_lapsedByYears 131 = .ok (.goto (-89), 3) := by decide +kernel
theorem dX1_lapsedByYears_134 : decode cX1_lapsedByYears 134 = .ok (.aload_n 0, 1) := by decide +kernel
theorem dX1_lapsedByYears_135 : decode cX1_lapsedByYears 135 = .ok (.getfield 30, 3) := by decide +kernel
theorem dX1_lapsedByYears_138 : decode cX1_lapsedByYears 138 = .ok (.aload_n 0, 1) := by decide +kernel
theorem dX1_lapsedByYears_139 : decode cX1_lapsedByYears 139 = .ok (.getfield 18, 3) := by decide +kernel
theorem dX1_lapsedByYears_142 : decode cX1_lapsedByYears 142 = .ok (.invokevirtual 146, 3) := by decide +kernel
theorem dX1_lapsedByYears_145 : decode cX1_lapsedByYears 145 = .ok (.ireturn, 1) := by decide +kernel
theorem dX2_init_0 : decode cX2_init 0 = .ok (.aload_n 0, 1) := by decide +kernel
theorem dX2_init_1 : decode cX2_init 1 = .ok (.invokespecial 3, 3) := by decide +kernel
theorem dX2_init_4 : decode cX2_init 4 = .ok (.aload_n 0, 1) := by decide +kernel
theorem dX2_init_5 : decode cX2_init 5 = .ok (.bipush 6, 2) := by decide +kernel
theorem dX2_init_7 : decode cX2_init 7 = .ok (.newarray .int, 2) := by decide +kernel
theorem dX2_init_9 : decode cX2_init 9 = .ok (.putfield 9, 3) := by decide +kernel
theorem dX2_init_12 : decode cX2_init 12 = .ok (.aload_n 0, 1) := by decide +kernel
theorem dX2_init_13 : decode cX2_init 13 = .ok (.aload_n 1, 1) := by decide +kernel
theorem dX2_init_14 : decode cX2_init 14 = .ok (.putfield 15, 3) := by decide +kernel
theorem dX2_init_17 : decode cX2_init 17 = .ok (.return_, 1) := by decide +kernel
set_option maxRecDepth 20000 in
theorem ggX2_flitchKinds_X2_fitsNotes : GoodIn wsX2_flitchKinds wsX2_fitsNotes := goodIn_r _ [5, 6, 7, 8, 9, 10, 11, 12, 13, 14, 15, 16, 17, 18, 19, 20, 21, 22, 23, 24, 25, 26, 27, 28, 29, 30, 31, 32, 33, 34, 35, 36, 37, 38, 39, 40] (by decide +kernel) (by decide +kernel)
set_option maxRecDepth 20000 in
theorem gX2_flitchKinds_X2_fitsNotes : GoodIn wsX2_flitchKinds (wsV RX2 19 RX2 yX2_fitsNotes wsX2_fitsNotes) := goodIn_app (goodIn_of _ (by decide +kernel)) ggX2_flitchKinds_X2_fitsNotes
theorem dX2_flitchKinds_0 : decode cX2_flitchKinds 0 = .ok (.iconst 0, 1) := by decide +kernel
theorem dX2_flitchKinds_1 : decode cX2_flitchKinds 1 = .ok (.istore_n 2, 1) := by decide +kernel
theorem dX2_flitchKinds_2 : decode cX2_flitchKinds 2 = .ok (.iconst 0, 1) := by decide +kernel
theorem dX2_flitchKinds_3 : decode cX2_flitchKinds 3 = .ok (.istore_n 3, 1) := by decide +kernel
theorem dX2_flitchKinds_4 : decode cX2_flitchKinds 4 = .ok (.iload_n 3, 1) := by decide +kernel
theorem dX2_flitchKinds_5 : decode cX2_flitchKinds 5 = .ok (.bipush 6, 2) := by decide +kernel
theorem dX2_flitchKinds_7 : decode cX2_flitchKinds 7 = .ok (.if_icmp .ge 24, 3) := by decide +kernel
theorem dX2_flitchKinds_10 : decode cX2_flitchKinds 10 = .ok (.aload_n 0, 1) := by decide +kernel
theorem dX2_flitchKinds_11 : decode cX2_flitchKinds 11 = .ok (.iload_n 1, 1) := by decide +kernel
theorem dX2_flitchKinds_12 : decode cX2_flitchKinds 12 = .ok (.iload_n 3, 1) := by decide +kernel
theorem dX2_flitchKinds_13 : decode cX2_flitchKinds 13 = .ok (.invokevirtual 19, 3) := by decide +kernel
theorem dX2_flitchKinds_16 : decode cX2_flitchKinds 16 = .ok (.ifCond .eq 9, 3) := by decide +kernel
theorem dX2_flitchKinds_19 : decode cX2_flitchKinds 19 = .ok (.iload_n 2, 1) := by decide +kernel
theorem dX2_flitchKinds_20 : decode cX2_flitchKinds 20 = .ok (.iconst 1, 1) := by decide +kernel
theorem dX2_flitchKinds_21 : decode cX2_flitchKinds 21 = .ok (.iload_n 3, 1) := by decide +kernel
theorem dX2_flitchKinds_22 : decode cX2_flitchKinds 22 = .ok (.ishl, 1) := by decide +kernel
theorem dX2_flitchKinds_23 : decode cX2_flitchKinds 23 = .ok (.ior, 1) := by decide +kernel
theorem dX2_flitchKinds_24 : decode cX2_flitchKinds 24 = .ok (.istore_n 2, 1) := by decide +kernel
theorem dX2_flitchKinds_25 : decode cX2_flitchKinds 25 = .ok (.iinc 3 1, 3) := by decide +kernel
theorem dX2_flitchKinds_28 : decode cX2_flitchKinds 28 = .ok (.goto (-24), 3) := by decide +kernel
theorem dX2_flitchKinds_31 : decode cX2_flitchKinds 31 = .ok (.iload_n 2, 1) := by decide +kernel
theorem dX2_flitchKinds_32 : decode cX2_flitchKinds 32 = .ok (.ireturn, 1) := by decide +kernel
set_option maxRecDepth 20000 in
theorem ggX2_fitsNotes_X6_at : GoodIn wsX2_fitsNotes wsX6_at := goodIn_r _ [8, 9, 10, 32, 33, 34, 35] (by decide +kernel) (by decide +kernel)
set_option maxRecDepth 20000 in
theorem gX2_fitsNotes_X6_at : GoodIn wsX2_fitsNotes (wsV RX2 35 RX6 yX6_at wsX6_at) := goodIn_app (goodIn_of _ (by decide +kernel)) ggX2_fitsNotes_X6_at
set_option maxRecDepth 20000 in
theorem ggX2_fitsNotes_X3_scent : GoodIn wsX2_fitsNotes wsX3_scent := goodIn_r _ [14] (by decide +kernel) (by decide +kernel)
set_option maxRecDepth 20000 in
theorem gX2_fitsNotes_X3_scent : GoodIn wsX2_fitsNotes (va_wsS RX2 39 yX3_scent wsX3_scent) := goodIn_app (goodIn_of _ (by decide +kernel)) ggX2_fitsNotes_X3_scent
theorem dX2_fitsNotes_0 : decode cX2_fitsNotes 0 = .ok (.aload_n 0, 1) := by decide +kernel
theorem dX2_fitsNotes_1 : decode cX2_fitsNotes 1 = .ok (.getfield 15, 3) := by decide +kernel
theorem dX2_fitsNotes_4 : decode cX2_fitsNotes 4 = .ok (.getfield 23, 3) := by decide +kernel
theorem dX2_fitsNotes_7 : decode cX2_fitsNotes 7 = .ok (.astore_n 3, 1) := by decide +kernel
theorem dX2_fitsNotes_8 : decode cX2_fitsNotes 8 = .ok (.iconst 0, 1) := by decide +kernel
theorem dX2_fitsNotes_9 : decode cX2_fitsNotes 9 = .ok (.istore 4, 2) := by decide +kernel
theorem dX2_fitsNotes_11 : decode cX2_fitsNotes 11 = .ok (.iload 4, 2) := by decide +kernel
theorem dX2_fitsNotes_13 : decode cX2_fitsNotes 13 = .ok (.aload_n 3, 1) := by decide +kernel
theorem dX2_fitsNotes_14 : decode cX2_fitsNotes 14 = .ok (.getfield 29, 3) := by decide +kernel
theorem dX2_fitsNotes_17 : decode cX2_fitsNotes 17 = .ok (.if_icmp .ge 61, 3) := by decide +kernel
theorem dX2_fitsNotes_20 : decode cX2_fitsNotes 20 = .ok (.aload_n 3, 1) := by decide +kernel
theorem dX2_fitsNotes_21 : decode cX2_fitsNotes 21 = .ok (.iload 4, 2) := by decide +kernel
theorem dX2_fitsNotes_23 : decode cX2_fitsNotes 23 = .ok (.iconst 0, 1) := by decide +kernel
theorem dX2_fitsNotes_24 : decode cX2_fitsNotes 24 = .ok (.invokevirtual 35, 3) := by decide +kernel
theorem dX2_fitsNotes_27 : decode cX2_fitsNotes 27 = .ok (.iload_n 1, 1) := by decide +kernel
theorem dX2_fitsNotes_28 : decode cX2_fitsNotes 28 = .ok (.if_icmp .ne 44, 3) := by decide +kernel
theorem dX2_fitsNotes_31 : decode cX2_fitsNotes 31 = .ok (.iload_n 2, 1) := by decide +kernel
theorem dX2_fitsNotes_32 : decode cX2_fitsNotes 32 = .ok (.aload_n 3, 1) := by decide +kernel
theorem dX2_fitsNotes_33 : decode cX2_fitsNotes 33 = .ok (.iload 4, 2) := by decide +kernel
theorem dX2_fitsNotes_35 : decode cX2_fitsNotes 35 = .ok (.iconst 1, 1) := by decide +kernel
theorem dX2_fitsNotes_36 : decode cX2_fitsNotes 36 = .ok (.invokevirtual 35, 3) := by decide +kernel
theorem dX2_fitsNotes_39 : decode cX2_fitsNotes 39 = .ok (.aload_n 3, 1) := by decide +kernel
theorem dX2_fitsNotes_40 : decode cX2_fitsNotes 40 = .ok (.iload 4, 2) := by decide +kernel
theorem dX2_fitsNotes_42 : decode cX2_fitsNotes 42 = .ok (.iconst 2, 1) := by decide +kernel
theorem dX2_fitsNotes_43 : decode cX2_fitsNotes 43 = .ok (.invokevirtual 35, 3) := by decide +kernel
theorem dX2_fitsNotes_46 : decode cX2_fitsNotes 46 = .ok (.aload_n 3, 1) := by decide +kernel
theorem dX2_fitsNotes_47 : decode cX2_fitsNotes 47 = .ok (.iload 4, 2) := by decide +kernel
theorem dX2_fitsNotes_49 : decode cX2_fitsNotes 49 = .ok (.iconst 3, 1) := by decide +kernel
theorem dX2_fitsNotes_50 : decode cX2_fitsNotes 50 = .ok (.invokevirtual 35, 3) := by decide +kernel
theorem dX2_fitsNotes_53 : decode cX2_fitsNotes 53 = .ok (.invokestatic 39, 3) := by decide +kernel
theorem dX2_fitsNotes_56 : decode cX2_fitsNotes 56 = .ok (.istore 5, 2) := by decide +kernel
theorem dX2_fitsNotes_58 : decode cX2_fitsNotes 58 = .ok (.iload 5, 2) := by decide +kernel
theorem dX2_fitsNotes_60 : decode cX2_fitsNotes 60 = .ok (.aload_n 3, 1) := by decide +kernel
theorem dX2_fitsNotes_61 : decode cX2_fitsNotes 61 = .ok (.iload 4, 2) := by decide +kernel
theorem dX2_fitsNotes_63 : decode cX2_fitsNotes 63 = .ok (.iconst 4, 1) := by decide +kernel
theorem dX2_fitsNotes_64 : decode cX2_fitsNotes 64 = .ok (.invokevirtual 35, 3) := by decide +kernel
theorem dX2_fitsNotes_67 : decode cX2_fitsNotes 67 = .ok (.if_icmp .eq 5, 3) := by decide +kernel
theorem dX2_fitsNotes_70 : decode cX2_fitsNotes 70 = .ok (.iconst 0, 1) := by decide +kernel
theorem dX2_fitsNotes_71 : decode cX2_fitsNotes 71 = .ok (.ireturn, 1) := by decide +kernel
theorem dX2_fitsNotes_72 : decode cX2_fitsNotes 72 = .ok (.iinc 4 1, 3) := by decide +kernel
theorem dX2_fitsNotes_75 : decode cX2_fitsNotes 75 = .ok (.goto (-64), 3) := by decide +kernel
theorem dX2_fitsNotes_78 : decode cX2_fitsNotes 78 = .ok (.iconst 1, 1) := by decide +kernel
theorem dX2_fitsNotes_79 : decode cX2_fitsNotes 79 = .ok (.ireturn, 1) := by decide +kernel
set_option maxRecDepth 20000 in
theorem ggX2_familyKinds_X2_fitsMarks : GoodIn wsX2_familyKinds wsX2_fitsMarks := goodIn_r _ [5, 6, 7, 8, 9, 10, 11, 12, 13, 14, 15, 16, 17, 18, 19, 20, 21, 22, 23, 24, 25, 26, 27, 28, 29, 30, 31, 32, 33, 34, 35, 36, 37, 38, 39, 40, 41, 42, 43, 44, 45, 46, 47] (by decide +kernel) (by decide +kernel)
set_option maxRecDepth 20000 in
theorem gX2_familyKinds_X2_fitsMarks : GoodIn wsX2_familyKinds (wsV RX2 45 RX2 yX2_fitsMarks wsX2_fitsMarks) := goodIn_app (goodIn_of _ (by decide +kernel)) ggX2_familyKinds_X2_fitsMarks
theorem dX2_familyKinds_0 : decode cX2_familyKinds 0 = .ok (.iconst 0, 1) := by decide +kernel
theorem dX2_familyKinds_1 : decode cX2_familyKinds 1 = .ok (.istore_n 2, 1) := by decide +kernel
theorem dX2_familyKinds_2 : decode cX2_familyKinds 2 = .ok (.iconst 0, 1) := by decide +kernel
theorem dX2_familyKinds_3 : decode cX2_familyKinds 3 = .ok (.istore_n 3, 1) := by decide +kernel
theorem dX2_familyKinds_4 : decode cX2_familyKinds 4 = .ok (.iload_n 3, 1) := by decide +kernel
theorem dX2_familyKinds_5 : decode cX2_familyKinds 5 = .ok (.bipush 6, 2) := by decide +kernel
theorem dX2_familyKinds_7 : decode cX2_familyKinds 7 = .ok (.if_icmp .ge 24, 3) := by decide +kernel
theorem dX2_familyKinds_10 : decode cX2_familyKinds 10 = .ok (.aload_n 0, 1) := by decide +kernel
theorem dX2_familyKinds_11 : decode cX2_familyKinds 11 = .ok (.iload_n 1, 1) := by decide +kernel
theorem dX2_familyKinds_12 : decode cX2_familyKinds 12 = .ok (.iload_n 3, 1) := by decide +kernel
theorem dX2_familyKinds_13 : decode cX2_familyKinds 13 = .ok (.invokevirtual 45, 3) := by decide +kernel
theorem dX2_familyKinds_16 : decode cX2_familyKinds 16 = .ok (.ifCond .eq 9, 3) := by decide +kernel
theorem dX2_familyKinds_19 : decode cX2_familyKinds 19 = .ok (.iload_n 2, 1) := by decide +kernel
theorem dX2_familyKinds_20 : decode cX2_familyKinds 20 = .ok (.iconst 1, 1) := by decide +kernel
theorem dX2_familyKinds_21 : decode cX2_familyKinds 21 = .ok (.iload_n 3, 1) := by decide +kernel
theorem dX2_familyKinds_22 : decode cX2_familyKinds 22 = .ok (.ishl, 1) := by decide +kernel
theorem dX2_familyKinds_23 : decode cX2_familyKinds 23 = .ok (.ior, 1) := by decide +kernel
theorem dX2_familyKinds_24 : decode cX2_familyKinds 24 = .ok (.istore_n 2, 1) := by decide +kernel
theorem dX2_familyKinds_25 : decode cX2_familyKinds 25 = .ok (.iinc 3 1, 3) := by decide +kernel
theorem dX2_familyKinds_28 : decode cX2_familyKinds 28 = .ok (.goto (-24), 3) := by decide +kernel
theorem dX2_familyKinds_31 : decode cX2_familyKinds 31 = .ok (.iload_n 2, 1) := by decide +kernel
theorem dX2_familyKinds_32 : decode cX2_familyKinds 32 = .ok (.ireturn, 1) := by decide +kernel
set_option maxRecDepth 20000 in
theorem ggX2_fitsMarks_X6_at : GoodIn wsX2_fitsMarks wsX6_at := goodIn_r _ [8, 9, 10, 39, 40, 41, 42] (by decide +kernel) (by decide +kernel)
set_option maxRecDepth 20000 in
theorem gX2_fitsMarks_X6_at : GoodIn wsX2_fitsMarks (wsV RX2 35 RX6 yX6_at wsX6_at) := goodIn_app (goodIn_of _ (by decide +kernel)) ggX2_fitsMarks_X6_at
set_option maxRecDepth 20000 in
theorem ggX2_fitsMarks_X3_loss : GoodIn wsX2_fitsMarks wsX3_loss := goodIn_r _ [14, 15, 16, 17, 18, 19, 20, 21] (by decide +kernel) (by decide +kernel)
set_option maxRecDepth 20000 in
theorem gX2_fitsMarks_X3_loss : GoodIn wsX2_fitsMarks (va_wsS RX2 51 yX3_loss wsX3_loss) := goodIn_app (goodIn_of _ (by decide +kernel)) ggX2_fitsMarks_X3_loss
theorem dX2_fitsMarks_0 : decode cX2_fitsMarks 0 = .ok (.aload_n 0, 1) := by decide +kernel
theorem dX2_fitsMarks_1 : decode cX2_fitsMarks 1 = .ok (.getfield 15, 3) := by decide +kernel
theorem dX2_fitsMarks_4 : decode cX2_fitsMarks 4 = .ok (.getfield 48, 3) := by decide +kernel
theorem dX2_fitsMarks_7 : decode cX2_fitsMarks 7 = .ok (.astore_n 3, 1) := by decide +kernel
theorem dX2_fitsMarks_8 : decode cX2_fitsMarks 8 = .ok (.iconst 0, 1) := by decide +kernel
theorem dX2_fitsMarks_9 : decode cX2_fitsMarks 9 = .ok (.istore 4, 2) := by decide +kernel
theorem dX2_fitsMarks_11 : decode cX2_fitsMarks 11 = .ok (.iload 4, 2) := by decide +kernel
theorem dX2_fitsMarks_13 : decode cX2_fitsMarks 13 = .ok (.aload_n 3, 1) := by decide +kernel
theorem dX2_fitsMarks_14 : decode cX2_fitsMarks 14 = .ok (.getfield 29, 3) := by decide +kernel
theorem dX2_fitsMarks_17 : decode cX2_fitsMarks 17 = .ok (.if_icmp .ge 54, 3) := by decide +kernel
theorem dX2_fitsMarks_20 : decode cX2_fitsMarks 20 = .ok (.aload_n 3, 1) := by decide +kernel
theorem dX2_fitsMarks_21 : decode cX2_fitsMarks 21 = .ok (.iload 4, 2) := by decide +kernel
theorem dX2_fitsMarks_23 : decode cX2_fitsMarks 23 = .ok (.iconst 0, 1) := by decide +kernel
theorem dX2_fitsMarks_24 : decode cX2_fitsMarks 24 = .ok (.invokevirtual 35, 3) := by decide +kernel
theorem dX2_fitsMarks_27 : decode cX2_fitsMarks 27 = .ok (.iload_n 1, 1) := by decide +kernel
theorem dX2_fitsMarks_28 : decode cX2_fitsMarks 28 = .ok (.if_icmp .ne 37, 3) := by decide +kernel
theorem dX2_fitsMarks_31 : decode cX2_fitsMarks 31 = .ok (.iload_n 2, 1) := by decide +kernel
theorem dX2_fitsMarks_32 : decode cX2_fitsMarks 32 = .ok (.aload_n 3, 1) := by decide +kernel
theorem dX2_fitsMarks_33 : decode cX2_fitsMarks 33 = .ok (.iload 4, 2) := by decide +kernel
theorem dX2_fitsMarks_35 : decode cX2_fitsMarks 35 = .ok (.iconst 1, 1) := by decide +kernel
theorem dX2_fitsMarks_36 : decode cX2_fitsMarks 36 = .ok (.invokevirtual 35, 3) := by decide +kernel
theorem dX2_fitsMarks_39 : decode cX2_fitsMarks 39 = .ok (.aload_n 3, 1) := by decide +kernel
theorem dX2_fitsMarks_40 : decode cX2_fitsMarks 40 = .ok (.iload 4, 2) := by decide +kernel
theorem dX2_fitsMarks_42 : decode cX2_fitsMarks 42 = .ok (.iconst 2, 1) := by decide +kernel
theorem dX2_fitsMarks_43 : decode cX2_fitsMarks 43 = .ok (.invokevirtual 35, 3) := by decide +kernel
theorem dX2_fitsMarks_46 : decode cX2_fitsMarks 46 = .ok (.invokestatic 51, 3) := by decide +kernel
theorem dX2_fitsMarks_49 : decode cX2_fitsMarks 49 = .ok (.istore 5, 2) := by decide +kernel
theorem dX2_fitsMarks_51 : decode cX2_fitsMarks 51 = .ok (.iload 5, 2) := by decide +kernel
theorem dX2_fitsMarks_53 : decode cX2_fitsMarks 53 = .ok (.aload_n 3, 1) := by decide +kernel
theorem dX2_fitsMarks_54 : decode cX2_fitsMarks 54 = .ok (.iload 4, 2) := by decide +kernel
theorem dX2_fitsMarks_56 : decode cX2_fitsMarks 56 = .ok (.iconst 3, 1) := by decide +kernel
theorem dX2_fitsMarks_57 : decode cX2_fitsMarks 57 = .ok (.invokevirtual 35, 3) := by decide +kernel
theorem dX2_fitsMarks_60 : decode cX2_fitsMarks 60 = .ok (.if_icmp .eq 5, 3) := by decide +kernel
theorem dX2_fitsMarks_63 : decode cX2_fitsMarks 63 = .ok (.iconst 0, 1) := by decide +kernel
theorem dX2_fitsMarks_64 : decode cX2_fitsMarks 64 = .ok (.ireturn, 1) := by decide +kernel
theorem dX2_fitsMarks_65 : decode cX2_fitsMarks 65 = .ok (.iinc 4 1, 3) := by decide +kernel
theorem dX2_fitsMarks_68 : decode cX2_fitsMarks 68 = .ok (.goto (-57), 3) := by decide +kernel
theorem dX2_fitsMarks_71 : decode cX2_fitsMarks 71 = .ok (.iconst 1, 1) := by decide +kernel
theorem dX2_fitsMarks_72 : decode cX2_fitsMarks 72 = .ok (.ireturn, 1) := by decide +kernel
set_option maxRecDepth 20000 in
theorem ggX2_nextLook_X2_flitchKinds : GoodIn wsX2_nextLook wsX2_flitchKinds := goodIn_r _ [8, 9, 10, 11, 7, 12, 2, 13, 14, 15, 16, 17, 18, 19, 20, 21, 22, 23, 24, 25, 34, 35, 36, 37, 38, 39, 40, 41, 42, 43, 44, 45, 46, 47, 48, 49, 50, 51, 52, 53, 54] (by decide +kernel) (by decide +kernel)
set_option maxRecDepth 20000 in
theorem gX2_nextLook_X2_flitchKinds : GoodIn wsX2_nextLook (wsV RX2 55 RX2 yX2_flitchKinds wsX2_flitchKinds) := goodIn_app (goodIn_of _ (by decide +kernel)) ggX2_nextLook_X2_flitchKinds
set_option maxRecDepth 20000 in
theorem ggX2_nextLook_X3_scent : GoodIn wsX2_nextLook wsX3_scent := goodIn_r _ [25] (by decide +kernel) (by decide +kernel)
set_option maxRecDepth 20000 in
theorem gX2_nextLook_X3_scent : GoodIn wsX2_nextLook (va_wsS RX2 39 yX3_scent wsX3_scent) := goodIn_app (goodIn_of _ (by decide +kernel)) ggX2_nextLook_X3_scent
set_option maxRecDepth 20000 in
theorem ggX2_nextLook_X2_mostAlike : GoodIn wsX2_nextLook wsX2_mostAlike := goodIn_r _ [29, 1, 30, 31, 32, 33, 34, 35] (by decide +kernel) (by decide +kernel)
set_option maxRecDepth 20000 in
theorem gX2_nextLook_X2_mostAlike : GoodIn wsX2_nextLook (wsV RX2 62 RX2 yX2_mostAlike wsX2_mostAlike) := goodIn_app (goodIn_of _ (by decide +kernel)) ggX2_nextLook_X2_mostAlike
theorem dX2_nextLook_0 : decode cX2_nextLook 0 = .ok (.aload_n 0, 1) := by decide +kernel
theorem dX2_nextLook_1 : decode cX2_nextLook 1 = .ok (.iload_n 1, 1) := by decide +kernel
theorem dX2_nextLook_2 : decode cX2_nextLook 2 = .ok (.invokevirtual 55, 3) := by decide +kernel
theorem dX2_nextLook_5 : decode cX2_nextLook 5 = .ok (.istore_n 2, 1) := by decide +kernel
theorem dX2_nextLook_6 : decode cX2_nextLook 6 = .ok (.iconst (-1), 1) := by decide +kernel
theorem dX2_nextLook_7 : decode cX2_nextLook 7 = .ok (.istore_n 3, 1) := by decide +kernel
theorem dX2_nextLook_8 : decode cX2_nextLook 8 = .ok (.bipush 7, 2) := by decide +kernel
theorem dX2_nextLook_10 : decode cX2_nextLook 10 = .ok (.istore 4, 2) := by decide +kernel
theorem dX2_nextLook_12 : decode cX2_nextLook 12 = .ok (.iconst 0, 1) := by decide +kernel
theorem dX2_nextLook_13 : decode cX2_nextLook 13 = .ok (.istore 5, 2) := by decide +kernel
theorem dX2_nextLook_15 : decode cX2_nextLook 15 = .ok (.iload 5, 2) := by decide +kernel
theorem dX2_nextLook_17 : decode cX2_nextLook 17 = .ok (.bipush 8, 2) := by decide +kernel
theorem dX2_nextLook_19 : decode cX2_nextLook 19 = .ok (.if_icmp .gt 96, 3) := by decide +kernel
theorem dX2_nextLook_22 : decode cX2_nextLook 22 = .ok (.iload_n 2, 1) := by decide +kernel
theorem dX2_nextLook_23 : decode cX2_nextLook 23 = .ok (.ifCond .eq 92, 3) := by decide +kernel
theorem dX2_nextLook_26 : decode cX2_nextLook 26 = .ok (.iconst 0, 1) := by decide +kernel
theorem dX2_nextLook_27 : decode cX2_nextLook 27 = .ok (.istore 6, 2) := by decide +kernel
theorem dX2_nextLook_29 : decode cX2_nextLook 29 = .ok (.iload 6, 2) := by decide +kernel
theorem dX2_nextLook_31 : decode cX2_nextLook 31 = .ok (.iconst 1, 1) := by decide +kernel
theorem dX2_nextLook_32 : decode cX2_nextLook 32 = .ok (.if_icmp .gt 77, 3) := by decide +kernel
theorem dX2_nextLook_35 : decode cX2_nextLook 35 = .ok (.iconst 0, 1) := by decide +kernel
theorem dX2_nextLook_36 : decode cX2_nextLook 36 = .ok (.istore 7, 2) := by decide +kernel
theorem dX2_nextLook_38 : decode cX2_nextLook 38 = .ok (.iload 7, 2) := by decide +kernel
theorem dX2_nextLook_40 : decode cX2_nextLook 40 = .ok (.bipush 6, 2) := by decide +kernel
theorem dX2_nextLook_42 : decode cX2_nextLook 42 = .ok (.if_icmp .ge 34, 3) := by decide +kernel
theorem dX2_nextLook_45 : decode cX2_nextLook 45 = .ok (.aload_n 0, 1) := by decide +kernel
theorem dX2_nextLook_46 : decode cX2_nextLook 46 = .ok (.getfield 9, 3) := by decide +kernel
theorem dX2_nextLook_49 : decode cX2_nextLook 49 = .ok (.iload 7, 2) := by decide +kernel
theorem dX2_nextLook_51 : decode cX2_nextLook 51 = .ok (.iload 7, 2) := by decide +kernel
theorem dX2_nextLook_53 : decode cX2_nextLook 53 = .ok (.aload_n 0, 1) := by decide +kernel
theorem dX2_nextLook_54 : decode cX2_nextLook 54 = .ok (.getfield 15, 3) := by decide +kernel
theorem dX2_nextLook_57 : decode cX2_nextLook 57 = .ok (.getfield 59, 3) := by decide +kernel
theorem dX2_nextLook_60 : decode cX2_nextLook 60 = .ok (.iload_n 1, 1) := by decide +kernel
theorem dX2_nextLook_61 : decode cX2_nextLook 61 = .ok (.iaload, 1) := by decide +kernel
theorem dX2_nextLook_62 : decode cX2_nextLook 62 = .ok (.iload 5, 2) := by decide +kernel
theorem dX2_nextLook_64 : decode cX2_nextLook 64 = .ok (.iload 6, 2) := by decide +kernel
theorem dX2_nextLook_66 : decode cX2_nextLook 66 = .ok (.invokestatic 39, 3) := by decide +kernel
theorem dX2_nextLook_69 : decode cX2_nextLook 69 = .ok (.iastore, 1) := by decide +kernel
theorem dX2_nextLook_70 : decode cX2_nextLook 70 = .ok (.iinc 7 1, 3) := by decide +kernel
theorem dX2_nextLook_73 : decode cX2_nextLook 73 = .ok (.goto (-35), 3) := by decide +kernel
theorem dX2_nextLook_76 : decode cX2_nextLook 76 = .ok (.aload_n 0, 1) := by decide +kernel
theorem dX2_nextLook_77 : decode cX2_nextLook 77 = .ok (.iload_n 2, 1) := by decide +kernel
theorem dX2_nextLook_78 : decode cX2_nextLook 78 = .ok (.invokevirtual 62, 3) := by decide +kernel
theorem dX2_nextLook_81 : decode cX2_nextLook 81 = .ok (.istore 7, 2) := by decide +kernel
theorem dX2_nextLook_83 : decode cX2_nextLook 83 = .ok (.iload 7, 2) := by decide +kernel
theorem dX2_nextLook_85 : decode cX2_nextLook 85 = .ok (.iload 4, 2) := by decide +kernel
theorem dX2_nextLook_87 : decode cX2_nextLook 87 = .ok (.if_icmp .ge 16, 3) := by decide +kernel
theorem dX2_nextLook_90 : decode cX2_nextLook 90 = .ok (.iload 7, 2) := by decide +kernel
theorem dX2_nextLook_92 : decode cX2_nextLook 92 = .ok (.istore 4, 2) := by decide +kernel
theorem dX2_nextLook_94 : decode cX2_nextLook 94 = .ok (.bipush 10, 2) := by decide +kernel
theorem dX2_nextLook_96 : decode cX2_nextLook 96 = .ok (.iload 5, 2) := by decide +kernel
theorem dX2_nextLook_98 : decode cX2_nextLook 98 = .ok (.imul, 1) := by decide +kernel
theorem dX2_nextLook_99 : decode cX2_nextLook 99 = .ok (.iload 6, 2) := by decide +kernel
theorem dX2_nextLook_101 : decode cX2_nextLook 101 = .ok (.iadd, 1) := by decide +kernel
theorem dX2_nextLook_102 : decode cX2_nextLook 102 = .ok (.istore_n 3, 1) := by decide +kernel
theorem dX2_nextLook_103 : decode cX2_nextLook 103 = .ok (.iinc 6 1, 3) := by decide +kernel
theorem dX2_nextLook_106 : decode cX2_nextLook 106 = .ok (.goto (-77), 3) := by decide +kernel
theorem dX2_nextLook_109 : decode cX2_nextLook 109 = .ok (.iinc 5 1, 3) := by decide +kernel
theorem dX2_nextLook_112 : decode cX2_nextLook 112 = .ok (.goto (-97), 3) := by decide +kernel
theorem dX2_nextLook_115 : decode cX2_nextLook 115 = .ok (.iload_n 3, 1) := by decide +kernel
theorem dX2_nextLook_116 : decode cX2_nextLook 116 = .ok (.ireturn, 1) := by decide +kernel
set_option maxRecDepth 20000 in
theorem ggX2_nextAsk_X2_familyKinds : GoodIn wsX2_nextAsk wsX2_familyKinds := goodIn_r _ [6, 7, 8, 9, 5, 10, 11, 12, 13, 14, 15, 16, 17, 18, 19, 20, 21, 22, 23, 24, 25, 26, 27, 28, 29, 30, 31, 37, 38, 39, 40, 41, 42, 43, 44, 45, 46, 47, 48, 49, 50, 51, 52, 53, 54, 55, 56, 57] (by decide +kernel) (by decide +kernel)
set_option maxRecDepth 20000 in
theorem gX2_nextAsk_X2_familyKinds : GoodIn wsX2_nextAsk (wsV RX2 65 RX2 yX2_familyKinds wsX2_familyKinds) := goodIn_app (goodIn_of _ (by decide +kernel)) ggX2_nextAsk_X2_familyKinds
set_option maxRecDepth 20000 in
theorem ggX2_nextAsk_X3_loss : GoodIn wsX2_nextAsk wsX3_loss := goodIn_r _ [24, 25, 26, 27, 28, 29, 30, 31] (by decide +kernel) (by decide +kernel)
set_option maxRecDepth 20000 in
theorem gX2_nextAsk_X3_loss : GoodIn wsX2_nextAsk (va_wsS RX2 51 yX3_loss wsX3_loss) := goodIn_app (goodIn_of _ (by decide +kernel)) ggX2_nextAsk_X3_loss
set_option maxRecDepth 20000 in
theorem ggX2_nextAsk_X2_mostAlike : GoodIn wsX2_nextAsk wsX2_mostAlike := goodIn_r _ [35, 1, 36, 26, 27, 28, 37, 38] (by decide +kernel) (by decide +kernel)
set_option maxRecDepth 20000 in
theorem gX2_nextAsk_X2_mostAlike : GoodIn wsX2_nextAsk (wsV RX2 62 RX2 yX2_mostAlike wsX2_mostAlike) := goodIn_app (goodIn_of _ (by decide +kernel)) ggX2_nextAsk_X2_mostAlike
theorem dX2_nextAsk_0 : decode cX2_nextAsk 0 = .ok (.aload_n 0, 1) := by decide +kernel
theorem dX2_nextAsk_1 : decode cX2_nextAsk 1 = .ok (.iload_n 1, 1) := by decide +kernel
theorem dX2_nextAsk_2 : decode cX2_nextAsk 2 = .ok (.invokevirtual 65, 3) := by decide +kernel
theorem dX2_nextAsk_5 : decode cX2_nextAsk 5 = .ok (.istore_n 2, 1) := by decide +kernel
theorem dX2_nextAsk_6 : decode cX2_nextAsk 6 = .ok (.iconst (-1), 1) := by decide +kernel
theorem dX2_nextAsk_7 : decode cX2_nextAsk 7 = .ok (.istore_n 3, 1) := by decide +kernel
theorem dX2_nextAsk_8 : decode cX2_nextAsk 8 = .ok (.bipush 7, 2) := by decide +kernel
theorem dX2_nextAsk_10 : decode cX2_nextAsk 10 = .ok (.istore 4, 2) := by decide +kernel
theorem dX2_nextAsk_12 : decode cX2_nextAsk 12 = .ok (.iconst 0, 1) := by decide +kernel
theorem dX2_nextAsk_13 : decode cX2_nextAsk 13 = .ok (.istore 5, 2) := by decide +kernel
theorem dX2_nextAsk_15 : decode cX2_nextAsk 15 = .ok (.iload 5, 2) := by decide +kernel
theorem dX2_nextAsk_17 : decode cX2_nextAsk 17 = .ok (.iconst 1, 1) := by decide +kernel
theorem dX2_nextAsk_18 : decode cX2_nextAsk 18 = .ok (.if_icmp .gt 88, 3) := by decide +kernel
theorem dX2_nextAsk_21 : decode cX2_nextAsk 21 = .ok (.iload_n 2, 1) := by decide +kernel
theorem dX2_nextAsk_22 : decode cX2_nextAsk 22 = .ok (.ifCond .eq 84, 3) := by decide +kernel
theorem dX2_nextAsk_25 : decode cX2_nextAsk 25 = .ok (.iconst 0, 1) := by decide +kernel
theorem dX2_nextAsk_26 : decode cX2_nextAsk 26 = .ok (.istore 6, 2) := by decide +kernel
theorem dX2_nextAsk_28 : decode cX2_nextAsk 28 = .ok (.iload 6, 2) := by decide +kernel
theorem dX2_nextAsk_30 : decode cX2_nextAsk 30 = .ok (.bipush 60, 2) := by decide +kernel
theorem dX2_nextAsk_32 : decode cX2_nextAsk 32 = .ok (.if_icmp .gt 68, 3) := by decide +kernel
theorem dX2_nextAsk_35 : decode cX2_nextAsk 35 = .ok (.iconst 0, 1) := by decide +kernel
theorem dX2_nextAsk_36 : decode cX2_nextAsk 36 = .ok (.istore 7, 2) := by decide +kernel
theorem dX2_nextAsk_38 : decode cX2_nextAsk 38 = .ok (.iload 7, 2) := by decide +kernel
theorem dX2_nextAsk_40 : decode cX2_nextAsk 40 = .ok (.bipush 6, 2) := by decide +kernel
theorem dX2_nextAsk_42 : decode cX2_nextAsk 42 = .ok (.if_icmp .ge 25, 3) := by decide +kernel
theorem dX2_nextAsk_45 : decode cX2_nextAsk 45 = .ok (.aload_n 0, 1) := by decide +kernel
theorem dX2_nextAsk_46 : decode cX2_nextAsk 46 = .ok (.getfield 9, 3) := by decide +kernel
theorem dX2_nextAsk_49 : decode cX2_nextAsk 49 = .ok (.iload 7, 2) := by decide +kernel
theorem dX2_nextAsk_51 : decode cX2_nextAsk 51 = .ok (.iload 7, 2) := by decide +kernel
theorem dX2_nextAsk_53 : decode cX2_nextAsk 53 = .ok (.iload 6, 2) := by decide +kernel
theorem dX2_nextAsk_55 : decode cX2_nextAsk 55 = .ok (.iload 5, 2) := by decide +kernel
theorem dX2_nextAsk_57 : decode cX2_nextAsk 57 = .ok (.invokestatic 51, 3) := by decide +kernel
theorem dX2_nextAsk_60 : decode cX2_nextAsk 60 = .ok (.iastore, 1) := by decide +kernel
theorem dX2_nextAsk_61 : decode cX2_nextAsk 61 = .ok (.iinc 7 1, 3) := by decide +kernel
theorem dX2_nextAsk_64 : decode cX2_nextAsk 64 = .ok (.goto (-26), 3) := by decide +kernel
theorem dX2_nextAsk_67 : decode cX2_nextAsk 67 = .ok (.aload_n 0, 1) := by decide +kernel
theorem dX2_nextAsk_68 : decode cX2_nextAsk 68 = .ok (.iload_n 2, 1) := by decide +kernel
theorem dX2_nextAsk_69 : decode cX2_nextAsk 69 = .ok (.invokevirtual 62, 3) := by decide +kernel
theorem dX2_nextAsk_72 : decode cX2_nextAsk 72 = .ok (.istore 7, 2) := by decide +kernel
theorem dX2_nextAsk_74 : decode cX2_nextAsk 74 = .ok (.iload 7, 2) := by decide +kernel
theorem dX2_nextAsk_76 : decode cX2_nextAsk 76 = .ok (.iload 4, 2) := by decide +kernel
theorem dX2_nextAsk_78 : decode cX2_nextAsk 78 = .ok (.if_icmp .ge 16, 3) := by decide +kernel
theorem dX2_nextAsk_81 : decode cX2_nextAsk 81 = .ok (.iload 7, 2) := by decide +kernel
theorem dX2_nextAsk_83 : decode cX2_nextAsk 83 = .ok (.istore 4, 2) := by decide +kernel
theorem dX2_nextAsk_85 : decode cX2_nextAsk 85 = .ok (.bipush 100, 2) := by decide +kernel
theorem dX2_nextAsk_87 : decode cX2_nextAsk 87 = .ok (.iload 5, 2) := by decide +kernel
theorem dX2_nextAsk_89 : decode cX2_nextAsk 89 = .ok (.imul, 1) := by decide +kernel
theorem dX2_nextAsk_90 : decode cX2_nextAsk 90 = .ok (.iload 6, 2) := by decide +kernel
theorem dX2_nextAsk_92 : decode cX2_nextAsk 92 = .ok (.iadd, 1) := by decide +kernel
theorem dX2_nextAsk_93 : decode cX2_nextAsk 93 = .ok (.istore_n 3, 1) := by decide +kernel
theorem dX2_nextAsk_94 : decode cX2_nextAsk 94 = .ok (.iinc 6 1, 3) := by decide +kernel
theorem dX2_nextAsk_97 : decode cX2_nextAsk 97 = .ok (.goto (-69), 3) := by decide +kernel
theorem dX2_nextAsk_100 : decode cX2_nextAsk 100 = .ok (.iinc 5 1, 3) := by decide +kernel
theorem dX2_nextAsk_103 : decode cX2_nextAsk 103 = .ok (.goto (-88), 3) := by decide +kernel
theorem dX2_nextAsk_106 : decode cX2_nextAsk 106 = .ok (.iload_n 3, 1) := by decide +kernel
theorem dX2_nextAsk_107 : decode cX2_nextAsk 107 = .ok (.ireturn, 1) := by decide +kernel
theorem dX2_mostAlike_0 : decode cX2_mostAlike 0 = .ok (.iconst 0, 1) := by decide +kernel
theorem dX2_mostAlike_1 : decode cX2_mostAlike 1 = .ok (.istore_n 2, 1) := by decide +kernel
theorem dX2_mostAlike_2 : decode cX2_mostAlike 2 = .ok (.iconst 0, 1) := by decide +kernel
theorem dX2_mostAlike_3 : decode cX2_mostAlike 3 = .ok (.istore_n 3, 1) := by decide +kernel
theorem dX2_mostAlike_4 : decode cX2_mostAlike 4 = .ok (.iload_n 3, 1) := by decide +kernel
theorem dX2_mostAlike_5 : decode cX2_mostAlike 5 = .ok (.bipush 6, 2) := by decide +kernel
theorem dX2_mostAlike_7 : decode cX2_mostAlike 7 = .ok (.if_icmp .ge 85, 3) := by decide +kernel
theorem dX2_mostAlike_10 : decode cX2_mostAlike 10 = .ok (.iconst 0, 1) := by decide +kernel
theorem dX2_mostAlike_11 : decode cX2_mostAlike 11 = .ok (.istore 4, 2) := by decide +kernel
theorem dX2_mostAlike_13 : decode cX2_mostAlike 13 = .ok (.iconst 0, 1) := by decide +kernel
theorem dX2_mostAlike_14 : decode cX2_mostAlike 14 = .ok (.istore 5, 2) := by decide +kernel
theorem dX2_mostAlike_16 : decode cX2_mostAlike 16 = .ok (.iload 5, 2) := by decide +kernel
theorem dX2_mostAlike_18 : decode cX2_mostAlike 18 = .ok (.bipush 6, 2) := by decide +kernel
theorem dX2_mostAlike_20 : decode cX2_mostAlike 20 = .ok (.if_icmp .ge 59, 3) := by decide +kernel
theorem dX2_mostAlike_23 : decode cX2_mostAlike 23 = .ok (.iload_n 1, 1) := by decide +kernel
theorem dX2_mostAlike_24 : decode cX2_mostAlike 24 = .ok (.iload_n 3, 1) := by decide +kernel
theorem dX2_mostAlike_25 : decode cX2_mostAlike 25 = .ok (.ishr, 1) := by decide +kernel
theorem dX2_mostAlike_26 : decode cX2_mostAlike 26 = .ok (.iconst 1, 1) := by decide +kernel
theorem dX2_mostAlike_27 : decode cX2_mostAlike 27 = .ok (.iand, 1) := by decide +kernel
theorem dX2_mostAlike_28 : decode cX2_mostAlike 28 = .ok (.iconst 1, 1) := by decide +kernel
theorem dX2_mostAlike_29 : decode cX2_mostAlike 29 = .ok (.if_icmp .ne 17, 3) := by decide +kernel
theorem dX2_mostAlike_32 : decode cX2_mostAlike 32 = .ok (.iload_n 1, 1) := by decide +kernel
theorem dX2_mostAlike_33 : decode cX2_mostAlike 33 = .ok (.iload 5, 2) := by decide +kernel
theorem dX2_mostAlike_35 : decode cX2_mostAlike 35 = .ok (.ishr, 1) := by decide +kernel
theorem dX2_mostAlike_36 : decode cX2_mostAlike 36 = .ok (.iconst 1, 1) := by decide +kernel
theorem dX2_mostAlike_37 : decode cX2_mostAlike 37 = .ok (.iand, 1) := by decide +kernel
theorem dX2_mostAlike_38 : decode cX2_mostAlike 38 = .ok (.iconst 1, 1) := by decide +kernel
theorem dX2_mostAlike_39 : decode cX2_mostAlike 39 = .ok (.if_icmp .ne 7, 3) := by decide +kernel
theorem dX2_mostAlike_42 : decode cX2_mostAlike 42 = .ok (.iconst 1, 1) := by decide +kernel
theorem dX2_mostAlike_43 : decode cX2_mostAlike 43 = .ok (.goto 4, 3) := by decide +kernel
theorem dX2_mostAlike_46 : decode cX2_mostAlike 46 = .ok (.iconst 0, 1) := by decide +kernel
theorem dX2_mostAlike_47 : decode cX2_mostAlike 47 = .ok (.istore 6, 2) := by decide +kernel
theorem dX2_mostAlike_49 : decode cX2_mostAlike 49 = .ok (.iload 6, 2) := by decide +kernel
theorem dX2_mostAlike_51 : decode cX2_mostAlike 51 = .ok (.ifCond .eq 22, 3) := by decide +kernel
theorem dX2_mostAlike_54 : decode cX2_mostAlike 54 = .ok (.aload_n 0, 1) := by decide +kernel
theorem dX2_mostAlike_55 : decode cX2_mostAlike 55 = .ok (.getfield 9, 3) := by decide +kernel
theorem dX2_mostAlike_58 : decode cX2_mostAlike 58 = .ok (.iload_n 3, 1) := by decide +kernel
theorem dX2_mostAlike_59 : decode cX2_mostAlike 59 = .ok (.iaload, 1) := by decide +kernel
theorem dX2_mostAlike_60 : decode cX2_mostAlike 60 = .ok (.aload_n 0, 1) := by decide +kernel
theorem dX2_mostAlike_61 : decode cX2_mostAlike 61 = .ok (.getfield 9, 3) := by decide +kernel
theorem dX2_mostAlike_64 : decode cX2_mostAlike 64 = .ok (.iload 5, 2) := by decide +kernel
theorem dX2_mostAlike_66 : decode cX2_mostAlike 66 = .ok (.iaload, 1) := by decide +kernel
theorem dX2_mostAlike_67 : decode cX2_mostAlike 67 = .ok (.if_icmp .ne 6, 3) := by decide +kernel
theorem dX2_mostAlike_70 : decode cX2_mostAlike 70 = .ok (.iinc 4 1, 3) := by decide +kernel
theorem dX2_mostAlike_73 : decode cX2_mostAlike 73 = .ok (.iinc 5 1, 3) := by decide +kernel
theorem dX2_mostAlike_76 : decode cX2_mostAlike 76 = .ok (.goto (-60), 3) := by decide +kernel
theorem dX2_mostAlike_79 : decode cX2_mostAlike 79 = .ok (.iload_n 2, 1) := by decide +kernel
theorem dX2_mostAlike_80 : decode cX2_mostAlike 80 = .ok (.iload 4, 2) := by decide +kernel
theorem dX2_mostAlike_82 : decode cX2_mostAlike 82 = .ok (.invokestatic 68, 3) := by decide +kernel
theorem dX2_mostAlike_85 : decode cX2_mostAlike 85 = .ok (.istore_n 2, 1) := by decide +kernel
theorem dX2_mostAlike_86 : decode cX2_mostAlike 86 = .ok (.iinc 3 1, 3) := by decide +kernel
theorem dX2_mostAlike_89 : decode cX2_mostAlike 89 = .ok (.goto (-85), 3) := by decide +kernel
theorem dX2_mostAlike_92 : decode cX2_mostAlike 92 = .ok (.iload_n 2, 1) := by decide +kernel
theorem dX2_mostAlike_93 : decode cX2_mostAlike 93 = .ok (.ireturn, 1) := by decide +kernel
theorem dX3_scent_0 : decode cX3_scent 0 = .ok (.iload_n 1, 1) := by decide +kernel
theorem dX3_scent_1 : decode cX3_scent 1 = .ok (.iconst 2, 1) := by decide +kernel
theorem dX3_scent_2 : decode cX3_scent 2 = .ok (.iload_n 2, 1) := by decide +kernel
theorem dX3_scent_3 : decode cX3_scent 3 = .ok (.imul, 1) := by decide +kernel
theorem dX3_scent_4 : decode cX3_scent 4 = .ok (.if_icmp .le 11, 3) := by decide +kernel
theorem dX3_scent_7 : decode cX3_scent 7 = .ok (.iload_n 1, 1) := by decide +kernel
theorem dX3_scent_8 : decode cX3_scent 8 = .ok (.iconst 2, 1) := by decide +kernel
theorem dX3_scent_9 : decode cX3_scent 9 = .ok (.iload_n 2, 1) := by decide +kernel
theorem dX3_scent_10 : decode cX3_scent 10 = .ok (.imul, 1) := by decide +kernel
theorem dX3_scent_11 : decode cX3_scent 11 = .ok (.isub, 1) := by decide +kernel
theorem dX3_scent_12 : decode cX3_scent 12 = .ok (.goto 4, 3) := by decide +kernel
theorem dX3_scent_15 : decode cX3_scent 15 = .ok (.iconst 0, 1) := by decide +kernel
theorem dX3_scent_16 : decode cX3_scent 16 = .ok (.istore 4, 2) := by decide +kernel
theorem dX3_scent_18 : decode cX3_scent 18 = .ok (.iload 4, 2) := by decide +kernel
theorem dX3_scent_20 : decode cX3_scent 20 = .ok (.iconst 1, 1) := by decide +kernel
theorem dX3_scent_21 : decode cX3_scent 21 = .ok (.if_icmp .lt 10, 3) := by decide +kernel
theorem dX3_scent_24 : decode cX3_scent 24 = .ok (.iload 4, 2) := by decide +kernel
theorem dX3_scent_26 : decode cX3_scent 26 = .ok (.iconst 2, 1) := by decide +kernel
theorem dX3_scent_27 : decode cX3_scent 27 = .ok (.iadd, 1) := by decide +kernel
theorem dX3_scent_28 : decode cX3_scent 28 = .ok (.goto 4, 3) := by decide +kernel
theorem dX3_scent_31 : decode cX3_scent 31 = .ok (.iconst 0, 1) := by decide +kernel
theorem dX3_scent_32 : decode cX3_scent 32 = .ok (.istore 5, 2) := by decide +kernel
theorem dX3_scent_34 : decode cX3_scent 34 = .ok (.iload_n 3, 1) := by decide +kernel
theorem dX3_scent_35 : decode cX3_scent 35 = .ok (.bipush 7, 2) := by decide +kernel
theorem dX3_scent_37 : decode cX3_scent 37 = .ok (.irem, 1) := by decide +kernel
theorem dX3_scent_38 : decode cX3_scent 38 = .ok (.ifCond .ne 10, 3) := by decide +kernel
theorem dX3_scent_41 : decode cX3_scent 41 = .ok (.iload 4, 2) := by decide +kernel
theorem dX3_scent_43 : decode cX3_scent 43 = .ok (.iconst 5, 1) := by decide +kernel
theorem dX3_scent_44 : decode cX3_scent 44 = .ok (.iadd, 1) := by decide +kernel
theorem dX3_scent_45 : decode cX3_scent 45 = .ok (.goto 5, 3) := by decide +kernel
theorem dX3_scent_48 : decode cX3_scent 48 = .ok (.iload 4, 2) := by decide +kernel
theorem dX3_scent_50 : decode cX3_scent 50 = .ok (.istore 6, 2) := by decide +kernel
theorem dX3_scent_52 : decode cX3_scent 52 = .ok (.iload_n 0, 1) := by decide +kernel
theorem dX3_scent_53 : decode cX3_scent 53 = .ok (.tableswitch 70 1 5 #[35, 38, 41, 46, 53], 35) := by decide +kernel
theorem dX3_scent_88 : decode cX3_scent 88 = .ok (.iload 5, 2) := by decide +kernel
theorem dX3_scent_90 : decode cX3_scent 90 = .ok (.ireturn, 1) := by decide +kernel
theorem dX3_scent_91 : decode cX3_scent 91 = .ok (.iload 6, 2) := by decide +kernel
theorem dX3_scent_93 : decode cX3_scent 93 = .ok (.ireturn, 1) := by decide +kernel
theorem dX3_scent_94 : decode cX3_scent 94 = .ok (.iconst 2, 1) := by decide +kernel
theorem dX3_scent_95 : decode cX3_scent 95 = .ok (.iload 5, 2) := by decide +kernel
theorem dX3_scent_97 : decode cX3_scent 97 = .ok (.imul, 1) := by decide +kernel
theorem dX3_scent_98 : decode cX3_scent 98 = .ok (.ireturn, 1) := by decide +kernel
theorem dX3_scent_99 : decode cX3_scent 99 = .ok (.iload 4, 2) := by decide +kernel
theorem dX3_scent_101 : decode cX3_scent 101 = .ok (.iconst 1, 1) := by decide +kernel
theorem dX3_scent_102 : decode cX3_scent 102 = .ok (.iadd, 1) := by decide +kernel
theorem dX3_scent_103 : decode cX3_scent 103 = .ok (.iconst 2, 1) := by decide +kernel
theorem dX3_scent_104 : decode cX3_scent 104 = .ok (.idiv, 1) := by decide +kernel
theorem dX3_scent_105 : decode cX3_scent 105 = .ok (.ireturn, 1) := by decide +kernel
theorem dX3_scent_106 : decode cX3_scent 106 = .ok (.iload 6, 2) := by decide +kernel
theorem dX3_scent_108 : decode cX3_scent 108 = .ok (.iload_n 2, 1) := by decide +kernel
theorem dX3_scent_109 : decode cX3_scent 109 = .ok (.isub, 1) := by decide +kernel
theorem dX3_scent_110 : decode cX3_scent 110 = .ok (.iconst 1, 1) := by decide +kernel
theorem dX3_scent_111 : decode cX3_scent 111 = .ok (.if_icmp .le 10, 3) := by decide +kernel
theorem dX3_scent_114 : decode cX3_scent 114 = .ok (.iload 6, 2) := by decide +kernel
theorem dX3_scent_116 : decode cX3_scent 116 = .ok (.iload_n 2, 1) := by decide +kernel
theorem dX3_scent_117 : decode cX3_scent 117 = .ok (.isub, 1) := by decide +kernel
theorem dX3_scent_118 : decode cX3_scent 118 = .ok (.goto 4, 3) := by decide +kernel
theorem dX3_scent_121 : decode cX3_scent 121 = .ok (.iconst 1, 1) := by decide +kernel
theorem dX3_scent_122 : decode cX3_scent 122 = .ok (.ireturn, 1) := by decide +kernel
theorem dX3_scent_123 : decode cX3_scent 123 = .ok (.iload 4, 2) := by decide +kernel
theorem dX3_scent_125 : decode cX3_scent 125 = .ok (.ireturn, 1) := by decide +kernel
theorem dX3_loss_0 : decode cX3_loss 0 = .ok (.iload_n 1, 1) := by decide +kernel
theorem dX3_loss_1 : decode cX3_loss 1 = .ok (.iconst 2, 1) := by decide +kernel
theorem dX3_loss_2 : decode cX3_loss 2 = .ok (.idiv, 1) := by decide +kernel
theorem dX3_loss_3 : decode cX3_loss 3 = .ok (.istore_n 3, 1) := by decide +kernel
theorem dX3_loss_4 : decode cX3_loss 4 = .ok (.iconst 0, 1) := by decide +kernel
theorem dX3_loss_5 : decode cX3_loss 5 = .ok (.iload_n 3, 1) := by decide +kernel
theorem dX3_loss_6 : decode cX3_loss 6 = .ok (.iconst 1, 1) := by decide +kernel
theorem dX3_loss_7 : decode cX3_loss 7 = .ok (.isub, 1) := by decide +kernel
theorem dX3_loss_8 : decode cX3_loss 8 = .ok (.invokestatic 7, 3) := by decide +kernel
theorem dX3_loss_11 : decode cX3_loss 11 = .ok (.istore 4, 2) := by decide +kernel
theorem dX3_loss_13 : decode cX3_loss 13 = .ok (.iload_n 1, 1) := by decide +kernel
theorem dX3_loss_14 : decode cX3_loss 14 = .ok (.iconst 1, 1) := by decide +kernel
theorem dX3_loss_15 : decode cX3_loss 15 = .ok (.if_icmp .lt 9, 3) := by decide +kernel
theorem dX3_loss_18 : decode cX3_loss 18 = .ok (.iload_n 3, 1) := by decide +kernel
theorem dX3_loss_19 : decode cX3_loss 19 = .ok (.iconst 2, 1) := by decide +kernel
theorem dX3_loss_20 : decode cX3_loss 20 = .ok (.iadd, 1) := by decide +kernel
theorem dX3_loss_21 : decode cX3_loss 21 = .ok (.goto 4, 3) := by decide +kernel
theorem dX3_loss_24 : decode cX3_loss 24 = .ok (.iload_n 3, 1) := by decide +kernel
theorem dX3_loss_25 : decode cX3_loss 25 = .ok (.istore 5, 2) := by decide +kernel
theorem dX3_loss_27 : decode cX3_loss 27 = .ok (.iload_n 0, 1) := by decide +kernel
theorem dX3_loss_28 : decode cX3_loss 28 = .ok (.tableswitch 81 1 5 #[36, 39, 42, 57, 71], 36) := by decide +kernel
theorem dX3_loss_64 : decode cX3_loss 64 = .ok (.iload 4, 2) := by decide +kernel
theorem dX3_loss_66 : decode cX3_loss 66 = .ok (.ireturn, 1) := by decide +kernel
theorem dX3_loss_67 : decode cX3_loss 67 = .ok (.iload 5, 2) := by decide +kernel
theorem dX3_loss_69 : decode cX3_loss 69 = .ok (.ireturn, 1) := by decide +kernel
theorem dX3_loss_70 : decode cX3_loss 70 = .ok (.iload_n 2, 1) := by decide +kernel
theorem dX3_loss_71 : decode cX3_loss 71 = .ok (.bipush 13, 2) := by decide +kernel
theorem dX3_loss_73 : decode cX3_loss 73 = .ok (.irem, 1) := by decide +kernel
theorem dX3_loss_74 : decode cX3_loss 74 = .ok (.ifCond .ne 8, 3) := by decide +kernel
theorem dX3_loss_77 : decode cX3_loss 77 = .ok (.bipush 6, 2) := by decide +kernel
theorem dX3_loss_79 : decode cX3_loss 79 = .ok (.goto 5, 3) := by decide +kernel
theorem dX3_loss_82 : decode cX3_loss 82 = .ok (.iload 4, 2) := by decide +kernel
theorem dX3_loss_84 : decode cX3_loss 84 = .ok (.ireturn, 1) := by decide +kernel
theorem dX3_loss_85 : decode cX3_loss 85 = .ok (.iload_n 2, 1) := by decide +kernel
theorem dX3_loss_86 : decode cX3_loss 86 = .ok (.bipush 20, 2) := by decide +kernel
theorem dX3_loss_88 : decode cX3_loss 88 = .ok (.if_icmp .lt 9, 3) := by decide +kernel
theorem dX3_loss_91 : decode cX3_loss 91 = .ok (.iload_n 3, 1) := by decide +kernel
theorem dX3_loss_92 : decode cX3_loss 92 = .ok (.iconst 1, 1) := by decide +kernel
theorem dX3_loss_93 : decode cX3_loss 93 = .ok (.iadd, 1) := by decide +kernel
theorem dX3_loss_94 : decode cX3_loss 94 = .ok (.goto 4, 3) := by decide +kernel
theorem dX3_loss_97 : decode cX3_loss 97 = .ok (.iload_n 3, 1) := by decide +kernel
theorem dX3_loss_98 : decode cX3_loss 98 = .ok (.ireturn, 1) := by decide +kernel
theorem dX3_loss_99 : decode cX3_loss 99 = .ok (.bipush 9, 2) := by decide +kernel
theorem dX3_loss_101 : decode cX3_loss 101 = .ok (.iconst 2, 1) := by decide +kernel
theorem dX3_loss_102 : decode cX3_loss 102 = .ok (.iload 5, 2) := by decide +kernel
theorem dX3_loss_104 : decode cX3_loss 104 = .ok (.imul, 1) := by decide +kernel
theorem dX3_loss_105 : decode cX3_loss 105 = .ok (.invokestatic 13, 3) := by decide +kernel
theorem dX3_loss_108 : decode cX3_loss 108 = .ok (.ireturn, 1) := by decide +kernel
theorem dX3_loss_109 : decode cX3_loss 109 = .ok (.iload_n 3, 1) := by decide +kernel
theorem dX3_loss_110 : decode cX3_loss 110 = .ok (.ireturn, 1) := by decide +kernel
set_option maxRecDepth 20000 in
theorem ggX4_init_X6_init : GoodIn wsX4_init wsX6_init := goodIn_r _ [21, 22, 2, 3, 23, 24, 4, 25, 41, 42, 43, 44] (by decide +kernel) (by decide +kernel)
set_option maxRecDepth 20000 in
theorem gX4_init_X6_init : GoodIn wsX4_init (wsX6_init) := ggX4_init_X6_init
theorem dX4_init_0 : decode cX4_init 0 = .ok (.aload_n 0, 1) := by decide +kernel
theorem dX4_init_1 : decode cX4_init 1 = .ok (.invokespecial 3, 3) := by decide +kernel
theorem dX4_init_4 : decode cX4_init 4 = .ok (.aload_n 0, 1) := by decide +kernel
theorem dX4_init_5 : decode cX4_init 5 = .ok (.iconst 3, 1) := by decide +kernel
theorem dX4_init_6 : decode cX4_init 6 = .ok (.newarray .int, 2) := by decide +kernel
theorem dX4_init_8 : decode cX4_init 8 = .ok (.putfield 9, 3) := by decide +kernel
theorem dX4_init_11 : decode cX4_init 11 = .ok (.aload_n 0, 1) := by decide +kernel
theorem dX4_init_12 : decode cX4_init 12 = .ok (.iconst 3, 1) := by decide +kernel
theorem dX4_init_13 : decode cX4_init 13 = .ok (.newarray .int, 2) := by decide +kernel
theorem dX4_init_15 : decode cX4_init 15 = .ok (.putfield 15, 3) := by decide +kernel
theorem dX4_init_18 : decode cX4_init 18 = .ok (.aload_n 0, 1) := by decide +kernel
theorem dX4_init_19 : decode cX4_init 19 = .ok (.iconst 3, 1) := by decide +kernel
theorem dX4_init_20 : decode cX4_init 20 = .ok (.newarray .int, 2) := by decide +kernel
theorem dX4_init_22 : decode cX4_init 22 = .ok (.putfield 18, 3) := by decide +kernel
theorem dX4_init_25 : decode cX4_init 25 = .ok (.aload_n 0, 1) := by decide +kernel
theorem dX4_init_26 : decode cX4_init 26 = .ok (.bipush 7, 2) := by decide +kernel
theorem dX4_init_28 : decode cX4_init 28 = .ok (.newarray .int, 2) := by decide +kernel
theorem dX4_init_30 : decode cX4_init 30 = .ok (.putfield 21, 3) := by decide +kernel
theorem dX4_init_33 : decode cX4_init 33 = .ok (.aload_n 0, 1) := by decide +kernel
theorem dX4_init_34 : decode cX4_init 34 = .ok (.bipush 7, 2) := by decide +kernel
theorem dX4_init_36 : decode cX4_init 36 = .ok (.newarray .int, 2) := by decide +kernel
theorem dX4_init_38 : decode cX4_init 38 = .ok (.putfield 24, 3) := by decide +kernel
theorem dX4_init_41 : decode cX4_init 41 = .ok (.aload_n 0, 1) := by decide +kernel
theorem dX4_init_42 : decode cX4_init 42 = .ok (.bipush 7, 2) := by decide +kernel
theorem dX4_init_44 : decode cX4_init 44 = .ok (.newarray .int, 2) := by decide +kernel
theorem dX4_init_46 : decode cX4_init 46 = .ok (.putfield 27, 3) := by decide +kernel
theorem dX4_init_49 : decode cX4_init 49 = .ok (.aload_n 0, 1) := by decide +kernel
theorem dX4_init_50 : decode cX4_init 50 = .ok (.bipush 7, 2) := by decide +kernel
theorem dX4_init_52 : decode cX4_init 52 = .ok (.newarray .int, 2) := by decide +kernel
theorem dX4_init_54 : decode cX4_init 54 = .ok (.putfield 30, 3) := by decide +kernel
theorem dX4_init_57 : decode cX4_init 57 = .ok (.aload_n 0, 1) := by decide +kernel
theorem dX4_init_58 : decode cX4_init 58 = .ok (.new 33, 3) := by decide +kernel
theorem dX4_init_61 : decode cX4_init 61 = .ok (.dup, 1) := by decide +kernel
theorem dX4_init_62 : decode cX4_init 62 = .ok (.bipush 16, 2) := by decide +kernel
theorem dX4_init_64 : decode cX4_init 64 = .ok (.bipush 8, 2) := by decide +kernel
theorem dX4_init_66 : decode cX4_init 66 = .ok (.invokespecial 35, 3) := by decide +kernel
theorem dX4_init_69 : decode cX4_init 69 = .ok (.putfield 38, 3) := by decide +kernel
theorem dX4_init_72 : decode cX4_init 72 = .ok (.aload_n 0, 1) := by decide +kernel
theorem dX4_init_73 : decode cX4_init 73 = .ok (.new 33, 3) := by decide +kernel
theorem dX4_init_76 : decode cX4_init 76 = .ok (.dup, 1) := by decide +kernel
theorem dX4_init_77 : decode cX4_init 77 = .ok (.iconst 3, 1) := by decide +kernel
theorem dX4_init_78 : decode cX4_init 78 = .ok (.iconst 5, 1) := by decide +kernel
theorem dX4_init_79 : decode cX4_init 79 = .ok (.invokespecial 35, 3) := by decide +kernel
theorem dX4_init_82 : decode cX4_init 82 = .ok (.putfield 42, 3) := by decide +kernel
theorem dX4_init_85 : decode cX4_init 85 = .ok (.aload_n 0, 1) := by decide +kernel
theorem dX4_init_86 : decode cX4_init 86 = .ok (.new 33, 3) := by decide +kernel
theorem dX4_init_89 : decode cX4_init 89 = .ok (.dup, 1) := by decide +kernel
theorem dX4_init_90 : decode cX4_init 90 = .ok (.iconst 5, 1) := by decide +kernel
theorem dX4_init_91 : decode cX4_init 91 = .ok (.bipush 6, 2) := by decide +kernel
theorem dX4_init_93 : decode cX4_init 93 = .ok (.invokespecial 35, 3) := by decide +kernel
theorem dX4_init_96 : decode cX4_init 96 = .ok (.putfield 45, 3) := by decide +kernel
theorem dX4_init_99 : decode cX4_init 99 = .ok (.aload_n 0, 1) := by decide +kernel
theorem dX4_init_100 : decode cX4_init 100 = .ok (.new 33, 3) := by decide +kernel
theorem dX4_init_103 : decode cX4_init 103 = .ok (.dup, 1) := by decide +kernel
theorem dX4_init_104 : decode cX4_init 104 = .ok (.iconst 4, 1) := by decide +kernel
theorem dX4_init_105 : decode cX4_init 105 = .ok (.bipush 6, 2) := by decide +kernel
theorem dX4_init_107 : decode cX4_init 107 = .ok (.invokespecial 35, 3) := by decide +kernel
theorem dX4_init_110 : decode cX4_init 110 = .ok (.putfield 48, 3) := by decide +kernel
theorem dX4_init_113 : decode cX4_init 113 = .ok (.return_, 1) := by decide +kernel
theorem dX4_empty_0 : decode cX4_empty 0 = .ok (.aload_n 0, 1) := by decide +kernel
theorem dX4_empty_1 : decode cX4_empty 1 = .ok (.iconst 0, 1) := by decide +kernel
theorem dX4_empty_2 : decode cX4_empty 2 = .ok (.putfield 51, 3) := by decide +kernel
theorem dX4_empty_5 : decode cX4_empty 5 = .ok (.aload_n 0, 1) := by decide +kernel
theorem dX4_empty_6 : decode cX4_empty 6 = .ok (.iconst 0, 1) := by decide +kernel
theorem dX4_empty_7 : decode cX4_empty 7 = .ok (.putfield 55, 3) := by decide +kernel
theorem dX4_empty_10 : decode cX4_empty 10 = .ok (.aload_n 0, 1) := by decide +kernel
theorem dX4_empty_11 : decode cX4_empty 11 = .ok (.iconst 0, 1) := by decide +kernel
theorem dX4_empty_12 : decode cX4_empty 12 = .ok (.putfield 58, 3) := by decide +kernel
theorem dX4_empty_15 : decode cX4_empty 15 = .ok (.aload_n 0, 1) := by decide +kernel
theorem dX4_empty_16 : decode cX4_empty 16 = .ok (.iconst 0, 1) := by decide +kernel
theorem dX4_empty_17 : decode cX4_empty 17 = .ok (.putfield 61, 3) := by decide +kernel
theorem dX4_empty_20 : decode cX4_empty 20 = .ok (.aload_n 0, 1) := by decide +kernel
theorem dX4_empty_21 : decode cX4_empty 21 = .ok (.getfield 38, 3) := by decide +kernel
theorem dX4_empty_24 : decode cX4_empty 24 = .ok (.iconst 0, 1) := by decide +kernel
theorem dX4_empty_25 : decode cX4_empty 25 = .ok (.putfield 64, 3) := by decide +kernel
theorem dX4_empty_28 : decode cX4_empty 28 = .ok (.aload_n 0, 1) := by decide +kernel
theorem dX4_empty_29 : decode cX4_empty 29 = .ok (.getfield 42, 3) := by decide +kernel
theorem dX4_empty_32 : decode cX4_empty 32 = .ok (.iconst 0, 1) := by decide +kernel
theorem dX4_empty_33 : decode cX4_empty 33 = .ok (.putfield 64, 3) := by decide +kernel
theorem dX4_empty_36 : decode cX4_empty 36 = .ok (.aload_n 0, 1) := by decide +kernel
theorem dX4_empty_37 : decode cX4_empty 37 = .ok (.getfield 45, 3) := by decide +kernel
theorem dX4_empty_40 : decode cX4_empty 40 = .ok (.iconst 0, 1) := by decide +kernel
theorem dX4_empty_41 : decode cX4_empty 41 = .ok (.putfield 64, 3) := by decide +kernel
theorem dX4_empty_44 : decode cX4_empty 44 = .ok (.aload_n 0, 1) := by decide +kernel
theorem dX4_empty_45 : decode cX4_empty 45 = .ok (.getfield 48, 3) := by decide +kernel
theorem dX4_empty_48 : decode cX4_empty 48 = .ok (.iconst 0, 1) := by decide +kernel
theorem dX4_empty_49 : decode cX4_empty 49 = .ok (.putfield 64, 3) := by decide +kernel
theorem dX4_empty_52 : decode cX4_empty 52 = .ok (.return_, 1) := by decide +kernel
set_option maxRecDepth 20000 in
theorem ggX4_become_X6_become : GoodIn wsX4_become wsX6_become := goodIn_r _ [24, 25, 26, 3, 4, 5, 27, 43, 44, 45, 46] (by decide +kernel) (by decide +kernel)
set_option maxRecDepth 20000 in
theorem gX4_become_X6_become : GoodIn wsX4_become (wsV RX4 73 RX6 yX6_become wsX6_become) := goodIn_app (goodIn_of _ (by decide +kernel)) ggX4_become_X6_become
theorem dX4_become_0 : decode cX4_become 0 = .ok (.aload_n 1, 1) := by decide +kernel
theorem dX4_become_1 : decode cX4_become 1 = .ok (.getfield 9, 3) := by decide +kernel
theorem dX4_become_4 : decode cX4_become 4 = .ok (.iconst 0, 1) := by decide +kernel
theorem dX4_become_5 : decode cX4_become 5 = .ok (.aload_n 0, 1) := by decide +kernel
theorem dX4_become_6 : decode cX4_become 6 = .ok (.getfield 9, 3) := by decide +kernel
theorem dX4_become_9 : decode cX4_become 9 = .ok (.iconst 0, 1) := by decide +kernel
theorem dX4_become_10 : decode cX4_become 10 = .ok (.iconst 3, 1) := by decide +kernel
theorem dX4_become_11 : decode cX4_become 11 = .ok (.invokestatic 67, 3) := by decide +kernel
theorem dX4_become_14 : decode cX4_become 14 = .ok (.aload_n 1, 1) := by decide +kernel
theorem dX4_become_15 : decode cX4_become 15 = .ok (.getfield 15, 3) := by decide +kernel
theorem dX4_become_18 : decode cX4_become 18 = .ok (.iconst 0, 1) := by decide +kernel
theorem dX4_become_19 : decode cX4_become 19 = .ok (.aload_n 0, 1) := by decide +kernel
theorem dX4_become_20 : decode cX4_become 20 = .ok (.getfield 15, 3) := by decide +kernel
theorem dX4_become_23 : decode cX4_become 23 = .ok (.iconst 0, 1) := by decide +kernel
theorem dX4_become_24 : decode cX4_become 24 = .ok (.iconst 3, 1) := by decide +kernel
theorem dX4_become_25 : decode cX4_become 25 = .ok (.invokestatic 67, 3) := by decide +kernel
theorem dX4_become_28 : decode cX4_become 28 = .ok (.aload_n 1, 1) := by decide +kernel
theorem dX4_become_29 : decode cX4_become 29 = .ok (.getfield 18, 3) := by decide +kernel
theorem dX4_become_32 : decode cX4_become 32 = .ok (.iconst 0, 1) := by decide +kernel
theorem dX4_become_33 : decode cX4_become 33 = .ok (.aload_n 0, 1) := by decide +kernel
theorem dX4_become_34 : decode cX4_become 34 = .ok (.getfield 18, 3) := by decide +kernel
theorem dX4_become_37 : decode cX4_become 37 = .ok (.iconst 0, 1) := by decide +kernel
theorem dX4_become_38 : decode cX4_become 38 = .ok (.iconst 3, 1) := by decide +kernel
theorem dX4_become_39 : decode cX4_become 39 = .ok (.invokestatic 67, 3) := by decide +kernel
theorem dX4_become_42 : decode cX4_become 42 = .ok (.aload_n 1, 1) := by decide +kernel
theorem dX4_become_43 : decode cX4_become 43 = .ok (.getfield 21, 3) := by decide +kernel
theorem dX4_become_46 : decode cX4_become 46 = .ok (.iconst 0, 1) := by decide +kernel
theorem dX4_become_47 : decode cX4_become 47 = .ok (.aload_n 0, 1) := by decide +kernel
theorem dX4_become_48 : decode cX4_become 48 = .ok (.getfield 21, 3) := by decide +kernel
theorem dX4_become_51 : decode cX4_become 51 = .ok (.iconst 0, 1) := by decide +kernel
theorem dX4_become_52 : decode cX4_become 52 = .ok (.bipush 7, 2) := by decide +kernel
theorem dX4_become_54 : decode cX4_become 54 = .ok (.invokestatic 67, 3) := by decide +kernel
theorem dX4_become_57 : decode cX4_become 57 = .ok (.aload_n 1, 1) := by decide +kernel
theorem dX4_become_58 : decode cX4_become 58 = .ok (.getfield 24, 3) := by decide +kernel
theorem dX4_become_61 : decode cX4_become 61 = .ok (.iconst 0, 1) := by decide +kernel
theorem dX4_become_62 : decode cX4_become 62 = .ok (.aload_n 0, 1) := by decide +kernel
theorem dX4_become_63 : decode cX4_become 63 = .ok (.getfield 24, 3) := by decide +kernel
theorem dX4_become_66 : decode cX4_become 66 = .ok (.iconst 0, 1) := by decide +kernel
theorem dX4_become_67 : decode cX4_become 67 = .ok (.bipush 7, 2) := by decide +kernel
theorem dX4_become_69 : decode cX4_become 69 = .ok (.invokestatic 67, 3) := by decide +kernel
theorem dX4_become_72 : decode cX4_become 72 = .ok (.aload_n 1, 1) := by decide +kernel
theorem dX4_become_73 : decode cX4_become 73 = .ok (.getfield 27, 3) := by decide +kernel
theorem dX4_become_76 : decode cX4_become 76 = .ok (.iconst 0, 1) := by decide +kernel
theorem dX4_become_77 : decode cX4_become 77 = .ok (.aload_n 0, 1) := by decide +kernel
theorem dX4_become_78 : decode cX4_become 78 = .ok (.getfield 27, 3) := by decide +kernel
theorem dX4_become_81 : decode cX4_become 81 = .ok (.iconst 0, 1) := by decide +kernel
theorem dX4_become_82 : decode cX4_become 82 = .ok (.bipush 7, 2) := by decide +kernel
theorem dX4_become_84 : decode cX4_become 84 = .ok (.invokestatic 67, 3) := by decide +kernel
theorem dX4_become_87 : decode cX4_become 87 = .ok (.aload_n 1, 1) := by decide +kernel
theorem dX4_become_88 : decode cX4_become 88 = .ok (.getfield 30, 3) := by decide +kernel
theorem dX4_become_91 : decode cX4_become 91 = .ok (.iconst 0, 1) := by decide +kernel
theorem dX4_become_92 : decode cX4_become 92 = .ok (.aload_n 0, 1) := by decide +kernel
theorem dX4_become_93 : decode cX4_become 93 = .ok (.getfield 30, 3) := by decide +kernel
theorem dX4_become_96 : decode cX4_become 96 = .ok (.iconst 0, 1) := by decide +kernel
theorem dX4_become_97 : decode cX4_become 97 = .ok (.bipush 7, 2) := by decide +kernel
theorem dX4_become_99 : decode cX4_become 99 = .ok (.invokestatic 67, 3) := by decide +kernel
theorem dX4_become_102 : decode cX4_become 102 = .ok (.aload_n 0, 1) := by decide +kernel
theorem dX4_become_103 : decode cX4_become 103 = .ok (.getfield 38, 3) := by decide +kernel
theorem dX4_become_106 : decode cX4_become 106 = .ok (.aload_n 1, 1) := by decide +kernel
theorem dX4_become_107 : decode cX4_become 107 = .ok (.getfield 38, 3) := by decide +kernel
theorem dX4_become_110 : decode cX4_become 110 = .ok (.invokevirtual 73, 3) := by decide +kernel
theorem dX4_become_113 : decode cX4_become 113 = .ok (.aload_n 0, 1) := by decide +kernel
theorem dX4_become_114 : decode cX4_become 114 = .ok (.getfield 42, 3) := by decide +kernel
theorem dX4_become_117 : decode cX4_become 117 = .ok (.aload_n 1, 1) := by decide +kernel
theorem dX4_become_118 : decode cX4_become 118 = .ok (.getfield 42, 3) := by decide +kernel
theorem dX4_become_121 : decode cX4_become 121 = .ok (.invokevirtual 73, 3) := by decide +kernel
theorem dX4_become_124 : decode cX4_become 124 = .ok (.aload_n 0, 1) := by decide +kernel
theorem dX4_become_125 : decode cX4_become 125 = .ok (.getfield 45, 3) := by decide +kernel
theorem dX4_become_128 : decode cX4_become 128 = .ok (.aload_n 1, 1) := by decide +kernel
theorem dX4_become_129 : decode cX4_become 129 = .ok (.getfield 45, 3) := by decide +kernel
theorem dX4_become_132 : decode cX4_become 132 = .ok (.invokevirtual 73, 3) := by decide +kernel
theorem dX4_become_135 : decode cX4_become 135 = .ok (.aload_n 0, 1) := by decide +kernel
theorem dX4_become_136 : decode cX4_become 136 = .ok (.getfield 48, 3) := by decide +kernel
theorem dX4_become_139 : decode cX4_become 139 = .ok (.aload_n 1, 1) := by decide +kernel
theorem dX4_become_140 : decode cX4_become 140 = .ok (.getfield 48, 3) := by decide +kernel
theorem dX4_become_143 : decode cX4_become 143 = .ok (.invokevirtual 73, 3) := by decide +kernel
theorem dX4_become_146 : decode cX4_become 146 = .ok (.aload_n 0, 1) := by decide +kernel
theorem dX4_become_147 : decode cX4_become 147 = .ok (.aload_n 1, 1) := by decide +kernel
theorem dX4_become_148 : decode cX4_become 148 = .ok (.getfield 51, 3) := by decide +kernel
theorem dX4_become_151 : decode cX4_become 151 = .ok (.putfield 51, 3) := by decide +kernel
theorem dX4_become_154 : decode cX4_become 154 = .ok (.aload_n 0, 1) := by decide +kernel
theorem dX4_become_155 : decode cX4_become 155 = .ok (.aload_n 1, 1) := by decide +kernel
theorem dX4_become_156 : decode cX4_become 156 = .ok (.getfield 55, 3) := by decide +kernel
theorem dX4_become_159 : decode cX4_become 159 = .ok (.putfield 55, 3) := by decide +kernel
theorem dX4_become_162 : decode cX4_become 162 = .ok (.aload_n 0, 1) := by decide +kernel
theorem dX4_become_163 : decode cX4_become 163 = .ok (.aload_n 1, 1) := by decide +kernel
theorem dX4_become_164 : decode cX4_become 164 = .ok (.getfield 58, 3) := by decide +kernel
theorem dX4_become_167 : decode cX4_become 167 = .ok (.putfield 58, 3) := by decide +kernel

theorem dX9_undo_11 : decode cX9_undo 11 = .ok (.bipush (-3), 2) := by decide +kernel
theorem dX9_undo_13 : decode cX9_undo 13 = .ok (.invokevirtual 45, 3) := by decide +kernel
theorem dX9_undo_16 : decode cX9_undo 16 = .ok (.ireturn, 1) := by decide +kernel
theorem dX9_undo_17 : decode cX9_undo 17 = .ok (.aload_n 0, 1) := by decide +kernel
theorem dX9_undo_18 : decode cX9_undo 18 = .ok (.getfield 7, 3) := by decide +kernel
theorem dX9_undo_21 : decode cX9_undo 21 = .ok (.bipush 114, 2) := by decide +kernel
theorem dX9_undo_23 : decode cX9_undo 23 = .ok (.dup2, 1) := by decide +kernel
theorem dX9_undo_24 : decode cX9_undo 24 = .ok (.iaload, 1) := by decide +kernel
theorem dX9_undo_25 : decode cX9_undo 25 = .ok (.iconst 1, 1) := by decide +kernel
theorem dX9_undo_26 : decode cX9_undo 26 = .ok (.isub, 1) := by decide +kernel
theorem dX9_undo_27 : decode cX9_undo 27 = .ok (.iastore, 1) := by decide +kernel
theorem dX9_undo_28 : decode cX9_undo 28 = .ok (.iconst 0, 1) := by decide +kernel
theorem dX9_undo_29 : decode cX9_undo 29 = .ok (.istore_n 1, 1) := by decide +kernel
theorem dX9_undo_30 : decode cX9_undo 30 = .ok (.iload_n 1, 1) := by decide +kernel
theorem dX9_undo_31 : decode cX9_undo 31 = .ok (.bipush 17, 2) := by decide +kernel
theorem dX9_undo_33 : decode cX9_undo 33 = .ok (.if_icmp .ge 35, 3) := by decide +kernel
theorem dX9_undo_36 : decode cX9_undo 36 = .ok (.aload_n 0, 1) := by decide +kernel
theorem dX9_undo_37 : decode cX9_undo 37 = .ok (.getfield 7, 3) := by decide +kernel
theorem dX9_undo_40 : decode cX9_undo 40 = .ok (.iload_n 1, 1) := by decide +kernel
theorem dX9_undo_41 : decode cX9_undo 41 = .ok (.aload_n 0, 1) := by decide +kernel
theorem dX9_undo_42 : decode cX9_undo 42 = .ok (.getfield 7, 3) := by decide +kernel
theorem dX9_undo_45 : decode cX9_undo 45 = .ok (.bipush 115, 2) := by decide +kernel
theorem dX9_undo_47 : decode cX9_undo 47 = .ok (.bipush 17, 2) := by decide +kernel
theorem dX9_undo_49 : decode cX9_undo 49 = .ok (.aload_n 0, 1) := by decide +kernel
theorem dX9_undo_50 : decode cX9_undo 50 = .ok (.getfield 7, 3) := by decide +kernel
theorem dX9_undo_53 : decode cX9_undo 53 = .ok (.bipush 114, 2) := by decide +kernel
theorem dX9_undo_55 : decode cX9_undo 55 = .ok (.iaload, 1) := by decide +kernel
theorem dX9_undo_56 : decode cX9_undo 56 = .ok (.imul, 1) := by decide +kernel
theorem dX9_undo_57 : decode cX9_undo 57 = .ok (.iadd, 1) := by decide +kernel
theorem dX9_undo_58 : decode cX9_undo 58 = .ok (.iload_n 1, 1) := by decide +kernel
theorem dX9_undo_59 : decode cX9_undo 59 = .ok (.iadd, 1) := by decide +kernel
theorem dX9_undo_60 : decode cX9_undo 60 = .ok (.iaload, 1) := by decide +kernel
theorem dX9_undo_61 : decode cX9_undo 61 = .ok (.iastore, 1) := by decide +kernel
theorem dX9_undo_62 : decode cX9_undo 62 = .ok (.iinc 1 1, 3) := by decide +kernel
theorem dX9_undo_65 : decode cX9_undo 65 = .ok (.goto (-35), 3) := by decide +kernel
theorem dX9_undo_68 : decode cX9_undo 68 = .ok (.aload_n 0, 1) := by decide +kernel
theorem dX9_undo_69 : decode cX9_undo 69 = .ok (.getfield 7, 3) := by decide +kernel
theorem dX9_undo_72 : decode cX9_undo 72 = .ok (.bipush 16, 2) := by decide +kernel
theorem dX9_undo_74 : decode cX9_undo 74 = .ok (.iaload, 1) := by decide +kernel
theorem dX9_undo_75 : decode cX9_undo 75 = .ok (.ireturn, 1) := by decide +kernel
set_option maxRecDepth 20000 in
theorem ggX9_takesToday_X9_has : GoodIn wsX9_takesToday wsX9_has := goodIn_r _ [5] (by decide +kernel) (by decide +kernel)
set_option maxRecDepth 20000 in
theorem gX9_takesToday_X9_has : GoodIn wsX9_takesToday (va_wsS RX9 126 yX9_has wsX9_has) := goodIn_app (goodIn_of _ (by decide +kernel)) ggX9_takesToday_X9_has
set_option maxRecDepth 20000 in
theorem ggX9_takesToday_X9_smellOf : GoodIn wsX9_takesToday wsX9_smellOf := goodIn_r _ [9, 1, 2, 3, 4, 5, 10, 11, 12, 13, 14, 15, 16, 17, 18, 22, 23, 24, 25, 26, 27, 28, 29, 30, 31, 32, 33, 34, 35, 36, 37, 38, 39] (by decide +kernel) (by decide +kernel)
set_option maxRecDepth 20000 in
theorem gX9_takesToday_X9_smellOf : GoodIn wsX9_takesToday (wsV RX9 137 RX9 yX9_smellOf wsX9_smellOf) := goodIn_app (goodIn_of _ (by decide +kernel)) ggX9_takesToday_X9_smellOf
set_option maxRecDepth 20000 in
theorem ggX9_takesToday_X9_takesBy : GoodIn wsX9_takesToday wsX9_takesBy := goodIn_r _ [21] (by decide +kernel) (by decide +kernel)
set_option maxRecDepth 20000 in
theorem gX9_takesToday_X9_takesBy : GoodIn wsX9_takesToday (va_wsS RX9 141 yX9_takesBy wsX9_takesBy) := goodIn_app (goodIn_of _ (by decide +kernel)) ggX9_takesToday_X9_takesBy
theorem dX9_takesToday_0 : decode cX9_takesToday 0 = .ok (.aload_n 0, 1) := by decide +kernel
theorem dX9_takesToday_1 : decode cX9_takesToday 1 = .ok (.getfield 7, 3) := by decide +kernel
theorem dX9_takesToday_4 : decode cX9_takesToday 4 = .ok (.bipush 7, 2) := by decide +kernel
theorem dX9_takesToday_6 : decode cX9_takesToday 6 = .ok (.iaload, 1) := by decide +kernel
theorem dX9_takesToday_7 : decode cX9_takesToday 7 = .ok (.iload_n 1, 1) := by decide +kernel
theorem dX9_takesToday_8 : decode cX9_takesToday 8 = .ok (.invokestatic 126, 3) := by decide +kernel
theorem dX9_takesToday_11 : decode cX9_takesToday 11 = .ok (.ifCond .eq 7, 3) := by decide +kernel
theorem dX9_takesToday_14 : decode cX9_takesToday 14 = .ok (.iconst 0, 1) := by decide +kernel
theorem dX9_takesToday_15 : decode cX9_takesToday 15 = .ok (.goto 49, 3) := by decide +kernel
theorem dX9_takesToday_18 : decode cX9_takesToday 18 = .ok (.aload_n 0, 1) := by decide +kernel
theorem dX9_takesToday_19 : decode cX9_takesToday 19 = .ok (.getfield 7, 3) := by decide +kernel
theorem dX9_takesToday_22 : decode cX9_takesToday 22 = .ok (.bipush 28, 2) := by decide +kernel
theorem dX9_takesToday_24 : decode cX9_takesToday 24 = .ok (.iload_n 1, 1) := by decide +kernel
theorem dX9_takesToday_25 : decode cX9_takesToday 25 = .ok (.iadd, 1) := by decide +kernel
theorem dX9_takesToday_26 : decode cX9_takesToday 26 = .ok (.iaload, 1) := by decide +kernel
theorem dX9_takesToday_27 : decode cX9_takesToday 27 = .ok (.aload_n 0, 1) := by decide +kernel
theorem dX9_takesToday_28 : decode cX9_takesToday 28 = .ok (.aload_n 0, 1) := by decide +kernel
theorem dX9_takesToday_29 : decode cX9_takesToday 29 = .ok (.getfield 7, 3) := by decide +kernel
theorem dX9_takesToday_32 : decode cX9_takesToday 32 = .ok (.bipush 15, 2) := by decide +kernel
theorem dX9_takesToday_34 : decode cX9_takesToday 34 = .ok (.iaload, 1) := by decide +kernel
theorem dX9_takesToday_35 : decode cX9_takesToday 35 = .ok (.aload_n 0, 1) := by decide +kernel
theorem dX9_takesToday_36 : decode cX9_takesToday 36 = .ok (.getfield 7, 3) := by decide +kernel
theorem dX9_takesToday_39 : decode cX9_takesToday 39 = .ok (.bipush 8, 2) := by decide +kernel
theorem dX9_takesToday_41 : decode cX9_takesToday 41 = .ok (.iload_n 1, 1) := by decide +kernel
theorem dX9_takesToday_42 : decode cX9_takesToday 42 = .ok (.iadd, 1) := by decide +kernel
theorem dX9_takesToday_43 : decode cX9_takesToday 43 = .ok (.iaload, 1) := by decide +kernel
theorem dX9_takesToday_44 : decode cX9_takesToday 44 = .ok (.aload_n 0, 1) := by decide +kernel
theorem dX9_takesToday_45 : decode cX9_takesToday 45 = .ok (.getfield 7, 3) := by decide +kernel
theorem dX9_takesToday_48 : decode cX9_takesToday 48 = .ok (.bipush 16, 2) := by decide +kernel
theorem dX9_takesToday_50 : decode cX9_takesToday 50 = .ok (.iaload, 1) := by decide +kernel
theorem dX9_takesToday_51 : decode cX9_takesToday 51 = .ok (.invokevirtual 137, 3) := by decide +kernel
theorem dX9_takesToday_54 : decode cX9_takesToday 54 = .ok (.aload_n 0, 1) := by decide +kernel
theorem dX9_takesToday_55 : decode cX9_takesToday 55 = .ok (.getfield 7, 3) := by decide +kernel
theorem dX9_takesToday_58 : decode cX9_takesToday 58 = .ok (.bipush 16, 2) := by decide +kernel
theorem dX9_takesToday_60 : decode cX9_takesToday 60 = .ok (.iaload, 1) := by decide +kernel
theorem dX9_takesToday_61 : decode cX9_takesToday 61 = .ok (.invokestatic 141, 3) := by decide +kernel
theorem dX9_takesToday_64 : decode cX9_takesToday 64 = .ok (.ireturn, 1) := by decide +kernel
set_option maxRecDepth 20000 in
theorem ggX9_toldOf_X9_takesToday : GoodIn wsX9_toldOf wsX9_takesToday := goodIn_r _ [6, 1, 7, 8, 5, 9, 10, 11, 12, 13, 14, 15, 16, 17, 18, 19, 20, 21, 22, 23, 24, 25, 26, 27, 28, 29, 30, 31, 32, 33, 34, 35, 36, 37, 38, 39, 40, 41, 42, 43] (by decide +kernel) (by decide +kernel)
set_option maxRecDepth 20000 in
theorem gX9_toldOf_X9_takesToday : GoodIn wsX9_toldOf (wsV RX9 163 RX9 yX9_takesToday wsX9_takesToday) := goodIn_app (goodIn_of _ (by decide +kernel)) ggX9_toldOf_X9_takesToday
theorem dX9_toldOf_0 : decode cX9_toldOf 0 = .ok (.iload_n 2, 1) := by decide +kernel
theorem dX9_toldOf_1 : decode cX9_toldOf 1 = .ok (.tableswitch 86 0 4 #[35, 45, 55, 65, 74], 35) := by decide +kernel
theorem dX9_toldOf_36 : decode cX9_toldOf 36 = .ok (.aload_n 0, 1) := by decide +kernel
theorem dX9_toldOf_37 : decode cX9_toldOf 37 = .ok (.getfield 7, 3) := by decide +kernel
theorem dX9_toldOf_40 : decode cX9_toldOf 40 = .ok (.bipush 28, 2) := by decide +kernel
theorem dX9_toldOf_42 : decode cX9_toldOf 42 = .ok (.iload_n 1, 1) := by decide +kernel
theorem dX9_toldOf_43 : decode cX9_toldOf 43 = .ok (.iadd, 1) := by decide +kernel
theorem dX9_toldOf_44 : decode cX9_toldOf 44 = .ok (.iaload, 1) := by decide +kernel
theorem dX9_toldOf_45 : decode cX9_toldOf 45 = .ok (.ireturn, 1) := by decide +kernel
theorem dX9_toldOf_46 : decode cX9_toldOf 46 = .ok (.aload_n 0, 1) := by decide +kernel
theorem dX9_toldOf_47 : decode cX9_toldOf 47 = .ok (.getfield 7, 3) := by decide +kernel
theorem dX9_toldOf_50 : decode cX9_toldOf 50 = .ok (.bipush 35, 2) := by decide +kernel
theorem dX9_toldOf_52 : decode cX9_toldOf 52 = .ok (.iload_n 1, 1) := by decide +kernel
theorem dX9_toldOf_53 : decode cX9_toldOf 53 = .ok (.iadd, 1) := by decide +kernel
theorem dX9_toldOf_54 : decode cX9_toldOf 54 = .ok (.iaload, 1) := by decide +kernel
theorem dX9_toldOf_55 : decode cX9_toldOf 55 = .ok (.ireturn, 1) := by decide +kernel
theorem dX9_toldOf_56 : decode cX9_toldOf 56 = .ok (.aload_n 0, 1) := by decide +kernel
theorem dX9_toldOf_57 : decode cX9_toldOf 57 = .ok (.getfield 7, 3) := by decide +kernel
theorem dX9_toldOf_60 : decode cX9_toldOf 60 = .ok (.bipush 8, 2) := by decide +kernel
theorem dX9_toldOf_62 : decode cX9_toldOf 62 = .ok (.iload_n 1, 1) := by decide +kernel
theorem dX9_toldOf_63 : decode cX9_toldOf 63 = .ok (.iadd, 1) := by decide +kernel
theorem dX9_toldOf_64 : decode cX9_toldOf 64 = .ok (.iaload, 1) := by decide +kernel
theorem dX9_toldOf_65 : decode cX9_toldOf 65 = .ok (.ireturn, 1) := by decide +kernel
theorem dX9_toldOf_66 : decode cX9_toldOf 66 = .ok (.aload_n 0, 1) := by decide +kernel
theorem dX9_toldOf_67 : decode cX9_toldOf 67 = .ok (.getfield 7, 3) := by decide +kernel
theorem dX9_toldOf_70 : decode cX9_toldOf 70 = .ok (.iconst 0, 1) := by decide +kernel
theorem dX9_toldOf_71 : decode cX9_toldOf 71 = .ok (.iload_n 1, 1) := by decide +kernel
theorem dX9_toldOf_72 : decode cX9_toldOf 72 = .ok (.iadd, 1) := by decide +kernel
theorem dX9_toldOf_73 : decode cX9_toldOf 73 = .ok (.iaload, 1) := by decide +kernel
theorem dX9_toldOf_74 : decode cX9_toldOf 74 = .ok (.ireturn, 1) := by decide +kernel
theorem dX9_toldOf_75 : decode cX9_toldOf 75 = .ok (.aload_n 0, 1) := by decide +kernel
theorem dX9_toldOf_76 : decode cX9_toldOf 76 = .ok (.getfield 7, 3) := by decide +kernel
theorem dX9_toldOf_79 : decode cX9_toldOf 79 = .ok (.bipush 7, 2) := by decide +kernel
theorem dX9_toldOf_81 : decode cX9_toldOf 81 = .ok (.iaload, 1) := by decide +kernel
theorem dX9_toldOf_82 : decode cX9_toldOf 82 = .ok (.iload_n 1, 1) := by decide +kernel
theorem dX9_toldOf_83 : decode cX9_toldOf 83 = .ok (.ishr, 1) := by decide +kernel
theorem dX9_toldOf_84 : decode cX9_toldOf 84 = .ok (.iconst 1, 1) := by decide +kernel
theorem dX9_toldOf_85 : decode cX9_toldOf 85 = .ok (.iand, 1) := by decide +kernel
theorem dX9_toldOf_86 : decode cX9_toldOf 86 = .ok (.ireturn, 1) := by decide +kernel
theorem dX9_toldOf_87 : decode cX9_toldOf 87 = .ok (.aload_n 0, 1) := by decide +kernel
theorem dX9_toldOf_88 : decode cX9_toldOf 88 = .ok (.iload_n 1, 1) := by decide +kernel
theorem dX9_toldOf_89 : decode cX9_toldOf 89 = .ok (.invokevirtual 163, 3) := by decide +kernel
theorem dX9_toldOf_92 : decode cX9_toldOf 92 = .ok (.ireturn, 1) := by decide +kernel
set_option maxRecDepth 20000 in
theorem ggX9_of_X9_isFamily : GoodIn wsX9_of wsX9_isFamily := goodIn_r _ [5, 6, 7, 8, 4, 9, 42, 43, 44, 45, 46, 47, 48, 49, 50, 51, 52, 53, 54, 55, 56, 57, 58, 59] (by decide +kernel) (by decide +kernel)
set_option maxRecDepth 20000 in
theorem gX9_of_X9_isFamily : GoodIn wsX9_of (wsV RX9 157 RX9 yX9_isFamily wsX9_isFamily) := goodIn_app (goodIn_of _ (by decide +kernel)) ggX9_of_X9_isFamily
set_option maxRecDepth 20000 in
theorem ggX9_of_X9_in : GoodIn wsX9_of wsX9_in := goodIn_r _ [9] (by decide +kernel) (by decide +kernel)
set_option maxRecDepth 20000 in
theorem gX9_of_X9_in : GoodIn wsX9_of (va_wsS RX9 52 yX9_in wsX9_in) := goodIn_app (goodIn_of _ (by decide +kernel)) ggX9_of_X9_in
set_option maxRecDepth 20000 in
theorem ggX9_of_X9_toldOf : GoodIn wsX9_of wsX9_toldOf := goodIn_r _ [13, 6, 14, 15, 16, 4, 17, 18, 19, 20, 21, 22, 23, 24, 25, 26, 27, 28, 29, 30, 31, 32, 33, 34, 35, 36, 42, 43, 44, 45, 46, 47, 48, 49, 50, 51, 52, 53, 54, 55, 56, 57, 58, 59] (by decide +kernel) (by decide +kernel)
set_option maxRecDepth 20000 in
theorem gX9_of_X9_toldOf : GoodIn wsX9_of (wsV RX9 166 RX9 yX9_toldOf wsX9_toldOf) := goodIn_app (goodIn_of _ (by decide +kernel)) ggX9_of_X9_toldOf
set_option maxRecDepth 20000 in
theorem ggX9_of_X9_refuse : GoodIn wsX9_of wsX9_refuse := goodIn_r _ [40, 41, 42, 43, 44, 45, 46, 47, 48, 49, 50, 51, 52, 53, 54, 55, 56, 57, 58, 59] (by decide +kernel) (by decide +kernel)
set_option maxRecDepth 20000 in
theorem gX9_of_X9_refuse : GoodIn wsX9_of (wsV RX9 45 RX9 yX9_refuse wsX9_refuse) := goodIn_app (goodIn_of _ (by decide +kernel)) ggX9_of_X9_refuse
theorem dX9_of_0 : decode cX9_of 0 = .ok (.aload_n 0, 1) := by decide +kernel
theorem dX9_of_1 : decode cX9_of 1 = .ok (.iload_n 1, 1) := by decide +kernel
theorem dX9_of_2 : decode cX9_of 2 = .ok (.invokevirtual 157, 3) := by decide +kernel
theorem dX9_of_5 : decode cX9_of 5 = .ok (.ifCond .eq 21, 3) := by decide +kernel
theorem dX9_of_8 : decode cX9_of 8 = .ok (.iload_n 2, 1) := by decide +kernel
theorem dX9_of_9 : decode cX9_of 9 = .ok (.iconst 0, 1) := by decide +kernel
theorem dX9_of_10 : decode cX9_of 10 = .ok (.iconst 5, 1) := by decide +kernel
theorem dX9_of_11 : decode cX9_of 11 = .ok (.invokestatic 52, 3) := by decide +kernel
theorem dX9_of_14 : decode cX9_of 14 = .ok (.ifCond .eq 12, 3) := by decide +kernel
theorem dX9_of_17 : decode cX9_of 17 = .ok (.aload_n 0, 1) := by decide +kernel
theorem dX9_of_18 : decode cX9_of 18 = .ok (.iload_n 1, 1) := by decide +kernel
theorem dX9_of_19 : decode cX9_of 19 = .ok (.iload_n 2, 1) := by decide +kernel
theorem dX9_of_20 : decode cX9_of 20 = .ok (.invokevirtual 166, 3) := by decide +kernel
theorem dX9_of_23 : decode cX9_of 23 = .ok (.goto 9, 3) := by decide +kernel
theorem dX9_of_26 : decode cX9_of 26 = .ok (.aload_n 0, 1) := by decide +kernel
theorem dX9_of_27 : decode cX9_of 27 = .ok (.bipush (-2), 2) := by decide +kernel
theorem dX9_of_29 : decode cX9_of 29 = .ok (.invokevirtual 45, 3) := by decide +kernel
theorem dX9_of_32 : decode cX9_of 32 = .ok (.ireturn, 1) := by decide +kernel
theorem dX9_toldAbout_0 : decode cX9_toldAbout 0 = .ok (.iload_n 2, 1) := by decide +kernel
theorem dX9_toldAbout_1 : decode cX9_toldAbout 1 = .ok (.ifCond .ne 15, 3) := by decide +kernel
theorem dX9_toldAbout_4 : decode cX9_toldAbout 4 = .ok (.aload_n 0, 1) := by decide +kernel
theorem dX9_toldAbout_5 : decode cX9_toldAbout 5 = .ok (.getfield 7, 3) := by decide +kernel
theorem dX9_toldAbout_8 : decode cX9_toldAbout 8 = .ok (.bipush 18, 2) := by decide +kernel
theorem dX9_toldAbout_10 : decode cX9_toldAbout 10 = .ok (.iload_n 1, 1) := by decide +kernel
theorem dX9_toldAbout_11 : decode cX9_toldAbout 11 = .ok (.iadd, 1) := by decide +kernel
theorem dX9_toldAbout_12 : decode cX9_toldAbout 12 = .ok (.iaload, 1) := by decide +kernel
theorem dX9_toldAbout_13 : decode cX9_toldAbout 13 = .ok (.goto 48, 3) := by decide +kernel
theorem dX9_toldAbout_16 : decode cX9_toldAbout 16 = .ok (.iload_n 2, 1) := by decide +kernel
theorem dX9_toldAbout_17 : decode cX9_toldAbout 17 = .ok (.iconst 1, 1) := by decide +kernel
theorem dX9_toldAbout_18 : decode cX9_toldAbout 18 = .ok (.if_icmp .ne 15, 3) := by decide +kernel
theorem dX9_toldAbout_21 : decode cX9_toldAbout 21 = .ok (.aload_n 0, 1) := by decide +kernel
theorem dX9_toldAbout_22 : decode cX9_toldAbout 22 = .ok (.getfield 7, 3) := by decide +kernel
theorem dX9_toldAbout_25 : decode cX9_toldAbout 25 = .ok (.bipush 21, 2) := by decide +kernel
theorem dX9_toldAbout_27 : decode cX9_toldAbout 27 = .ok (.iload_n 1, 1) := by decide +kernel
theorem dX9_toldAbout_28 : decode cX9_toldAbout 28 = .ok (.iadd, 1) := by decide +kernel
theorem dX9_toldAbout_29 : decode cX9_toldAbout 29 = .ok (.iaload, 1) := by decide +kernel
theorem dX9_toldAbout_30 : decode cX9_toldAbout 30 = .ok (.goto 31, 3) := by decide +kernel
theorem dX9_toldAbout_33 : decode cX9_toldAbout 33 = .ok (.iload_n 2, 1) := by decide +kernel
theorem dX9_toldAbout_34 : decode cX9_toldAbout 34 = .ok (.iconst 2, 1) := by decide +kernel
theorem dX9_toldAbout_35 : decode cX9_toldAbout 35 = .ok (.if_icmp .ne 15, 3) := by decide +kernel
theorem dX9_toldAbout_38 : decode cX9_toldAbout 38 = .ok (.aload_n 0, 1) := by decide +kernel
theorem dX9_toldAbout_39 : decode cX9_toldAbout 39 = .ok (.getfield 7, 3) := by decide +kernel
theorem dX9_toldAbout_42 : decode cX9_toldAbout 42 = .ok (.bipush 24, 2) := by decide +kernel
theorem dX9_toldAbout_44 : decode cX9_toldAbout 44 = .ok (.iload_n 1, 1) := by decide +kernel
theorem dX9_toldAbout_45 : decode cX9_toldAbout 45 = .ok (.iadd, 1) := by decide +kernel
theorem dX9_toldAbout_46 : decode cX9_toldAbout 46 = .ok (.iaload, 1) := by decide +kernel
theorem dX9_toldAbout_47 : decode cX9_toldAbout 47 = .ok (.goto 14, 3) := by decide +kernel
theorem dX9_toldAbout_50 : decode cX9_toldAbout 50 = .ok (.aload_n 0, 1) := by decide +kernel
theorem dX9_toldAbout_51 : decode cX9_toldAbout 51 = .ok (.getfield 7, 3) := by decide +kernel
theorem dX9_toldAbout_54 : decode cX9_toldAbout 54 = .ok (.bipush 15, 2) := by decide +kernel
theorem dX9_toldAbout_56 : decode cX9_toldAbout 56 = .ok (.iaload, 1) := by decide +kernel
theorem dX9_toldAbout_57 : decode cX9_toldAbout 57 = .ok (.iload_n 1, 1) := by decide +kernel
theorem dX9_toldAbout_58 : decode cX9_toldAbout 58 = .ok (.ishr, 1) := by decide +kernel
theorem dX9_toldAbout_59 : decode cX9_toldAbout 59 = .ok (.iconst 1, 1) := by decide +kernel
theorem dX9_toldAbout_60 : decode cX9_toldAbout 60 = .ok (.iand, 1) := by decide +kernel
theorem dX9_toldAbout_61 : decode cX9_toldAbout 61 = .ok (.ireturn, 1) := by decide +kernel
set_option maxRecDepth 20000 in
theorem ggX9_about_X9_isFlitch : GoodIn wsX9_about wsX9_isFlitch := goodIn_r _ [5, 6, 7, 8, 4, 9, 19, 20, 21, 22, 23, 24, 25, 26, 27, 28, 29, 30, 31, 32, 33, 34, 35, 36] (by decide +kernel) (by decide +kernel)
set_option maxRecDepth 20000 in
theorem gX9_about_X9_isFlitch : GoodIn wsX9_about (wsV RX9 160 RX9 yX9_isFlitch wsX9_isFlitch) := goodIn_app (goodIn_of _ (by decide +kernel)) ggX9_about_X9_isFlitch
set_option maxRecDepth 20000 in
theorem ggX9_about_X9_in : GoodIn wsX9_about wsX9_in := goodIn_r _ [9] (by decide +kernel) (by decide +kernel)
set_option maxRecDepth 20000 in
theorem gX9_about_X9_in : GoodIn wsX9_about (va_wsS RX9 52 yX9_in wsX9_in) := goodIn_app (goodIn_of _ (by decide +kernel)) ggX9_about_X9_in
set_option maxRecDepth 20000 in
theorem ggX9_about_X9_toldAbout : GoodIn wsX9_about wsX9_toldAbout := goodIn_r _ [13, 6, 19, 20, 21, 22, 23, 24, 25, 26, 27, 28, 29, 30, 31, 32, 33, 34, 35, 36] (by decide +kernel) (by decide +kernel)
set_option maxRecDepth 20000 in
theorem gX9_about_X9_toldAbout : GoodIn wsX9_about (wsV RX9 169 RX9 yX9_toldAbout wsX9_toldAbout) := goodIn_app (goodIn_of _ (by decide +kernel)) ggX9_about_X9_toldAbout
set_option maxRecDepth 20000 in
theorem ggX9_about_X9_refuse : GoodIn wsX9_about wsX9_refuse := goodIn_r _ [17, 18, 19, 20, 21, 22, 23, 24, 25, 26, 27, 28, 29, 30, 31, 32, 33, 34, 35, 36] (by decide +kernel) (by decide +kernel)
set_option maxRecDepth 20000 in
theorem gX9_about_X9_refuse : GoodIn wsX9_about (wsV RX9 45 RX9 yX9_refuse wsX9_refuse) := goodIn_app (goodIn_of _ (by decide +kernel)) ggX9_about_X9_refuse
theorem dX9_about_0 : decode cX9_about 0 = .ok (.aload_n 0, 1) := by decide +kernel
theorem dX9_about_1 : decode cX9_about 1 = .ok (.iload_n 1, 1) := by decide +kernel
theorem dX9_about_2 : decode cX9_about 2 = .ok (.invokevirtual 160, 3) := by decide +kernel
theorem dX9_about_5 : decode cX9_about 5 = .ok (.ifCond .eq 21, 3) := by decide +kernel
theorem dX9_about_8 : decode cX9_about 8 = .ok (.iload_n 2, 1) := by decide +kernel
theorem dX9_about_9 : decode cX9_about 9 = .ok (.iconst 0, 1) := by decide +kernel
theorem dX9_about_10 : decode cX9_about 10 = .ok (.iconst 3, 1) := by decide +kernel
theorem dX9_about_11 : decode cX9_about 11 = .ok (.invokestatic 52, 3) := by decide +kernel
theorem dX9_about_14 : decode cX9_about 14 = .ok (.ifCond .eq 12, 3) := by decide +kernel
theorem dX9_about_17 : decode cX9_about 17 = .ok (.aload_n 0, 1) := by decide +kernel
theorem dX9_about_18 : decode cX9_about 18 = .ok (.iload_n 1, 1) := by decide +kernel
theorem dX9_about_19 : decode cX9_about 19 = .ok (.iload_n 2, 1) := by decide +kernel
theorem dX9_about_20 : decode cX9_about 20 = .ok (.invokevirtual 169, 3) := by decide +kernel
theorem dX9_about_23 : decode cX9_about 23 = .ok (.goto 9, 3) := by decide +kernel
theorem dX9_about_26 : decode cX9_about 26 = .ok (.aload_n 0, 1) := by decide +kernel
theorem dX9_about_27 : decode cX9_about 27 = .ok (.bipush (-2), 2) := by decide +kernel
theorem dX9_about_29 : decode cX9_about 29 = .ok (.invokevirtual 45, 3) := by decide +kernel
theorem dX9_about_32 : decode cX9_about 32 = .ok (.ireturn, 1) := by decide +kernel
set_option maxRecDepth 20000 in
theorem ggX9_smell_X9_in : GoodIn wsX9_smell wsX9_in := goodIn_r _ [5] (by decide +kernel) (by decide +kernel)
set_option maxRecDepth 20000 in
theorem gX9_smell_X9_in : GoodIn wsX9_smell (va_wsS RX9 52 yX9_in wsX9_in) := goodIn_app (goodIn_of _ (by decide +kernel)) ggX9_smell_X9_in
set_option maxRecDepth 20000 in
theorem ggX9_smell_X9_smellOf : GoodIn wsX9_smell wsX9_smellOf := goodIn_r _ [9, 1, 10, 11, 4, 12, 13, 14, 15, 16, 17, 18, 19, 20, 21, 27, 28, 29, 30, 31, 32, 33, 34, 35, 36, 37, 38, 39, 40, 41, 42, 43, 44] (by decide +kernel) (by decide +kernel)
set_option maxRecDepth 20000 in
theorem gX9_smell_X9_smellOf : GoodIn wsX9_smell (wsV RX9 137 RX9 yX9_smellOf wsX9_smellOf) := goodIn_app (goodIn_of _ (by decide +kernel)) ggX9_smell_X9_smellOf
set_option maxRecDepth 20000 in
theorem ggX9_smell_X9_refuse : GoodIn wsX9_smell wsX9_refuse := goodIn_r _ [25, 26, 27, 28, 29, 30, 31, 32, 33, 34, 35, 36, 37, 38, 39, 40, 41, 42, 43, 44] (by decide +kernel) (by decide +kernel)
set_option maxRecDepth 20000 in
theorem gX9_smell_X9_refuse : GoodIn wsX9_smell (wsV RX9 45 RX9 yX9_refuse wsX9_refuse) := goodIn_app (goodIn_of _ (by decide +kernel)) ggX9_smell_X9_refuse
theorem dX9_smell_0 : decode cX9_smell 0 = .ok (.iload_n 1, 1) := by decide +kernel
theorem dX9_smell_1 : decode cX9_smell 1 = .ok (.iconst 0, 1) := by decide +kernel
theorem dX9_smell_2 : decode cX9_smell 2 = .ok (.bipush 24, 2) := by decide +kernel
theorem dX9_smell_4 : decode cX9_smell 4 = .ok (.invokestatic 52, 3) := by decide +kernel
theorem dX9_smell_7 : decode cX9_smell 7 = .ok (.ifCond .eq 37, 3) := by decide +kernel
theorem dX9_smell_10 : decode cX9_smell 10 = .ok (.iload_n 2, 1) := by decide +kernel
theorem dX9_smell_11 : decode cX9_smell 11 = .ok (.iconst 0, 1) := by decide +kernel
theorem dX9_smell_12 : decode cX9_smell 12 = .ok (.bipush 60, 2) := by decide +kernel
theorem dX9_smell_14 : decode cX9_smell 14 = .ok (.invokestatic 52, 3) := by decide +kernel
theorem dX9_smell_17 : decode cX9_smell 17 = .ok (.ifCond .eq 27, 3) := by decide +kernel
theorem dX9_smell_20 : decode cX9_smell 20 = .ok (.aload_n 0, 1) := by decide +kernel
theorem dX9_smell_21 : decode cX9_smell 21 = .ok (.aload_n 0, 1) := by decide +kernel
theorem dX9_smell_22 : decode cX9_smell 22 = .ok (.getfield 7, 3) := by decide +kernel
theorem dX9_smell_25 : decode cX9_smell 25 = .ok (.bipush 15, 2) := by decide +kernel
theorem dX9_smell_27 : decode cX9_smell 27 = .ok (.iaload, 1) := by decide +kernel
theorem dX9_smell_28 : decode cX9_smell 28 = .ok (.iload_n 1, 1) := by decide +kernel
theorem dX9_smell_29 : decode cX9_smell 29 = .ok (.aload_n 0, 1) := by decide +kernel
theorem dX9_smell_30 : decode cX9_smell 30 = .ok (.getfield 7, 3) := by decide +kernel
theorem dX9_smell_33 : decode cX9_smell 33 = .ok (.bipush 16, 2) := by decide +kernel
theorem dX9_smell_35 : decode cX9_smell 35 = .ok (.iaload, 1) := by decide +kernel
theorem dX9_smell_36 : decode cX9_smell 36 = .ok (.iload_n 2, 1) := by decide +kernel
theorem dX9_smell_37 : decode cX9_smell 37 = .ok (.iadd, 1) := by decide +kernel
theorem dX9_smell_38 : decode cX9_smell 38 = .ok (.invokevirtual 137, 3) := by decide +kernel
theorem dX9_smell_41 : decode cX9_smell 41 = .ok (.goto 9, 3) := by decide +kernel
theorem dX9_smell_44 : decode cX9_smell 44 = .ok (.aload_n 0, 1) := by decide +kernel
theorem dX9_smell_45 : decode cX9_smell 45 = .ok (.bipush (-2), 2) := by decide +kernel
theorem dX9_smell_47 : decode cX9_smell 47 = .ok (.invokevirtual 45, 3) := by decide +kernel
theorem dX9_smell_50 : decode cX9_smell 50 = .ok (.ireturn, 1) := by decide +kernel
theorem dX9_layTried_0 : decode cX9_layTried 0 = .ok (.iconst 0, 1) := by decide +kernel
theorem dX9_layTried_1 : decode cX9_layTried 1 = .ok (.istore_n 1, 1) := by decide +kernel
theorem dX9_layTried_2 : decode cX9_layTried 2 = .ok (.iload_n 1, 1) := by decide +kernel
theorem dX9_layTried_3 : decode cX9_layTried 3 = .ok (.bipush 17, 2) := by decide +kernel
theorem dX9_layTried_5 : decode cX9_layTried 5 = .ok (.if_icmp .ge 25, 3) := by decide +kernel
theorem dX9_layTried_8 : decode cX9_layTried 8 = .ok (.aload_n 0, 1) := by decide +kernel
theorem dX9_layTried_9 : decode cX9_layTried 9 = .ok (.getfield 7, 3) := by decide +kernel
theorem dX9_layTried_12 : decode cX9_layTried 12 = .ok (.sipush 753, 3) := by decide +kernel
theorem dX9_layTried_15 : decode cX9_layTried 15 = .ok (.iload_n 1, 1) := by decide +kernel
theorem dX9_layTried_16 : decode cX9_layTried 16 = .ok (.iadd, 1) := by decide +kernel
theorem dX9_layTried_17 : decode cX9_layTried 17 = .ok (.aload_n 0, 1) := by decide +kernel
theorem dX9_layTried_18 : decode cX9_layTried 18 = .ok (.getfield 7, 3) := by decide +kernel
theorem dX9_layTried_21 : decode cX9_layTried 21 = .ok (.iload_n 1, 1) := by decide +kernel
theorem dX9_layTried_22 : decode cX9_layTried 22 = .ok (.iaload, 1) := by decide +kernel
theorem dX9_layTried_23 : decode cX9_layTried 23 = .ok (.iastore, 1) := by decide +kernel
theorem dX9_layTried_24 : decode cX9_layTried 24 = .ok (.iinc 1 1, 3) := by decide +kernel
theorem dX9_layTried_27 : decode cX9_layTried 27 = .ok (.goto (-25), 3) := by decide +kernel
theorem dX9_layTried_30 : decode cX9_layTried 30 = .ok (.return_, 1) := by decide +kernel
set_option maxRecDepth 20000 in
theorem ggX9_passTried_X9_passes : GoodIn wsX9_passTried wsX9_passes := goodIn_r _ [5, 6, 7, 8, 4, 9, 10, 11, 12, 13, 14, 15, 16, 17, 18, 19, 20, 21, 22, 23, 24, 25, 26, 27, 28, 29, 30, 31, 32, 33, 34, 35, 36, 37, 38, 39, 40, 41, 42, 43, 44, 45, 46, 47] (by decide +kernel) (by decide +kernel)
set_option maxRecDepth 20000 in
theorem gX9_passTried_X9_passes : GoodIn wsX9_passTried (wsV RX9 147 RX9 yX9_passes wsX9_passes) := goodIn_app (goodIn_of _ (by decide +kernel)) ggX9_passTried_X9_passes
theorem dX9_passTried_0 : decode cX9_passTried 0 = .ok (.iconst 0, 1) := by decide +kernel
theorem dX9_passTried_1 : decode cX9_passTried 1 = .ok (.istore_n 2, 1) := by decide +kernel
theorem dX9_passTried_2 : decode cX9_passTried 2 = .ok (.iload_n 2, 1) := by decide +kernel
theorem dX9_passTried_3 : decode cX9_passTried 3 = .ok (.iload_n 1, 1) := by decide +kernel
theorem dX9_passTried_4 : decode cX9_passTried 4 = .ok (.if_icmp .ge 17, 3) := by decide +kernel
theorem dX9_passTried_7 : decode cX9_passTried 7 = .ok (.aload_n 0, 1) := by decide +kernel
theorem dX9_passTried_8 : decode cX9_passTried 8 = .ok (.sipush 753, 3) := by decide +kernel
theorem dX9_passTried_11 : decode cX9_passTried 11 = .ok (.iconst 0, 1) := by decide +kernel
theorem dX9_passTried_12 : decode cX9_passTried 12 = .ok (.invokevirtual 147, 3) := by decide +kernel
theorem dX9_passTried_15 : decode cX9_passTried 15 = .ok (.iinc 2 1, 3) := by decide +kernel
theorem dX9_passTried_18 : decode cX9_passTried 18 = .ok (.goto (-16), 3) := by decide +kernel
theorem dX9_passTried_21 : decode cX9_passTried 21 = .ok (.return_, 1) := by decide +kernel
set_option maxRecDepth 20000 in
theorem ggX9_then_X9_isFamily : GoodIn wsX9_then wsX9_isFamily := goodIn_r _ [6, 1, 7, 8, 5, 9, 50, 51, 52, 53, 54, 55, 56, 57, 58, 59, 60, 61, 62, 63, 64, 65, 66, 67] (by decide +kernel) (by decide +kernel)
set_option maxRecDepth 20000 in
theorem gX9_then_X9_isFamily : GoodIn wsX9_then (wsV RX9 157 RX9 yX9_isFamily wsX9_isFamily) := goodIn_app (goodIn_of _ (by decide +kernel)) ggX9_then_X9_isFamily
set_option maxRecDepth 20000 in
theorem ggX9_then_X9_in : GoodIn wsX9_then wsX9_in := goodIn_r _ [9] (by decide +kernel) (by decide +kernel)
set_option maxRecDepth 20000 in
theorem gX9_then_X9_in : GoodIn wsX9_then (va_wsS RX9 52 yX9_in wsX9_in) := goodIn_app (goodIn_of _ (by decide +kernel)) ggX9_then_X9_in
set_option maxRecDepth 20000 in
theorem ggX9_then_X9_refuse : GoodIn wsX9_then wsX9_refuse := goodIn_r _ [13, 14, 50, 51, 52, 53, 54, 55, 56, 57, 58, 59, 60, 61, 62, 63, 64, 65, 66, 67] (by decide +kernel) (by decide +kernel)
set_option maxRecDepth 20000 in
theorem gX9_then_X9_refuse : GoodIn wsX9_then (wsV RX9 45 RX9 yX9_refuse wsX9_refuse) := goodIn_app (goodIn_of _ (by decide +kernel)) ggX9_then_X9_refuse
set_option maxRecDepth 20000 in
theorem ggX9_then_X9_layTried : GoodIn wsX9_then wsX9_layTried := goodIn_r _ [18, 1, 50, 51, 52, 53, 54, 55, 56, 57, 58, 59, 60, 61, 62, 63, 64, 65, 66, 67] (by decide +kernel) (by decide +kernel)
set_option maxRecDepth 20000 in
theorem gX9_then_X9_layTried : GoodIn wsX9_then (wsV RX9 172 RX9 yX9_layTried wsX9_layTried) := goodIn_app (goodIn_of _ (by decide +kernel)) ggX9_then_X9_layTried
set_option maxRecDepth 20000 in
theorem ggX9_then_X9_passTried : GoodIn wsX9_then wsX9_passTried := goodIn_r _ [22, 23, 24, 25, 5, 26, 1, 27, 28, 29, 30, 31, 32, 33, 34, 35, 36, 37, 38, 39, 40, 41, 42, 43, 44, 45, 46, 47, 48, 49, 50, 51, 52, 53, 54, 55, 56, 57, 58, 59, 60, 61, 62, 63, 64, 65, 66, 67] (by decide +kernel) (by decide +kernel)
set_option maxRecDepth 20000 in
theorem gX9_then_X9_passTried : GoodIn wsX9_then (wsV RX9 175 RX9 yX9_passTried wsX9_passTried) := goodIn_app (goodIn_of _ (by decide +kernel)) ggX9_then_X9_passTried
theorem dX9_then_0 : decode cX9_then 0 = .ok (.aload_n 0, 1) := by decide +kernel
theorem dX9_then_1 : decode cX9_then 1 = .ok (.iload_n 1, 1) := by decide +kernel
theorem dX9_then_2 : decode cX9_then 2 = .ok (.invokevirtual 157, 3) := by decide +kernel
theorem dX9_then_5 : decode cX9_then 5 = .ok (.ifCond .eq 13, 3) := by decide +kernel
theorem dX9_then_8 : decode cX9_then 8 = .ok (.iload_n 2, 1) := by decide +kernel
theorem dX9_then_9 : decode cX9_then 9 = .ok (.iconst 0, 1) := by decide +kernel
theorem dX9_then_10 : decode cX9_then 10 = .ok (.bipush 60, 2) := by decide +kernel
theorem dX9_then_12 : decode cX9_then 12 = .ok (.invokestatic 52, 3) := by decide +kernel
theorem dX9_then_15 : decode cX9_then 15 = .ok (.ifCond .ne 10, 3) := by decide +kernel
theorem dX9_then_18 : decode cX9_then 18 = .ok (.aload_n 0, 1) := by decide +kernel
theorem dX9_then_19 : decode cX9_then 19 = .ok (.bipush (-2), 2) := by decide +kernel
theorem dX9_then_21 : decode cX9_then 21 = .ok (.invokevirtual 45, 3) := by decide +kernel
theorem dX9_then_24 : decode cX9_then 24 = .ok (.ireturn, 1) := by decide +kernel
theorem dX9_then_25 : decode cX9_then 25 = .ok (.aload_n 0, 1) := by decide +kernel
theorem dX9_then_26 : decode cX9_then 26 = .ok (.invokevirtual 172, 3) := by decide +kernel
theorem dX9_then_29 : decode cX9_then 29 = .ok (.aload_n 0, 1) := by decide +kernel
theorem dX9_then_30 : decode cX9_then 30 = .ok (.iload_n 2, 1) := by decide +kernel
theorem dX9_then_31 : decode cX9_then 31 = .ok (.invokevirtual 175, 3) := by decide +kernel
theorem dX9_then_34 : decode cX9_then 34 = .ok (.aload_n 0, 1) := by decide +kernel
theorem dX9_then_35 : decode cX9_then 35 = .ok (.getfield 7, 3) := by decide +kernel
theorem dX9_then_38 : decode cX9_then 38 = .ok (.sipush 753, 3) := by decide +kernel
theorem dX9_then_41 : decode cX9_then 41 = .ok (.iload_n 1, 1) := by decide +kernel
theorem dX9_then_42 : decode cX9_then 42 = .ok (.iadd, 1) := by decide +kernel
theorem dX9_then_43 : decode cX9_then 43 = .ok (.iaload, 1) := by decide +kernel
theorem dX9_then_44 : decode cX9_then 44 = .ok (.ireturn, 1) := by decide +kernel
set_option maxRecDepth 20000 in
theorem ggX9_whenTried_X9_has : GoodIn wsX9_whenTried wsX9_has := goodIn_r _ [6] (by decide +kernel) (by decide +kernel)
set_option maxRecDepth 20000 in
theorem gX9_whenTried_X9_has : GoodIn wsX9_whenTried (va_wsS RX9 126 yX9_has wsX9_has) := goodIn_app (goodIn_of _ (by decide +kernel)) ggX9_whenTried_X9_has
set_option maxRecDepth 20000 in
theorem ggX9_whenTried_X9_passTried : GoodIn wsX9_whenTried wsX9_passTried := goodIn_r _ [10, 11, 12, 13, 5, 14, 1, 3, 4, 6, 15, 16, 17, 18, 19, 20, 21, 22, 23, 24, 25, 26, 27, 28, 29, 30, 31, 32, 33, 34, 35, 36, 37, 38, 39, 40, 41, 42, 43, 44, 45, 46, 47, 48, 49, 50, 51, 52] (by decide +kernel) (by decide +kernel)
set_option maxRecDepth 20000 in
theorem gX9_whenTried_X9_passTried : GoodIn wsX9_whenTried (wsV RX9 175 RX9 yX9_passTried wsX9_passTried) := goodIn_app (goodIn_of _ (by decide +kernel)) ggX9_whenTried_X9_passTried
theorem dX9_whenTried_0 : decode cX9_whenTried 0 = .ok (.iconst 0, 1) := by decide +kernel
theorem dX9_whenTried_1 : decode cX9_whenTried 1 = .ok (.istore_n 2, 1) := by decide +kernel
theorem dX9_whenTried_2 : decode cX9_whenTried 2 = .ok (.iload_n 2, 1) := by decide +kernel
theorem dX9_whenTried_3 : decode cX9_whenTried 3 = .ok (.bipush 61, 2) := by decide +kernel
theorem dX9_whenTried_5 : decode cX9_whenTried 5 = .ok (.if_icmp .ge 31, 3) := by decide +kernel
theorem dX9_whenTried_8 : decode cX9_whenTried 8 = .ok (.aload_n 0, 1) := by decide +kernel
theorem dX9_whenTried_9 : decode cX9_whenTried 9 = .ok (.getfield 7, 3) := by decide +kernel
theorem dX9_whenTried_12 : decode cX9_whenTried 12 = .ok (.sipush 760, 3) := by decide +kernel
theorem dX9_whenTried_15 : decode cX9_whenTried 15 = .ok (.iaload, 1) := by decide +kernel
theorem dX9_whenTried_16 : decode cX9_whenTried 16 = .ok (.iload_n 1, 1) := by decide +kernel
theorem dX9_whenTried_17 : decode cX9_whenTried 17 = .ok (.invokestatic 126, 3) := by decide +kernel
theorem dX9_whenTried_20 : decode cX9_whenTried 20 = .ok (.ifCond .eq 5, 3) := by decide +kernel
theorem dX9_whenTried_23 : decode cX9_whenTried 23 = .ok (.iload_n 2, 1) := by decide +kernel
theorem dX9_whenTried_24 : decode cX9_whenTried 24 = .ok (.ireturn, 1) := by decide +kernel
theorem dX9_whenTried_25 : decode cX9_whenTried 25 = .ok (.aload_n 0, 1) := by decide +kernel
theorem dX9_whenTried_26 : decode cX9_whenTried 26 = .ok (.iconst 1, 1) := by decide +kernel
theorem dX9_whenTried_27 : decode cX9_whenTried 27 = .ok (.invokevirtual 175, 3) := by decide +kernel
theorem dX9_whenTried_30 : decode cX9_whenTried 30 = .ok (.iinc 2 1, 3) := by decide +kernel
theorem dX9_whenTried_33 : decode cX9_whenTried 33 = .ok (.goto (-31), 3) := by decide +kernel
theorem dX9_whenTried_36 : decode cX9_whenTried 36 = .ok (.ldc 178, 2) := by decide +kernel
theorem dX9_whenTried_38 : decode cX9_whenTried 38 = .ok (.ireturn, 1) := by decide +kernel
set_option maxRecDepth 20000 in
theorem ggX9_when_X9_isFamily : GoodIn wsX9_when wsX9_isFamily := goodIn_r _ [6, 7, 8, 9, 5, 10, 55, 56, 57, 58, 59, 60, 61, 62, 63, 64, 65, 66, 67, 68, 69, 70, 71, 72] (by decide +kernel) (by decide +kernel)
set_option maxRecDepth 20000 in
theorem gX9_when_X9_isFamily : GoodIn wsX9_when (wsV RX9 157 RX9 yX9_isFamily wsX9_isFamily) := goodIn_app (goodIn_of _ (by decide +kernel)) ggX9_when_X9_isFamily
set_option maxRecDepth 20000 in
theorem ggX9_when_X9_refuse : GoodIn wsX9_when wsX9_refuse := goodIn_r _ [14, 15, 55, 56, 57, 58, 59, 60, 61, 62, 63, 64, 65, 66, 67, 68, 69, 70, 71, 72] (by decide +kernel) (by decide +kernel)
set_option maxRecDepth 20000 in
theorem gX9_when_X9_refuse : GoodIn wsX9_when (wsV RX9 45 RX9 yX9_refuse wsX9_refuse) := goodIn_app (goodIn_of _ (by decide +kernel)) ggX9_when_X9_refuse
set_option maxRecDepth 20000 in
theorem ggX9_when_X9_layTried : GoodIn wsX9_when wsX9_layTried := goodIn_r _ [19, 7, 55, 56, 57, 58, 59, 60, 61, 62, 63, 64, 65, 66, 67, 68, 69, 70, 71, 72] (by decide +kernel) (by decide +kernel)
set_option maxRecDepth 20000 in
theorem gX9_when_X9_layTried : GoodIn wsX9_when (wsV RX9 172 RX9 yX9_layTried wsX9_layTried) := goodIn_app (goodIn_of _ (by decide +kernel)) ggX9_when_X9_layTried
set_option maxRecDepth 20000 in
theorem ggX9_when_X9_whenTried : GoodIn wsX9_when wsX9_whenTried := goodIn_r _ [23, 7, 1, 24, 25, 5, 26, 27, 28, 29, 30, 31, 32, 33, 34, 35, 36, 37, 38, 39, 40, 41, 42, 43, 44, 45, 46, 47, 48, 49, 50, 51, 52, 53, 54, 55, 56, 57, 58, 59, 60, 61, 62, 63, 64, 65, 66, 67, 68, 69, 70, 71, 72] (by decide +kernel) (by decide +kernel)
set_option maxRecDepth 20000 in
theorem gX9_when_X9_whenTried : GoodIn wsX9_when (wsV RX9 179 RX9 yX9_whenTried wsX9_whenTried) := goodIn_app (goodIn_of _ (by decide +kernel)) ggX9_when_X9_whenTried
theorem dX9_when_0 : decode cX9_when 0 = .ok (.aload_n 0, 1) := by decide +kernel
theorem dX9_when_1 : decode cX9_when 1 = .ok (.iload_n 1, 1) := by decide +kernel
theorem dX9_when_2 : decode cX9_when 2 = .ok (.invokevirtual 157, 3) := by decide +kernel
theorem dX9_when_5 : decode cX9_when 5 = .ok (.ifCond .ne 10, 3) := by decide +kernel
theorem dX9_when_8 : decode cX9_when 8 = .ok (.aload_n 0, 1) := by decide +kernel
theorem dX9_when_9 : decode cX9_when 9 = .ok (.bipush (-2), 2) := by decide +kernel
theorem dX9_when_11 : decode cX9_when 11 = .ok (.invokevirtual 45, 3) := by decide +kernel
theorem dX9_when_14 : decode cX9_when 14 = .ok (.ireturn, 1) := by decide +kernel
theorem dX9_when_15 : decode cX9_when 15 = .ok (.aload_n 0, 1) := by decide +kernel
theorem dX9_when_16 : decode cX9_when 16 = .ok (.invokevirtual 172, 3) := by decide +kernel
theorem dX9_when_19 : decode cX9_when 19 = .ok (.aload_n 0, 1) := by decide +kernel
theorem dX9_when_20 : decode cX9_when 20 = .ok (.iload_n 1, 1) := by decide +kernel
theorem dX9_when_21 : decode cX9_when 21 = .ok (.invokevirtual 179, 3) := by decide +kernel
theorem dX9_when_24 : decode cX9_when 24 = .ok (.istore_n 2, 1) := by decide +kernel
theorem dX9_when_25 : decode cX9_when 25 = .ok (.iload_n 2, 1) := by decide +kernel
theorem dX9_when_26 : decode cX9_when 26 = .ok (.ldc 178, 2) := by decide +kernel
theorem dX9_when_28 : decode cX9_when 28 = .ok (.if_icmp .ne 7, 3) := by decide +kernel
theorem dX9_when_31 : decode cX9_when 31 = .ok (.iconst (-1), 1) := by decide +kernel
theorem dX9_when_32 : decode cX9_when 32 = .ok (.goto 4, 3) := by decide +kernel
theorem dX9_when_35 : decode cX9_when 35 = .ok (.iload_n 2, 1) := by decide +kernel
theorem dX9_when_36 : decode cX9_when 36 = .ok (.ireturn, 1) := by decide +kernel
set_option maxRecDepth 20000 in
theorem ggX9_rightIn_X9_has : GoodIn wsX9_rightIn wsX9_has := goodIn_r _ [5] (by decide +kernel) (by decide +kernel)
set_option maxRecDepth 20000 in
theorem gX9_rightIn_X9_has : GoodIn wsX9_rightIn (va_wsS RX9 126 yX9_has wsX9_has) := goodIn_app (goodIn_of _ (by decide +kernel)) ggX9_rightIn_X9_has
theorem dX9_rightIn_0 : decode cX9_rightIn 0 = .ok (.iconst 0, 1) := by decide +kernel
theorem dX9_rightIn_1 : decode cX9_rightIn 1 = .ok (.istore_n 2, 1) := by decide +kernel
theorem dX9_rightIn_2 : decode cX9_rightIn 2 = .ok (.iconst 0, 1) := by decide +kernel
theorem dX9_rightIn_3 : decode cX9_rightIn 3 = .ok (.istore_n 3, 1) := by decide +kernel
theorem dX9_rightIn_4 : decode cX9_rightIn 4 = .ok (.iconst 0, 1) := by decide +kernel
theorem dX9_rightIn_5 : decode cX9_rightIn 5 = .ok (.istore 4, 2) := by decide +kernel
theorem dX9_rightIn_7 : decode cX9_rightIn 7 = .ok (.iload 4, 2) := by decide +kernel
theorem dX9_rightIn_9 : decode cX9_rightIn 9 = .ok (.aload_n 0, 1) := by decide +kernel
theorem dX9_rightIn_10 : decode cX9_rightIn 10 = .ok (.getfield 7, 3) := by decide +kernel
theorem dX9_rightIn_13 : decode cX9_rightIn 13 = .ok (.bipush 27, 2) := by decide +kernel
theorem dX9_rightIn_15 : decode cX9_rightIn 15 = .ok (.iaload, 1) := by decide +kernel
theorem dX9_rightIn_16 : decode cX9_rightIn 16 = .ok (.if_icmp .ge 90, 3) := by decide +kernel
theorem dX9_rightIn_19 : decode cX9_rightIn 19 = .ok (.aload_n 0, 1) := by decide +kernel
theorem dX9_rightIn_20 : decode cX9_rightIn 20 = .ok (.getfield 7, 3) := by decide +kernel
theorem dX9_rightIn_23 : decode cX9_rightIn 23 = .ok (.iload_n 1, 1) := by decide +kernel
theorem dX9_rightIn_24 : decode cX9_rightIn 24 = .ok (.bipush 7, 2) := by decide +kernel
theorem dX9_rightIn_26 : decode cX9_rightIn 26 = .ok (.iadd, 1) := by decide +kernel
theorem dX9_rightIn_27 : decode cX9_rightIn 27 = .ok (.iaload, 1) := by decide +kernel
theorem dX9_rightIn_28 : decode cX9_rightIn 28 = .ok (.iload 4, 2) := by decide +kernel
theorem dX9_rightIn_30 : decode cX9_rightIn 30 = .ok (.invokestatic 126, 3) := by decide +kernel
theorem dX9_rightIn_33 : decode cX9_rightIn 33 = .ok (.ifCond .ne 7, 3) := by decide +kernel
theorem dX9_rightIn_36 : decode cX9_rightIn 36 = .ok (.iconst 1, 1) := by decide +kernel
theorem dX9_rightIn_37 : decode cX9_rightIn 37 = .ok (.goto 4, 3) := by decide +kernel
theorem dX9_rightIn_40 : decode cX9_rightIn 40 = .ok (.iconst 0, 1) := by decide +kernel
theorem dX9_rightIn_41 : decode cX9_rightIn 41 = .ok (.istore 5, 2) := by decide +kernel
theorem dX9_rightIn_43 : decode cX9_rightIn 43 = .ok (.iload_n 2, 1) := by decide +kernel
theorem dX9_rightIn_44 : decode cX9_rightIn 44 = .ok (.ifCond .ne 21, 3) := by decide +kernel
theorem dX9_rightIn_47 : decode cX9_rightIn 47 = .ok (.iload 5, 2) := by decide +kernel
theorem dX9_rightIn_49 : decode cX9_rightIn 49 = .ok (.ifCond .eq 20, 3) := by decide +kernel
theorem dX9_rightIn_52 : decode cX9_rightIn 52 = .ok (.aload_n 0, 1) := by decide +kernel
theorem dX9_rightIn_53 : decode cX9_rightIn 53 = .ok (.getfield 7, 3) := by decide +kernel
theorem dX9_rightIn_56 : decode cX9_rightIn 56 = .ok (.bipush 35, 2) := by decide +kernel
theorem dX9_rightIn_58 : decode cX9_rightIn 58 = .ok (.iload 4, 2) := by decide +kernel
theorem dX9_rightIn_60 : decode cX9_rightIn 60 = .ok (.iadd, 1) := by decide +kernel
theorem dX9_rightIn_61 : decode cX9_rightIn 61 = .ok (.iaload, 1) := by decide +kernel
theorem dX9_rightIn_62 : decode cX9_rightIn 62 = .ok (.ifCond .ne 7, 3) := by decide +kernel
theorem dX9_rightIn_65 : decode cX9_rightIn 65 = .ok (.iconst 1, 1) := by decide +kernel
theorem dX9_rightIn_66 : decode cX9_rightIn 66 = .ok (.goto 4, 3) := by decide +kernel
theorem dX9_rightIn_69 : decode cX9_rightIn 69 = .ok (.iconst 0, 1) := by decide +kernel
theorem dX9_rightIn_70 : decode cX9_rightIn 70 = .ok (.istore_n 2, 1) := by decide +kernel
theorem dX9_rightIn_71 : decode cX9_rightIn 71 = .ok (.iload_n 3, 1) := by decide +kernel
theorem dX9_rightIn_72 : decode cX9_rightIn 72 = .ok (.ifCond .ne 22, 3) := by decide +kernel
theorem dX9_rightIn_75 : decode cX9_rightIn 75 = .ok (.iload 5, 2) := by decide +kernel
theorem dX9_rightIn_77 : decode cX9_rightIn 77 = .ok (.ifCond .eq 21, 3) := by decide +kernel
theorem dX9_rightIn_80 : decode cX9_rightIn 80 = .ok (.aload_n 0, 1) := by decide +kernel
theorem dX9_rightIn_81 : decode cX9_rightIn 81 = .ok (.getfield 7, 3) := by decide +kernel
theorem dX9_rightIn_84 : decode cX9_rightIn 84 = .ok (.bipush 35, 2) := by decide +kernel
theorem dX9_rightIn_86 : decode cX9_rightIn 86 = .ok (.iload 4, 2) := by decide +kernel
theorem dX9_rightIn_88 : decode cX9_rightIn 88 = .ok (.iadd, 1) := by decide +kernel
theorem dX9_rightIn_89 : decode cX9_rightIn 89 = .ok (.iaload, 1) := by decide +kernel
theorem dX9_rightIn_90 : decode cX9_rightIn 90 = .ok (.iconst 1, 1) := by decide +kernel
theorem dX9_rightIn_91 : decode cX9_rightIn 91 = .ok (.if_icmp .ne 7, 3) := by decide +kernel
theorem dX9_rightIn_94 : decode cX9_rightIn 94 = .ok (.iconst 1, 1) := by decide +kernel
theorem dX9_rightIn_95 : decode cX9_rightIn 95 = .ok (.goto 4, 3) := by decide +kernel
theorem dX9_rightIn_98 : decode cX9_rightIn 98 = .ok (.iconst 0, 1) := by decide +kernel
theorem dX9_rightIn_99 : decode cX9_rightIn 99 = .ok (.istore_n 3, 1) := by decide +kernel
theorem dX9_rightIn_100 : decode cX9_rightIn 100 = .ok (.iinc 4 1, 3) := by decide +kernel
theorem dX9_rightIn_103 : decode cX9_rightIn 103 = .ok (.goto (-96), 3) := by decide +kernel
theorem dX9_rightIn_106 : decode cX9_rightIn 106 = .ok (.iload_n 2, 1) := by decide +kernel
theorem dX9_rightIn_107 : decode cX9_rightIn 107 = .ok (.iload_n 3, 1) := by decide +kernel
theorem dX9_rightIn_108 : decode cX9_rightIn 108 = .ok (.if_icmp .ne 7, 3) := by decide +kernel
theorem dX9_rightIn_111 : decode cX9_rightIn 111 = .ok (.iconst (-1), 1) := by decide +kernel
theorem dX9_rightIn_112 : decode cX9_rightIn 112 = .ok (.goto 12, 3) := by decide +kernel
theorem dX9_rightIn_115 : decode cX9_rightIn 115 = .ok (.iload_n 2, 1) := by decide +kernel
theorem dX9_rightIn_116 : decode cX9_rightIn 116 = .ok (.ifCond .eq 7, 3) := by decide +kernel
theorem dX9_rightIn_119 : decode cX9_rightIn 119 = .ok (.iconst 0, 1) := by decide +kernel
theorem dX9_rightIn_120 : decode cX9_rightIn 120 = .ok (.goto 4, 3) := by decide +kernel
theorem dX9_rightIn_123 : decode cX9_rightIn 123 = .ok (.iconst 1, 1) := by decide +kernel
theorem dX9_rightIn_124 : decode cX9_rightIn 124 = .ok (.ireturn, 1) := by decide +kernel
set_option maxRecDepth 20000 in
theorem ggX9_right_X9_rightIn : GoodIn wsX9_right wsX9_rightIn := goodIn_r _ [5, 6, 7, 8, 4, 9, 10, 11, 12, 13, 14, 15, 16, 17, 18, 19, 20, 21, 22, 23, 24, 25, 26, 27] (by decide +kernel) (by decide +kernel)
set_option maxRecDepth 20000 in
theorem gX9_right_X9_rightIn : GoodIn wsX9_right (wsV RX9 182 RX9 yX9_rightIn wsX9_rightIn) := goodIn_app (goodIn_of _ (by decide +kernel)) ggX9_right_X9_rightIn
theorem dX9_right_0 : decode cX9_right 0 = .ok (.aload_n 0, 1) := by decide +kernel
theorem dX9_right_1 : decode cX9_right 1 = .ok (.iconst 0, 1) := by decide +kernel
theorem dX9_right_2 : decode cX9_right 2 = .ok (.invokevirtual 182, 3) := by decide +kernel
theorem dX9_right_5 : decode cX9_right 5 = .ok (.ireturn, 1) := by decide +kernel
set_option maxRecDepth 20000 in
theorem ggX9_ends_X9_in : GoodIn wsX9_ends wsX9_in := goodIn_r _ [5] (by decide +kernel) (by decide +kernel)
set_option maxRecDepth 20000 in
theorem gX9_ends_X9_in : GoodIn wsX9_ends (va_wsS RX9 52 yX9_in wsX9_in) := goodIn_app (goodIn_of _ (by decide +kernel)) ggX9_ends_X9_in
set_option maxRecDepth 20000 in
theorem ggX9_ends_X9_refuse : GoodIn wsX9_ends wsX9_refuse := goodIn_r _ [9, 10, 53, 54, 55, 56, 57, 58, 59, 60, 61, 62, 63, 64, 65, 66, 67, 68, 69, 70] (by decide +kernel) (by decide +kernel)
set_option maxRecDepth 20000 in
theorem gX9_ends_X9_refuse : GoodIn wsX9_ends (wsV RX9 45 RX9 yX9_refuse wsX9_refuse) := goodIn_app (goodIn_of _ (by decide +kernel)) ggX9_ends_X9_refuse
set_option maxRecDepth 20000 in
theorem ggX9_ends_X9_layTried : GoodIn wsX9_ends wsX9_layTried := goodIn_r _ [14, 1, 53, 54, 55, 56, 57, 58, 59, 60, 61, 62, 63, 64, 65, 66, 67, 68, 69, 70] (by decide +kernel) (by decide +kernel)
set_option maxRecDepth 20000 in
theorem gX9_ends_X9_layTried : GoodIn wsX9_ends (wsV RX9 172 RX9 yX9_layTried wsX9_layTried) := goodIn_app (goodIn_of _ (by decide +kernel)) ggX9_ends_X9_layTried
set_option maxRecDepth 20000 in
theorem ggX9_ends_X9_rightIn : GoodIn wsX9_ends wsX9_rightIn := goodIn_r _ [18, 1, 19, 20, 4, 21, 53, 54, 55, 56, 57, 58, 59, 60, 61, 62, 63, 64, 65, 66, 67, 68, 69, 70] (by decide +kernel) (by decide +kernel)
set_option maxRecDepth 20000 in
theorem gX9_ends_X9_rightIn : GoodIn wsX9_ends (wsV RX9 182 RX9 yX9_rightIn wsX9_rightIn) := goodIn_app (goodIn_of _ (by decide +kernel)) ggX9_ends_X9_rightIn
set_option maxRecDepth 20000 in
theorem ggX9_ends_X9_bits : GoodIn wsX9_ends wsX9_bits := goodIn_r _ [24] (by decide +kernel) (by decide +kernel)
set_option maxRecDepth 20000 in
theorem gX9_ends_X9_bits : GoodIn wsX9_ends (va_wsS RX9 154 yX9_bits wsX9_bits) := goodIn_app (goodIn_of _ (by decide +kernel)) ggX9_ends_X9_bits
set_option maxRecDepth 20000 in
theorem ggX9_ends_X9_passTried : GoodIn wsX9_ends wsX9_passTried := goodIn_r _ [28, 29, 30, 31, 4, 32, 1, 19, 20, 21, 33, 34, 35, 36, 37, 38, 39, 40, 41, 42, 43, 44, 45, 46, 47, 48, 49, 50, 51, 52, 53, 54, 55, 56, 57, 58, 59, 60, 61, 62, 63, 64, 65, 66, 67, 68, 69, 70] (by decide +kernel) (by decide +kernel)
set_option maxRecDepth 20000 in
theorem gX9_ends_X9_passTried : GoodIn wsX9_ends (wsV RX9 175 RX9 yX9_passTried wsX9_passTried) := goodIn_app (goodIn_of _ (by decide +kernel)) ggX9_ends_X9_passTried
theorem dX9_ends_0 : decode cX9_ends 0 = .ok (.iload_n 1, 1) := by decide +kernel
theorem dX9_ends_1 : decode cX9_ends 1 = .ok (.iconst 0, 1) := by decide +kernel
theorem dX9_ends_2 : decode cX9_ends 2 = .ok (.iconst 1, 1) := by decide +kernel
theorem dX9_ends_3 : decode cX9_ends 3 = .ok (.invokestatic 52, 3) := by decide +kernel
theorem dX9_ends_6 : decode cX9_ends 6 = .ok (.ifCond .ne 10, 3) := by decide +kernel
theorem dX9_ends_9 : decode cX9_ends 9 = .ok (.aload_n 0, 1) := by decide +kernel
theorem dX9_ends_10 : decode cX9_ends 10 = .ok (.bipush (-2), 2) := by decide +kernel
theorem dX9_ends_12 : decode cX9_ends 12 = .ok (.invokevirtual 45, 3) := by decide +kernel
theorem dX9_ends_15 : decode cX9_ends 15 = .ok (.ireturn, 1) := by decide +kernel
theorem dX9_ends_16 : decode cX9_ends 16 = .ok (.aload_n 0, 1) := by decide +kernel
theorem dX9_ends_17 : decode cX9_ends 17 = .ok (.invokevirtual 172, 3) := by decide +kernel
theorem dX9_ends_20 : decode cX9_ends 20 = .ok (.iconst 0, 1) := by decide +kernel
theorem dX9_ends_21 : decode cX9_ends 21 = .ok (.istore_n 2, 1) := by decide +kernel
theorem dX9_ends_22 : decode cX9_ends 22 = .ok (.iload_n 2, 1) := by decide +kernel
theorem dX9_ends_23 : decode cX9_ends 23 = .ok (.bipush 61, 2) := by decide +kernel
theorem dX9_ends_25 : decode cX9_ends 25 = .ok (.if_icmp .ge 62, 3) := by decide +kernel
theorem dX9_ends_28 : decode cX9_ends 28 = .ok (.aload_n 0, 1) := by decide +kernel
theorem dX9_ends_29 : decode cX9_ends 29 = .ok (.sipush 753, 3) := by decide +kernel
theorem dX9_ends_32 : decode cX9_ends 32 = .ok (.invokevirtual 182, 3) := by decide +kernel
theorem dX9_ends_35 : decode cX9_ends 35 = .ok (.iconst (-1), 1) := by decide +kernel
theorem dX9_ends_36 : decode cX9_ends 36 = .ok (.if_icmp .ne 24, 3) := by decide +kernel
theorem dX9_ends_39 : decode cX9_ends 39 = .ok (.aload_n 0, 1) := by decide +kernel
theorem dX9_ends_40 : decode cX9_ends 40 = .ok (.getfield 7, 3) := by decide +kernel
theorem dX9_ends_43 : decode cX9_ends 43 = .ok (.sipush 760, 3) := by decide +kernel
theorem dX9_ends_46 : decode cX9_ends 46 = .ok (.iaload, 1) := by decide +kernel
theorem dX9_ends_47 : decode cX9_ends 47 = .ok (.invokestatic 154, 3) := by decide +kernel
theorem dX9_ends_50 : decode cX9_ends 50 = .ok (.aload_n 0, 1) := by decide +kernel
theorem dX9_ends_51 : decode cX9_ends 51 = .ok (.getfield 7, 3) := by decide +kernel
theorem dX9_ends_54 : decode cX9_ends 54 = .ok (.bipush 27, 2) := by decide +kernel
theorem dX9_ends_56 : decode cX9_ends 56 = .ok (.iaload, 1) := by decide +kernel
theorem dX9_ends_57 : decode cX9_ends 57 = .ok (.if_icmp .ne 19, 3) := by decide +kernel
theorem dX9_ends_60 : decode cX9_ends 60 = .ok (.iload_n 1, 1) := by decide +kernel
theorem dX9_ends_61 : decode cX9_ends 61 = .ok (.ifCond .ne 7, 3) := by decide +kernel
theorem dX9_ends_64 : decode cX9_ends 64 = .ok (.iload_n 2, 1) := by decide +kernel
theorem dX9_ends_65 : decode cX9_ends 65 = .ok (.goto 10, 3) := by decide +kernel
theorem dX9_ends_68 : decode cX9_ends 68 = .ok (.aload_n 0, 1) := by decide +kernel
theorem dX9_ends_69 : decode cX9_ends 69 = .ok (.sipush 753, 3) := by decide +kernel
theorem dX9_ends_72 : decode cX9_ends 72 = .ok (.invokevirtual 182, 3) := by decide +kernel
theorem dX9_ends_75 : decode cX9_ends 75 = .ok (.ireturn, 1) := by decide +kernel
theorem dX9_ends_76 : decode cX9_ends 76 = .ok (.aload_n 0, 1) := by decide +kernel
theorem dX9_ends_77 : decode cX9_ends 77 = .ok (.iconst 1, 1) := by decide +kernel
theorem dX9_ends_78 : decode cX9_ends 78 = .ok (.invokevirtual 175, 3) := by decide +kernel
theorem dX9_ends_81 : decode cX9_ends 81 = .ok (.iinc 2 1, 3) := by decide +kernel
theorem dX9_ends_84 : decode cX9_ends 84 = .ok (.goto (-62), 3) := by decide +kernel
theorem dX9_ends_87 : decode cX9_ends 87 = .ok (.iconst (-1), 1) := by decide +kernel
theorem dX9_ends_88 : decode cX9_ends 88 = .ok (.ireturn, 1) := by decide +kernel
theorem dX9_beside_0 : decode cX9_beside 0 = .ok (.iload_n 1, 1) := by decide +kernel
theorem dX9_beside_1 : decode cX9_beside 1 = .ok (.tableswitch 69 0 2 #[27, 40, 54], 27) := by decide +kernel
theorem dX9_beside_28 : decode cX9_beside 28 = .ok (.iload_n 0, 1) := by decide +kernel
theorem dX9_beside_29 : decode cX9_beside 29 = .ok (.iconst 4, 1) := by decide +kernel
theorem dX9_beside_30 : decode cX9_beside 30 = .ok (.if_icmp .le 9, 3) := by decide +kernel
theorem dX9_beside_33 : decode cX9_beside 33 = .ok (.iload_n 0, 1) := by decide +kernel
theorem dX9_beside_34 : decode cX9_beside 34 = .ok (.iconst 5, 1) := by decide +kernel
theorem dX9_beside_35 : decode cX9_beside 35 = .ok (.isub, 1) := by decide +kernel
theorem dX9_beside_36 : decode cX9_beside 36 = .ok (.goto 4, 3) := by decide +kernel
theorem dX9_beside_39 : decode cX9_beside 39 = .ok (.iconst (-1), 1) := by decide +kernel
theorem dX9_beside_40 : decode cX9_beside 40 = .ok (.ireturn, 1) := by decide +kernel
theorem dX9_beside_41 : decode cX9_beside 41 = .ok (.iload_n 0, 1) := by decide +kernel
theorem dX9_beside_42 : decode cX9_beside 42 = .ok (.iconst 5, 1) := by decide +kernel
theorem dX9_beside_43 : decode cX9_beside 43 = .ok (.irem, 1) := by decide +kernel
theorem dX9_beside_44 : decode cX9_beside 44 = .ok (.ifCond .le 9, 3) := by decide +kernel
theorem dX9_beside_47 : decode cX9_beside 47 = .ok (.iload_n 0, 1) := by decide +kernel
theorem dX9_beside_48 : decode cX9_beside 48 = .ok (.iconst 1, 1) := by decide +kernel
theorem dX9_beside_49 : decode cX9_beside 49 = .ok (.isub, 1) := by decide +kernel
theorem dX9_beside_50 : decode cX9_beside 50 = .ok (.goto 4, 3) := by decide +kernel
theorem dX9_beside_53 : decode cX9_beside 53 = .ok (.iconst (-1), 1) := by decide +kernel
theorem dX9_beside_54 : decode cX9_beside 54 = .ok (.ireturn, 1) := by decide +kernel
theorem dX9_beside_55 : decode cX9_beside 55 = .ok (.iload_n 0, 1) := by decide +kernel
theorem dX9_beside_56 : decode cX9_beside 56 = .ok (.iconst 5, 1) := by decide +kernel
theorem dX9_beside_57 : decode cX9_beside 57 = .ok (.irem, 1) := by decide +kernel
theorem dX9_beside_58 : decode cX9_beside 58 = .ok (.iconst 4, 1) := by decide +kernel
theorem dX9_beside_59 : decode cX9_beside 59 = .ok (.if_icmp .ge 9, 3) := by decide +kernel
theorem dX9_beside_62 : decode cX9_beside 62 = .ok (.iload_n 0, 1) := by decide +kernel
theorem dX9_beside_63 : decode cX9_beside 63 = .ok (.iconst 1, 1) := by decide +kernel
theorem dX9_beside_64 : decode cX9_beside 64 = .ok (.iadd, 1) := by decide +kernel
theorem dX9_beside_65 : decode cX9_beside 65 = .ok (.goto 4, 3) := by decide +kernel
theorem dX9_beside_68 : decode cX9_beside 68 = .ok (.iconst (-1), 1) := by decide +kernel
theorem dX9_beside_69 : decode cX9_beside 69 = .ok (.ireturn, 1) := by decide +kernel
theorem dX9_beside_70 : decode cX9_beside 70 = .ok (.iload_n 0, 1) := by decide +kernel
theorem dX9_beside_71 : decode cX9_beside 71 = .ok (.bipush 20, 2) := by decide +kernel
theorem dX9_beside_73 : decode cX9_beside 73 = .ok (.if_icmp .ge 9, 3) := by decide +kernel
theorem dX9_beside_76 : decode cX9_beside 76 = .ok (.iload_n 0, 1) := by decide +kernel
theorem dX9_beside_77 : decode cX9_beside 77 = .ok (.iconst 5, 1) := by decide +kernel
theorem dX9_beside_78 : decode cX9_beside 78 = .ok (.iadd, 1) := by decide +kernel
theorem dX9_beside_79 : decode cX9_beside 79 = .ok (.goto 4, 3) := by decide +kernel
theorem dX9_beside_82 : decode cX9_beside 82 = .ok (.iconst (-1), 1) := by decide +kernel
theorem dX9_beside_83 : decode cX9_beside 83 = .ok (.ireturn, 1) := by decide +kernel
set_option maxRecDepth 20000 in
theorem ggX9_comesCheaper_X9_beside : GoodIn wsX9_comesCheaper wsX9_beside := goodIn_r _ [8] (by decide +kernel) (by decide +kernel)
set_option maxRecDepth 20000 in
theorem gX9_comesCheaper_X9_beside : GoodIn wsX9_comesCheaper (va_wsS RX9 185 yX9_beside wsX9_beside) := goodIn_app (goodIn_of _ (by decide +kernel)) ggX9_comesCheaper_X9_beside
set_option maxRecDepth 20000 in
theorem ggX9_comesCheaper_X9_smellOf : GoodIn wsX9_comesCheaper wsX9_smellOf := goodIn_r _ [12, 3, 13, 14, 7, 15, 16, 17, 18, 19, 20, 21, 22, 23, 24, 25, 26, 27, 28, 29, 30, 31, 32, 33, 34, 35, 36, 37, 38, 39, 40, 41, 42] (by decide +kernel) (by decide +kernel)
set_option maxRecDepth 20000 in
theorem gX9_comesCheaper_X9_smellOf : GoodIn wsX9_comesCheaper (wsV RX9 137 RX9 yX9_smellOf wsX9_smellOf) := goodIn_app (goodIn_of _ (by decide +kernel)) ggX9_comesCheaper_X9_smellOf
theorem dX9_comesCheaper_0 : decode cX9_comesCheaper 0 = .ok (.iconst 0, 1) := by decide +kernel
theorem dX9_comesCheaper_1 : decode cX9_comesCheaper 1 = .ok (.istore_n 2, 1) := by decide +kernel
theorem dX9_comesCheaper_2 : decode cX9_comesCheaper 2 = .ok (.iconst 0, 1) := by decide +kernel
theorem dX9_comesCheaper_3 : decode cX9_comesCheaper 3 = .ok (.istore_n 3, 1) := by decide +kernel
theorem dX9_comesCheaper_4 : decode cX9_comesCheaper 4 = .ok (.iload_n 3, 1) := by decide +kernel
theorem dX9_comesCheaper_5 : decode cX9_comesCheaper 5 = .ok (.iconst 4, 1) := by decide +kernel
theorem dX9_comesCheaper_6 : decode cX9_comesCheaper 6 = .ok (.if_icmp .ge 129, 3) := by decide +kernel
theorem dX9_comesCheaper_9 : decode cX9_comesCheaper 9 = .ok (.iload_n 1, 1) := by decide +kernel
theorem dX9_comesCheaper_10 : decode cX9_comesCheaper 10 = .ok (.iload_n 3, 1) := by decide +kernel
theorem dX9_comesCheaper_11 : decode cX9_comesCheaper 11 = .ok (.invokestatic 185, 3) := by decide +kernel
theorem dX9_comesCheaper_14 : decode cX9_comesCheaper 14 = .ok (.istore 4, 2) := by decide +kernel
theorem dX9_comesCheaper_16 : decode cX9_comesCheaper 16 = .ok (.iload 4, 2) := by decide +kernel
theorem dX9_comesCheaper_18 : decode cX9_comesCheaper 18 = .ok (.iconst (-1), 1) := by decide +kernel
theorem dX9_comesCheaper_19 : decode cX9_comesCheaper 19 = .ok (.if_icmp .eq 110, 3) := by decide +kernel
theorem dX9_comesCheaper_22 : decode cX9_comesCheaper 22 = .ok (.aload_n 0, 1) := by decide +kernel
theorem dX9_comesCheaper_23 : decode cX9_comesCheaper 23 = .ok (.getfield 30, 3) := by decide +kernel
theorem dX9_comesCheaper_26 : decode cX9_comesCheaper 26 = .ok (.iload 4, 2) := by decide +kernel
theorem dX9_comesCheaper_28 : decode cX9_comesCheaper 28 = .ok (.iaload, 1) := by decide +kernel
theorem dX9_comesCheaper_29 : decode cX9_comesCheaper 29 = .ok (.ldc 178, 2) := by decide +kernel
theorem dX9_comesCheaper_31 : decode cX9_comesCheaper 31 = .ok (.if_icmp .ge 98, 3) := by decide +kernel
theorem dX9_comesCheaper_34 : decode cX9_comesCheaper 34 = .ok (.aload_n 0, 1) := by decide +kernel
theorem dX9_comesCheaper_35 : decode cX9_comesCheaper 35 = .ok (.getfield 30, 3) := by decide +kernel
theorem dX9_comesCheaper_38 : decode cX9_comesCheaper 38 = .ok (.iload 4, 2) := by decide +kernel
theorem dX9_comesCheaper_40 : decode cX9_comesCheaper 40 = .ok (.iaload, 1) := by decide +kernel
theorem dX9_comesCheaper_41 : decode cX9_comesCheaper 41 = .ok (.aload_n 0, 1) := by decide +kernel
theorem dX9_comesCheaper_42 : decode cX9_comesCheaper 42 = .ok (.aload_n 0, 1) := by decide +kernel
theorem dX9_comesCheaper_43 : decode cX9_comesCheaper 43 = .ok (.getfield 7, 3) := by decide +kernel
theorem dX9_comesCheaper_46 : decode cX9_comesCheaper 46 = .ok (.bipush 15, 2) := by decide +kernel
theorem dX9_comesCheaper_48 : decode cX9_comesCheaper 48 = .ok (.iaload, 1) := by decide +kernel
theorem dX9_comesCheaper_49 : decode cX9_comesCheaper 49 = .ok (.iload 4, 2) := by decide +kernel
theorem dX9_comesCheaper_51 : decode cX9_comesCheaper 51 = .ok (.aload_n 0, 1) := by decide +kernel
theorem dX9_comesCheaper_52 : decode cX9_comesCheaper 52 = .ok (.getfield 7, 3) := by decide +kernel
theorem dX9_comesCheaper_55 : decode cX9_comesCheaper 55 = .ok (.bipush 16, 2) := by decide +kernel
theorem dX9_comesCheaper_57 : decode cX9_comesCheaper 57 = .ok (.iaload, 1) := by decide +kernel
theorem dX9_comesCheaper_58 : decode cX9_comesCheaper 58 = .ok (.invokevirtual 137, 3) := by decide +kernel
theorem dX9_comesCheaper_61 : decode cX9_comesCheaper 61 = .ok (.iadd, 1) := by decide +kernel
theorem dX9_comesCheaper_62 : decode cX9_comesCheaper 62 = .ok (.istore 5, 2) := by decide +kernel
theorem dX9_comesCheaper_64 : decode cX9_comesCheaper 64 = .ok (.iload 5, 2) := by decide +kernel
theorem dX9_comesCheaper_66 : decode cX9_comesCheaper 66 = .ok (.aload_n 0, 1) := by decide +kernel
theorem dX9_comesCheaper_67 : decode cX9_comesCheaper 67 = .ok (.getfield 30, 3) := by decide +kernel
theorem dX9_comesCheaper_70 : decode cX9_comesCheaper 70 = .ok (.iload_n 1, 1) := by decide +kernel
theorem dX9_comesCheaper_71 : decode cX9_comesCheaper 71 = .ok (.iaload, 1) := by decide +kernel
theorem dX9_comesCheaper_72 : decode cX9_comesCheaper 72 = .ok (.if_icmp .lt 32, 3) := by decide +kernel
theorem dX9_comesCheaper_75 : decode cX9_comesCheaper 75 = .ok (.iload 5, 2) := by decide +kernel
theorem dX9_comesCheaper_77 : decode cX9_comesCheaper 77 = .ok (.aload_n 0, 1) := by decide +kernel
theorem dX9_comesCheaper_78 : decode cX9_comesCheaper 78 = .ok (.getfield 30, 3) := by decide +kernel
theorem dX9_comesCheaper_81 : decode cX9_comesCheaper 81 = .ok (.iload_n 1, 1) := by decide +kernel
theorem dX9_comesCheaper_82 : decode cX9_comesCheaper 82 = .ok (.iaload, 1) := by decide +kernel
theorem dX9_comesCheaper_83 : decode cX9_comesCheaper 83 = .ok (.if_icmp .ne 46, 3) := by decide +kernel
theorem dX9_comesCheaper_86 : decode cX9_comesCheaper 86 = .ok (.aload_n 0, 1) := by decide +kernel
theorem dX9_comesCheaper_87 : decode cX9_comesCheaper 87 = .ok (.getfield 33, 3) := by decide +kernel
theorem dX9_comesCheaper_90 : decode cX9_comesCheaper 90 = .ok (.iload 4, 2) := by decide +kernel
theorem dX9_comesCheaper_92 : decode cX9_comesCheaper 92 = .ok (.iaload, 1) := by decide +kernel
theorem dX9_comesCheaper_93 : decode cX9_comesCheaper 93 = .ok (.iconst 1, 1) := by decide +kernel
theorem dX9_comesCheaper_94 : decode cX9_comesCheaper 94 = .ok (.iadd, 1) := by decide +kernel
theorem dX9_comesCheaper_95 : decode cX9_comesCheaper 95 = .ok (.aload_n 0, 1) := by decide +kernel
theorem dX9_comesCheaper_96 : decode cX9_comesCheaper 96 = .ok (.getfield 33, 3) := by decide +kernel
theorem dX9_comesCheaper_99 : decode cX9_comesCheaper 99 = .ok (.iload_n 1, 1) := by decide +kernel
theorem dX9_comesCheaper_100 : decode cX9_comesCheaper 100 = .ok (.iaload, 1) := by decide +kernel
theorem dX9_comesCheaper_101 : decode cX9_comesCheaper 101 = .ok (.if_icmp .ge 28, 3) := by decide +kernel
theorem dX9_comesCheaper_104 : decode cX9_comesCheaper 104 = .ok (.aload_n 0, 1) := by decide +kernel
theorem dX9_comesCheaper_105 : decode cX9_comesCheaper 105 = .ok (.getfield 30, 3) := by decide +kernel
theorem dX9_comesCheaper_108 : decode cX9_comesCheaper 108 = .ok (.iload_n 1, 1) := by decide +kernel
theorem dX9_comesCheaper_109 : decode cX9_comesCheaper 109 = .ok (.iload 5, 2) := by decide +kernel
theorem dX9_comesCheaper_111 : decode cX9_comesCheaper 111 = .ok (.iastore, 1) := by decide +kernel
theorem dX9_comesCheaper_112 : decode cX9_comesCheaper 112 = .ok (.aload_n 0, 1) := by decide +kernel
theorem dX9_comesCheaper_113 : decode cX9_comesCheaper 113 = .ok (.getfield 33, 3) := by decide +kernel
theorem dX9_comesCheaper_116 : decode cX9_comesCheaper 116 = .ok (.iload_n 1, 1) := by decide +kernel
theorem dX9_comesCheaper_117 : decode cX9_comesCheaper 117 = .ok (.aload_n 0, 1) := by decide +kernel
theorem dX9_comesCheaper_118 : decode cX9_comesCheaper 118 = .ok (.getfield 33, 3) := by decide +kernel
theorem dX9_comesCheaper_121 : decode cX9_comesCheaper 121 = .ok (.iload 4, 2) := by decide +kernel
theorem dX9_comesCheaper_123 : decode cX9_comesCheaper 123 = .ok (.iaload, 1) := by decide +kernel
theorem dX9_comesCheaper_124 : decode cX9_comesCheaper 124 = .ok (.iconst 1, 1) := by decide +kernel
theorem dX9_comesCheaper_125 : decode cX9_comesCheaper 125 = .ok (.iadd, 1) := by decide +kernel
theorem dX9_comesCheaper_126 : decode cX9_comesCheaper 126 = .ok (.iastore, 1) := by decide +kernel
theorem dX9_comesCheaper_127 : decode cX9_comesCheaper 127 = .ok (.iconst 1, 1) := by decide +kernel
theorem dX9_comesCheaper_128 : decode cX9_comesCheaper 128 = .ok (.istore_n 2, 1) := by decide +kernel
theorem dX9_comesCheaper_129 : decode cX9_comesCheaper 129 = .ok (.iinc 3 1, 3) := by decide +kernel
theorem dX9_comesCheaper_132 : decode cX9_comesCheaper 132 = .ok (.goto (-128), 3) := by decide +kernel
theorem dX9_comesCheaper_135 : decode cX9_comesCheaper 135 = .ok (.iload_n 2, 1) := by decide +kernel
theorem dX9_comesCheaper_136 : decode cX9_comesCheaper 136 = .ok (.ireturn, 1) := by decide +kernel
set_option maxRecDepth 20000 in
theorem ggX9_layCosts_X9_comesCheaper : GoodIn wsX9_layCosts wsX9_comesCheaper := goodIn_r _ [8, 1, 2, 9, 3, 10, 11, 7, 12, 13, 14, 15, 16, 17, 18, 19, 20, 21, 22, 23, 24, 25, 26, 27, 28, 29, 30, 31, 32, 33, 34, 35, 36, 37, 38, 39, 40, 41, 42, 43, 44, 45, 46] (by decide +kernel) (by decide +kernel)
set_option maxRecDepth 20000 in
theorem gX9_layCosts_X9_comesCheaper : GoodIn wsX9_layCosts (wsV RX9 188 RX9 yX9_comesCheaper wsX9_comesCheaper) := goodIn_app (goodIn_of _ (by decide +kernel)) ggX9_layCosts_X9_comesCheaper
theorem dX9_layCosts_0 : decode cX9_layCosts 0 = .ok (.iconst 0, 1) := by decide +kernel
theorem dX9_layCosts_1 : decode cX9_layCosts 1 = .ok (.istore_n 2, 1) := by decide +kernel
theorem dX9_layCosts_2 : decode cX9_layCosts 2 = .ok (.iload_n 2, 1) := by decide +kernel
theorem dX9_layCosts_3 : decode cX9_layCosts 3 = .ok (.bipush 25, 2) := by decide +kernel
theorem dX9_layCosts_5 : decode cX9_layCosts 5 = .ok (.if_icmp .ge 33, 3) := by decide +kernel
theorem dX9_layCosts_8 : decode cX9_layCosts 8 = .ok (.aload_n 0, 1) := by decide +kernel
theorem dX9_layCosts_9 : decode cX9_layCosts 9 = .ok (.getfield 30, 3) := by decide +kernel
theorem dX9_layCosts_12 : decode cX9_layCosts 12 = .ok (.iload_n 2, 1) := by decide +kernel
theorem dX9_layCosts_13 : decode cX9_layCosts 13 = .ok (.iload_n 2, 1) := by decide +kernel
theorem dX9_layCosts_14 : decode cX9_layCosts 14 = .ok (.iload_n 1, 1) := by decide +kernel
theorem dX9_layCosts_15 : decode cX9_layCosts 15 = .ok (.if_icmp .ne 7, 3) := by decide +kernel
theorem dX9_layCosts_18 : decode cX9_layCosts 18 = .ok (.iconst 0, 1) := by decide +kernel
theorem dX9_layCosts_19 : decode cX9_layCosts 19 = .ok (.goto 5, 3) := by decide +kernel
theorem dX9_layCosts_22 : decode cX9_layCosts 22 = .ok (.ldc 178, 2) := by decide +kernel
theorem dX9_layCosts_24 : decode cX9_layCosts 24 = .ok (.iastore, 1) := by decide +kernel
theorem dX9_layCosts_25 : decode cX9_layCosts 25 = .ok (.aload_n 0, 1) := by decide +kernel
theorem dX9_layCosts_26 : decode cX9_layCosts 26 = .ok (.getfield 33, 3) := by decide +kernel
theorem dX9_layCosts_29 : decode cX9_layCosts 29 = .ok (.iload_n 2, 1) := by decide +kernel
theorem dX9_layCosts_30 : decode cX9_layCosts 30 = .ok (.iconst 0, 1) := by decide +kernel
theorem dX9_layCosts_31 : decode cX9_layCosts 31 = .ok (.iastore, 1) := by decide +kernel
theorem dX9_layCosts_32 : decode cX9_layCosts 32 = .ok (.iinc 2 1, 3) := by decide +kernel
theorem dX9_layCosts_35 : decode cX9_layCosts 35 = .ok (.goto (-33), 3) := by decide +kernel
theorem dX9_layCosts_38 : decode cX9_layCosts 38 = .ok (.iconst 1, 1) := by decide +kernel
theorem dX9_layCosts_39 : decode cX9_layCosts 39 = .ok (.istore_n 2, 1) := by decide +kernel
theorem dX9_layCosts_40 : decode cX9_layCosts 40 = .ok (.iload_n 2, 1) := by decide +kernel
theorem dX9_layCosts_41 : decode cX9_layCosts 41 = .ok (.ifCond .eq 40, 3) := by decide +kernel
theorem dX9_layCosts_44 : decode cX9_layCosts 44 = .ok (.iconst 0, 1) := by decide +kernel
theorem dX9_layCosts_45 : decode cX9_layCosts 45 = .ok (.istore_n 2, 1) := by decide +kernel
theorem dX9_layCosts_46 : decode cX9_layCosts 46 = .ok (.iconst 0, 1) := by decide +kernel
theorem dX9_layCosts_47 : decode cX9_layCosts 47 = .ok (.istore_n 3, 1) := by decide +kernel
theorem dX9_layCosts_48 : decode cX9_layCosts 48 = .ok (.iload_n 3, 1) := by decide +kernel
theorem dX9_layCosts_49 : decode cX9_layCosts 49 = .ok (.bipush 25, 2) := by decide +kernel
theorem dX9_layCosts_51 : decode cX9_layCosts 51 = .ok (.if_icmp .ge 27, 3) := by decide +kernel
theorem dX9_layCosts_54 : decode cX9_layCosts 54 = .ok (.aload_n 0, 1) := by decide +kernel
theorem dX9_layCosts_55 : decode cX9_layCosts 55 = .ok (.iload_n 3, 1) := by decide +kernel
theorem dX9_layCosts_56 : decode cX9_layCosts 56 = .ok (.invokevirtual 188, 3) := by decide +kernel
theorem dX9_layCosts_59 : decode cX9_layCosts 59 = .ok (.ifCond .ne 7, 3) := by decide +kernel
theorem dX9_layCosts_62 : decode cX9_layCosts 62 = .ok (.iload_n 2, 1) := by decide +kernel
theorem dX9_layCosts_63 : decode cX9_layCosts 63 = .ok (.ifCond .eq 7, 3) := by decide +kernel
theorem dX9_layCosts_66 : decode cX9_layCosts 66 = .ok (.iconst 1, 1) := by decide +kernel
theorem dX9_layCosts_67 : decode cX9_layCosts 67 = .ok (.goto 4, 3) := by decide +kernel
theorem dX9_layCosts_70 : decode cX9_layCosts 70 = .ok (.iconst 0, 1) := by decide +kernel
theorem dX9_layCosts_71 : decode cX9_layCosts 71 = .ok (.istore_n 2, 1) := by decide +kernel
theorem dX9_layCosts_72 : decode cX9_layCosts 72 = .ok (.iinc 3 1, 3) := by decide +kernel
theorem dX9_layCosts_75 : decode cX9_layCosts 75 = .ok (.goto (-27), 3) := by decide +kernel
theorem dX9_layCosts_78 : decode cX9_layCosts 78 = .ok (.goto (-38), 3) := by decide +kernel
theorem dX9_layCosts_81 : decode cX9_layCosts 81 = .ok (.return_, 1) := by decide +kernel
set_option maxRecDepth 20000 in
theorem ggX9_nextOnWay_X9_beside : GoodIn wsX9_nextOnWay wsX9_beside := goodIn_r _ [7] (by decide +kernel) (by decide +kernel)
set_option maxRecDepth 20000 in
theorem gX9_nextOnWay_X9_beside : GoodIn wsX9_nextOnWay (va_wsS RX9 185 yX9_beside wsX9_beside) := goodIn_app (goodIn_of _ (by decide +kernel)) ggX9_nextOnWay_X9_beside
set_option maxRecDepth 20000 in
theorem ggX9_nextOnWay_X9_smellOf : GoodIn wsX9_nextOnWay wsX9_smellOf := goodIn_r _ [11, 2, 12, 13, 6, 14, 15, 16, 17, 18, 19, 20, 21, 22, 23, 24, 25, 26, 27, 28, 29, 30, 31, 32, 33, 34, 35, 36, 37, 38, 39, 40, 41] (by decide +kernel) (by decide +kernel)
set_option maxRecDepth 20000 in
theorem gX9_nextOnWay_X9_smellOf : GoodIn wsX9_nextOnWay (wsV RX9 137 RX9 yX9_smellOf wsX9_smellOf) := goodIn_app (goodIn_of _ (by decide +kernel)) ggX9_nextOnWay_X9_smellOf
theorem dX9_nextOnWay_0 : decode cX9_nextOnWay 0 = .ok (.iconst 0, 1) := by decide +kernel
theorem dX9_nextOnWay_1 : decode cX9_nextOnWay 1 = .ok (.istore_n 2, 1) := by decide +kernel
theorem dX9_nextOnWay_2 : decode cX9_nextOnWay 2 = .ok (.iload_n 2, 1) := by decide +kernel
theorem dX9_nextOnWay_3 : decode cX9_nextOnWay 3 = .ok (.iconst 4, 1) := by decide +kernel
theorem dX9_nextOnWay_4 : decode cX9_nextOnWay 4 = .ok (.if_icmp .ge 74, 3) := by decide +kernel
theorem dX9_nextOnWay_7 : decode cX9_nextOnWay 7 = .ok (.iload_n 1, 1) := by decide +kernel
theorem dX9_nextOnWay_8 : decode cX9_nextOnWay 8 = .ok (.iload_n 2, 1) := by decide +kernel
theorem dX9_nextOnWay_9 : decode cX9_nextOnWay 9 = .ok (.invokestatic 185, 3) := by decide +kernel
theorem dX9_nextOnWay_12 : decode cX9_nextOnWay 12 = .ok (.istore_n 3, 1) := by decide +kernel
theorem dX9_nextOnWay_13 : decode cX9_nextOnWay 13 = .ok (.iload_n 3, 1) := by decide +kernel
theorem dX9_nextOnWay_14 : decode cX9_nextOnWay 14 = .ok (.iconst (-1), 1) := by decide +kernel
theorem dX9_nextOnWay_15 : decode cX9_nextOnWay 15 = .ok (.if_icmp .eq 57, 3) := by decide +kernel
theorem dX9_nextOnWay_18 : decode cX9_nextOnWay 18 = .ok (.aload_n 0, 1) := by decide +kernel
theorem dX9_nextOnWay_19 : decode cX9_nextOnWay 19 = .ok (.getfield 30, 3) := by decide +kernel
theorem dX9_nextOnWay_22 : decode cX9_nextOnWay 22 = .ok (.iload_n 3, 1) := by decide +kernel
theorem dX9_nextOnWay_23 : decode cX9_nextOnWay 23 = .ok (.iaload, 1) := by decide +kernel
theorem dX9_nextOnWay_24 : decode cX9_nextOnWay 24 = .ok (.aload_n 0, 1) := by decide +kernel
theorem dX9_nextOnWay_25 : decode cX9_nextOnWay 25 = .ok (.aload_n 0, 1) := by decide +kernel
theorem dX9_nextOnWay_26 : decode cX9_nextOnWay 26 = .ok (.getfield 7, 3) := by decide +kernel
theorem dX9_nextOnWay_29 : decode cX9_nextOnWay 29 = .ok (.bipush 15, 2) := by decide +kernel
theorem dX9_nextOnWay_31 : decode cX9_nextOnWay 31 = .ok (.iaload, 1) := by decide +kernel
theorem dX9_nextOnWay_32 : decode cX9_nextOnWay 32 = .ok (.iload_n 3, 1) := by decide +kernel
theorem dX9_nextOnWay_33 : decode cX9_nextOnWay 33 = .ok (.aload_n 0, 1) := by decide +kernel
theorem dX9_nextOnWay_34 : decode cX9_nextOnWay 34 = .ok (.getfield 7, 3) := by decide +kernel
theorem dX9_nextOnWay_37 : decode cX9_nextOnWay 37 = .ok (.bipush 16, 2) := by decide +kernel
theorem dX9_nextOnWay_39 : decode cX9_nextOnWay 39 = .ok (.iaload, 1) := by decide +kernel
theorem dX9_nextOnWay_40 : decode cX9_nextOnWay 40 = .ok (.invokevirtual 137, 3) := by decide +kernel
theorem dX9_nextOnWay_43 : decode cX9_nextOnWay 43 = .ok (.iadd, 1) := by decide +kernel
theorem dX9_nextOnWay_44 : decode cX9_nextOnWay 44 = .ok (.aload_n 0, 1) := by decide +kernel
theorem dX9_nextOnWay_45 : decode cX9_nextOnWay 45 = .ok (.getfield 30, 3) := by decide +kernel
theorem dX9_nextOnWay_48 : decode cX9_nextOnWay 48 = .ok (.iload_n 1, 1) := by decide +kernel
theorem dX9_nextOnWay_49 : decode cX9_nextOnWay 49 = .ok (.iaload, 1) := by decide +kernel
theorem dX9_nextOnWay_50 : decode cX9_nextOnWay 50 = .ok (.if_icmp .ne 22, 3) := by decide +kernel
theorem dX9_nextOnWay_53 : decode cX9_nextOnWay 53 = .ok (.aload_n 0, 1) := by decide +kernel
theorem dX9_nextOnWay_54 : decode cX9_nextOnWay 54 = .ok (.getfield 33, 3) := by decide +kernel
theorem dX9_nextOnWay_57 : decode cX9_nextOnWay 57 = .ok (.iload_n 3, 1) := by decide +kernel
theorem dX9_nextOnWay_58 : decode cX9_nextOnWay 58 = .ok (.iaload, 1) := by decide +kernel
theorem dX9_nextOnWay_59 : decode cX9_nextOnWay 59 = .ok (.iconst 1, 1) := by decide +kernel
theorem dX9_nextOnWay_60 : decode cX9_nextOnWay 60 = .ok (.iadd, 1) := by decide +kernel
theorem dX9_nextOnWay_61 : decode cX9_nextOnWay 61 = .ok (.aload_n 0, 1) := by decide +kernel
theorem dX9_nextOnWay_62 : decode cX9_nextOnWay 62 = .ok (.getfield 33, 3) := by decide +kernel
theorem dX9_nextOnWay_65 : decode cX9_nextOnWay 65 = .ok (.iload_n 1, 1) := by decide +kernel
theorem dX9_nextOnWay_66 : decode cX9_nextOnWay 66 = .ok (.iaload, 1) := by decide +kernel
theorem dX9_nextOnWay_67 : decode cX9_nextOnWay 67 = .ok (.if_icmp .ne 5, 3) := by decide +kernel
theorem dX9_nextOnWay_70 : decode cX9_nextOnWay 70 = .ok (.iload_n 3, 1) := by decide +kernel
theorem dX9_nextOnWay_71 : decode cX9_nextOnWay 71 = .ok (.ireturn, 1) := by decide +kernel
theorem dX9_nextOnWay_72 : decode cX9_nextOnWay 72 = .ok (.iinc 2 1, 3) := by decide +kernel
theorem dX9_nextOnWay_75 : decode cX9_nextOnWay 75 = .ok (.goto (-73), 3) := by decide +kernel
theorem dX9_nextOnWay_78 : decode cX9_nextOnWay 78 = .ok (.iconst (-1), 1) := by decide +kernel
theorem dX9_nextOnWay_79 : decode cX9_nextOnWay 79 = .ok (.ireturn, 1) := by decide +kernel
set_option maxRecDepth 20000 in
theorem ggX9_way_X9_in : GoodIn wsX9_way wsX9_in := goodIn_r _ [6] (by decide +kernel) (by decide +kernel)
set_option maxRecDepth 20000 in
theorem gX9_way_X9_in : GoodIn wsX9_way (va_wsS RX9 52 yX9_in wsX9_in) := goodIn_app (goodIn_of _ (by decide +kernel)) ggX9_way_X9_in
set_option maxRecDepth 20000 in
theorem ggX9_way_X9_badAs : GoodIn wsX9_way wsX9_badAs := goodIn_r _ [10, 11, 12, 13, 5, 14, 15, 49, 50, 51, 52, 53, 54, 55, 56, 57, 58, 59, 60, 61, 62, 63, 64, 65, 66] (by decide +kernel) (by decide +kernel)
set_option maxRecDepth 20000 in
theorem gX9_way_X9_badAs : GoodIn wsX9_way (wsV RX9 191 RX9 yX9_badAs wsX9_badAs) := goodIn_app (goodIn_of _ (by decide +kernel)) ggX9_way_X9_badAs
set_option maxRecDepth 20000 in
theorem ggX9_way_X9_layCosts : GoodIn wsX9_way wsX9_layCosts := goodIn_r _ [19, 1, 20, 2, 21, 22, 23, 5, 24, 25, 26, 27, 28, 29, 30, 31, 32, 33, 34, 35, 36, 37, 38, 39, 40, 41, 42, 43, 44, 49, 50, 51, 52, 53, 54, 55, 56, 57, 58, 59, 60, 61, 62, 63, 64, 65, 66] (by decide +kernel) (by decide +kernel)
set_option maxRecDepth 20000 in
theorem gX9_way_X9_layCosts : GoodIn wsX9_way (wsV RX9 194 RX9 yX9_layCosts wsX9_layCosts) := goodIn_app (goodIn_of _ (by decide +kernel)) ggX9_way_X9_layCosts
set_option maxRecDepth 20000 in
theorem ggX9_way_X9_nextOnWay : GoodIn wsX9_way wsX9_nextOnWay := goodIn_r _ [48, 1, 25, 2, 26, 27, 5, 28, 29, 30, 31, 32, 33, 34, 35, 36, 37, 38, 39, 40, 41, 42, 43, 44, 49, 50, 51, 52, 53, 54, 55, 56, 57, 58, 59, 60, 61, 62, 63, 64, 65, 66] (by decide +kernel) (by decide +kernel)
set_option maxRecDepth 20000 in
theorem gX9_way_X9_nextOnWay : GoodIn wsX9_way (wsV RX9 197 RX9 yX9_nextOnWay wsX9_nextOnWay) := goodIn_app (goodIn_of _ (by decide +kernel)) ggX9_way_X9_nextOnWay
theorem dX9_way_0 : decode cX9_way 0 = .ok (.iload_n 1, 1) := by decide +kernel
theorem dX9_way_1 : decode cX9_way 1 = .ok (.iconst 0, 1) := by decide +kernel
theorem dX9_way_2 : decode cX9_way 2 = .ok (.bipush 24, 2) := by decide +kernel
theorem dX9_way_4 : decode cX9_way 4 = .ok (.invokestatic 52, 3) := by decide +kernel
theorem dX9_way_7 : decode cX9_way 7 = .ok (.ifCond .eq 24, 3) := by decide +kernel
theorem dX9_way_10 : decode cX9_way 10 = .ok (.iload_n 2, 1) := by decide +kernel
theorem dX9_way_11 : decode cX9_way 11 = .ok (.iconst 0, 1) := by decide +kernel
theorem dX9_way_12 : decode cX9_way 12 = .ok (.bipush 24, 2) := by decide +kernel
theorem dX9_way_14 : decode cX9_way 14 = .ok (.invokestatic 52, 3) := by decide +kernel
theorem dX9_way_17 : decode cX9_way 17 = .ok (.ifCond .eq 14, 3) := by decide +kernel
theorem dX9_way_20 : decode cX9_way 20 = .ok (.iload_n 3, 1) := by decide +kernel
theorem dX9_way_21 : decode cX9_way 21 = .ok (.bipush (-3), 2) := by decide +kernel
theorem dX9_way_23 : decode cX9_way 23 = .ok (.if_icmp .lt 8, 3) := by decide +kernel
theorem dX9_way_26 : decode cX9_way 26 = .ok (.iload_n 3, 1) := by decide +kernel
theorem dX9_way_27 : decode cX9_way 27 = .ok (.iconst (-1), 1) := by decide +kernel
theorem dX9_way_28 : decode cX9_way 28 = .ok (.if_icmp .ne 10, 3) := by decide +kernel
theorem dX9_way_31 : decode cX9_way 31 = .ok (.aload_n 0, 1) := by decide +kernel
theorem dX9_way_32 : decode cX9_way 32 = .ok (.bipush (-10), 2) := by decide +kernel
theorem dX9_way_34 : decode cX9_way 34 = .ok (.invokevirtual 191, 3) := by decide +kernel
theorem dX9_way_37 : decode cX9_way 37 = .ok (.ireturn, 1) := by decide +kernel
theorem dX9_way_38 : decode cX9_way 38 = .ok (.aload_n 0, 1) := by decide +kernel
theorem dX9_way_39 : decode cX9_way 39 = .ok (.iload_n 2, 1) := by decide +kernel
theorem dX9_way_40 : decode cX9_way 40 = .ok (.invokevirtual 194, 3) := by decide +kernel
theorem dX9_way_43 : decode cX9_way 43 = .ok (.iload_n 3, 1) := by decide +kernel
theorem dX9_way_44 : decode cX9_way 44 = .ok (.ifCond .ge 25, 3) := by decide +kernel
theorem dX9_way_47 : decode cX9_way 47 = .ok (.iload_n 3, 1) := by decide +kernel
theorem dX9_way_48 : decode cX9_way 48 = .ok (.bipush (-2), 2) := by decide +kernel
theorem dX9_way_50 : decode cX9_way 50 = .ok (.if_icmp .ne 12, 3) := by decide +kernel
theorem dX9_way_53 : decode cX9_way 53 = .ok (.aload_n 0, 1) := by decide +kernel
theorem dX9_way_54 : decode cX9_way 54 = .ok (.getfield 30, 3) := by decide +kernel
theorem dX9_way_57 : decode cX9_way 57 = .ok (.iload_n 1, 1) := by decide +kernel
theorem dX9_way_58 : decode cX9_way 58 = .ok (.iaload, 1) := by decide +kernel
theorem dX9_way_59 : decode cX9_way 59 = .ok (.goto 9, 3) := by decide +kernel
theorem dX9_way_62 : decode cX9_way 62 = .ok (.aload_n 0, 1) := by decide +kernel
theorem dX9_way_63 : decode cX9_way 63 = .ok (.getfield 33, 3) := by decide +kernel
theorem dX9_way_66 : decode cX9_way 66 = .ok (.iload_n 1, 1) := by decide +kernel
theorem dX9_way_67 : decode cX9_way 67 = .ok (.iaload, 1) := by decide +kernel
theorem dX9_way_68 : decode cX9_way 68 = .ok (.ireturn, 1) := by decide +kernel
theorem dX9_way_69 : decode cX9_way 69 = .ok (.iload_n 3, 1) := by decide +kernel
theorem dX9_way_70 : decode cX9_way 70 = .ok (.aload_n 0, 1) := by decide +kernel
theorem dX9_way_71 : decode cX9_way 71 = .ok (.getfield 33, 3) := by decide +kernel
theorem dX9_way_74 : decode cX9_way 74 = .ok (.iload_n 1, 1) := by decide +kernel
theorem dX9_way_75 : decode cX9_way 75 = .ok (.iaload, 1) := by decide +kernel
theorem dX9_way_76 : decode cX9_way 76 = .ok (.if_icmp .lt 6, 3) := by decide +kernel
theorem dX9_way_79 : decode cX9_way 79 = .ok (.bipush (-5), 2) := by decide +kernel
theorem dX9_way_81 : decode cX9_way 81 = .ok (.ireturn, 1) := by decide +kernel
theorem dX9_way_82 : decode cX9_way 82 = .ok (.iload_n 1, 1) := by decide +kernel
theorem dX9_way_83 : decode cX9_way 83 = .ok (.istore 4, 2) := by decide +kernel
theorem dX9_way_85 : decode cX9_way 85 = .ok (.iconst 0, 1) := by decide +kernel
theorem dX9_way_86 : decode cX9_way 86 = .ok (.istore 5, 2) := by decide +kernel
theorem dX9_way_88 : decode cX9_way 88 = .ok (.iload 5, 2) := by decide +kernel
theorem dX9_way_90 : decode cX9_way 90 = .ok (.iload_n 3, 1) := by decide +kernel
theorem dX9_way_91 : decode cX9_way 91 = .ok (.if_icmp .gt 17, 3) := by decide +kernel
theorem dX9_way_94 : decode cX9_way 94 = .ok (.aload_n 0, 1) := by decide +kernel
theorem dX9_way_95 : decode cX9_way 95 = .ok (.iload 4, 2) := by decide +kernel
theorem dX9_way_97 : decode cX9_way 97 = .ok (.invokevirtual 197, 3) := by decide +kernel
theorem dX9_way_100 : decode cX9_way 100 = .ok (.istore 4, 2) := by decide +kernel
theorem dX9_way_102 : decode cX9_way 102 = .ok (.iinc 5 1, 3) := by decide +kernel
theorem dX9_way_105 : decode cX9_way 105 = .ok (.goto (-17), 3) := by decide +kernel
theorem dX9_way_108 : decode cX9_way 108 = .ok (.iload 4, 2) := by decide +kernel
theorem dX9_way_110 : decode cX9_way 110 = .ok (.ireturn, 1) := by decide +kernel
set_option maxRecDepth 20000 in
theorem ggX9_home_X9_isFamily : GoodIn wsX9_home wsX9_isFamily := goodIn_r _ [6, 1, 7, 8, 5, 9, 55, 56, 57, 58, 59, 60, 61, 62, 63, 64, 65, 66, 67, 68, 69, 70, 71, 72] (by decide +kernel) (by decide +kernel)
set_option maxRecDepth 20000 in
theorem gX9_home_X9_isFamily : GoodIn wsX9_home (wsV RX9 157 RX9 yX9_isFamily wsX9_isFamily) := goodIn_app (goodIn_of _ (by decide +kernel)) ggX9_home_X9_isFamily
set_option maxRecDepth 20000 in
theorem ggX9_home_X9_refuse : GoodIn wsX9_home wsX9_refuse := goodIn_r _ [13, 14, 55, 56, 57, 58, 59, 60, 61, 62, 63, 64, 65, 66, 67, 68, 69, 70, 71, 72] (by decide +kernel) (by decide +kernel)
set_option maxRecDepth 20000 in
theorem gX9_home_X9_refuse : GoodIn wsX9_home (wsV RX9 45 RX9 yX9_refuse wsX9_refuse) := goodIn_app (goodIn_of _ (by decide +kernel)) ggX9_home_X9_refuse
set_option maxRecDepth 20000 in
theorem ggX9_home_X9_layTried : GoodIn wsX9_home wsX9_layTried := goodIn_r _ [18, 1, 55, 56, 57, 58, 59, 60, 61, 62, 63, 64, 65, 66, 67, 68, 69, 70, 71, 72] (by decide +kernel) (by decide +kernel)
set_option maxRecDepth 20000 in
theorem gX9_home_X9_layTried : GoodIn wsX9_home (wsV RX9 172 RX9 yX9_layTried wsX9_layTried) := goodIn_app (goodIn_of _ (by decide +kernel)) ggX9_home_X9_layTried
set_option maxRecDepth 20000 in
theorem ggX9_home_X9_whenTried : GoodIn wsX9_home wsX9_whenTried := goodIn_r _ [22, 1, 23, 24, 25, 5, 26, 27, 28, 29, 30, 31, 32, 33, 34, 35, 36, 37, 38, 39, 40, 41, 42, 43, 44, 45, 46, 47, 48, 49, 50, 51, 52, 53, 54, 55, 56, 57, 58, 59, 60, 61, 62, 63, 64, 65, 66, 67, 68, 69, 70, 71, 72] (by decide +kernel) (by decide +kernel)
set_option maxRecDepth 20000 in
theorem gX9_home_X9_whenTried : GoodIn wsX9_home (wsV RX9 179 RX9 yX9_whenTried wsX9_whenTried) := goodIn_app (goodIn_of _ (by decide +kernel)) ggX9_home_X9_whenTried
theorem dX9_home_0 : decode cX9_home 0 = .ok (.aload_n 0, 1) := by decide +kernel
theorem dX9_home_1 : decode cX9_home 1 = .ok (.iload_n 1, 1) := by decide +kernel
theorem dX9_home_2 : decode cX9_home 2 = .ok (.invokevirtual 157, 3) := by decide +kernel
theorem dX9_home_5 : decode cX9_home 5 = .ok (.ifCond .ne 10, 3) := by decide +kernel
theorem dX9_home_8 : decode cX9_home 8 = .ok (.aload_n 0, 1) := by decide +kernel
theorem dX9_home_9 : decode cX9_home 9 = .ok (.bipush (-2), 2) := by decide +kernel
theorem dX9_home_11 : decode cX9_home 11 = .ok (.invokevirtual 45, 3) := by decide +kernel
theorem dX9_home_14 : decode cX9_home 14 = .ok (.ireturn, 1) := by decide +kernel
theorem dX9_home_15 : decode cX9_home 15 = .ok (.iconst (-1), 1) := by decide +kernel
theorem dX9_home_16 : decode cX9_home 16 = .ok (.istore_n 2, 1) := by decide +kernel
theorem dX9_home_17 : decode cX9_home 17 = .ok (.iconst (-1), 1) := by decide +kernel
theorem dX9_home_18 : decode cX9_home 18 = .ok (.istore_n 3, 1) := by decide +kernel
theorem dX9_home_19 : decode cX9_home 19 = .ok (.iconst 0, 1) := by decide +kernel
theorem dX9_home_20 : decode cX9_home 20 = .ok (.istore 4, 2) := by decide +kernel
theorem dX9_home_22 : decode cX9_home 22 = .ok (.iload 4, 2) := by decide +kernel
theorem dX9_home_24 : decode cX9_home 24 = .ok (.bipush 25, 2) := by decide +kernel
theorem dX9_home_26 : decode cX9_home 26 = .ok (.if_icmp .ge 58, 3) := by decide +kernel
theorem dX9_home_29 : decode cX9_home 29 = .ok (.aload_n 0, 1) := by decide +kernel
theorem dX9_home_30 : decode cX9_home 30 = .ok (.invokevirtual 172, 3) := by decide +kernel
theorem dX9_home_33 : decode cX9_home 33 = .ok (.aload_n 0, 1) := by decide +kernel
theorem dX9_home_34 : decode cX9_home 34 = .ok (.getfield 7, 3) := by decide +kernel
theorem dX9_home_37 : decode cX9_home 37 = .ok (.sipush 761, 3) := by decide +kernel
theorem dX9_home_40 : decode cX9_home 40 = .ok (.iload_n 1, 1) := by decide +kernel
theorem dX9_home_41 : decode cX9_home 41 = .ok (.iadd, 1) := by decide +kernel
theorem dX9_home_42 : decode cX9_home 42 = .ok (.iload 4, 2) := by decide +kernel
theorem dX9_home_44 : decode cX9_home 44 = .ok (.iastore, 1) := by decide +kernel
theorem dX9_home_45 : decode cX9_home 45 = .ok (.aload_n 0, 1) := by decide +kernel
theorem dX9_home_46 : decode cX9_home 46 = .ok (.iload_n 1, 1) := by decide +kernel
theorem dX9_home_47 : decode cX9_home 47 = .ok (.invokevirtual 179, 3) := by decide +kernel
theorem dX9_home_50 : decode cX9_home 50 = .ok (.istore 5, 2) := by decide +kernel
theorem dX9_home_52 : decode cX9_home 52 = .ok (.iload 5, 2) := by decide +kernel
theorem dX9_home_54 : decode cX9_home 54 = .ok (.iload_n 3, 1) := by decide +kernel
theorem dX9_home_55 : decode cX9_home 55 = .ok (.if_icmp .le 8, 3) := by decide +kernel
theorem dX9_home_58 : decode cX9_home 58 = .ok (.iload 4, 2) := by decide +kernel
theorem dX9_home_60 : decode cX9_home 60 = .ok (.goto 4, 3) := by decide +kernel
theorem dX9_home_63 : decode cX9_home 63 = .ok (.iload_n 2, 1) := by decide +kernel
theorem dX9_home_64 : decode cX9_home 64 = .ok (.istore_n 2, 1) := by decide +kernel
theorem dX9_home_65 : decode cX9_home 65 = .ok (.iload 5, 2) := by decide +kernel
theorem dX9_home_67 : decode cX9_home 67 = .ok (.iload_n 3, 1) := by decide +kernel
theorem dX9_home_68 : decode cX9_home 68 = .ok (.if_icmp .le 8, 3) := by decide +kernel
theorem dX9_home_71 : decode cX9_home 71 = .ok (.iload 5, 2) := by decide +kernel
theorem dX9_home_73 : decode cX9_home 73 = .ok (.goto 4, 3) := by decide +kernel
theorem dX9_home_76 : decode cX9_home 76 = .ok (.iload_n 3, 1) := by decide +kernel
theorem dX9_home_77 : decode cX9_home 77 = .ok (.istore_n 3, 1) := by decide +kernel
theorem dX9_home_78 : decode cX9_home 78 = .ok (.iinc 4 1, 3) := by decide +kernel
theorem dX9_home_81 : decode cX9_home 81 = .ok (.goto (-59), 3) := by decide +kernel
theorem dX9_home_84 : decode cX9_home 84 = .ok (.iload_n 2, 1) := by decide +kernel
theorem dX9_home_85 : decode cX9_home 85 = .ok (.ireturn, 1) := by decide +kernel
set_option maxRecDepth 20000 in
theorem ggX9_quiet_X9_in : GoodIn wsX9_quiet wsX9_in := goodIn_r _ [5] (by decide +kernel) (by decide +kernel)
set_option maxRecDepth 20000 in
theorem gX9_quiet_X9_in : GoodIn wsX9_quiet (va_wsS RX9 52 yX9_in wsX9_in) := goodIn_app (goodIn_of _ (by decide +kernel)) ggX9_quiet_X9_in
set_option maxRecDepth 20000 in
theorem ggX9_quiet_X9_refuse : GoodIn wsX9_quiet wsX9_refuse := goodIn_r _ [9, 10, 49, 50, 51, 52, 53, 54, 55, 56, 57, 58, 59, 60, 61, 62, 63, 64, 65, 66] (by decide +kernel) (by decide +kernel)
set_option maxRecDepth 20000 in
theorem gX9_quiet_X9_refuse : GoodIn wsX9_quiet (wsV RX9 45 RX9 yX9_refuse wsX9_refuse) := goodIn_app (goodIn_of _ (by decide +kernel)) ggX9_quiet_X9_refuse
set_option maxRecDepth 20000 in
theorem ggX9_quiet_X9_layTried : GoodIn wsX9_quiet wsX9_layTried := goodIn_r _ [14, 1, 49, 50, 51, 52, 53, 54, 55, 56, 57, 58, 59, 60, 61, 62, 63, 64, 65, 66] (by decide +kernel) (by decide +kernel)
set_option maxRecDepth 20000 in
theorem gX9_quiet_X9_layTried : GoodIn wsX9_quiet (wsV RX9 172 RX9 yX9_layTried wsX9_layTried) := goodIn_app (goodIn_of _ (by decide +kernel)) ggX9_quiet_X9_layTried
set_option maxRecDepth 20000 in
theorem ggX9_quiet_X9_passTried : GoodIn wsX9_quiet wsX9_passTried := goodIn_r _ [18, 19, 20, 21, 4, 22, 1, 23, 24, 25, 26, 27, 28, 29, 30, 31, 32, 33, 34, 35, 36, 37, 38, 39, 40, 41, 42, 43, 44, 45, 49, 50, 51, 52, 53, 54, 55, 56, 57, 58, 59, 60, 61, 62, 63, 64, 65, 66] (by decide +kernel) (by decide +kernel)
set_option maxRecDepth 20000 in
theorem gX9_quiet_X9_passTried : GoodIn wsX9_quiet (wsV RX9 175 RX9 yX9_passTried wsX9_passTried) := goodIn_app (goodIn_of _ (by decide +kernel)) ggX9_quiet_X9_passTried
set_option maxRecDepth 20000 in
theorem ggX9_quiet_X9_bits : GoodIn wsX9_quiet wsX9_bits := goodIn_r _ [48] (by decide +kernel) (by decide +kernel)
set_option maxRecDepth 20000 in
theorem gX9_quiet_X9_bits : GoodIn wsX9_quiet (va_wsS RX9 154 yX9_bits wsX9_bits) := goodIn_app (goodIn_of _ (by decide +kernel)) ggX9_quiet_X9_bits
theorem dX9_quiet_0 : decode cX9_quiet 0 = .ok (.iload_n 1, 1) := by decide +kernel
theorem dX9_quiet_1 : decode cX9_quiet 1 = .ok (.iconst 1, 1) := by decide +kernel
theorem dX9_quiet_2 : decode cX9_quiet 2 = .ok (.bipush 60, 2) := by decide +kernel
theorem dX9_quiet_4 : decode cX9_quiet 4 = .ok (.invokestatic 52, 3) := by decide +kernel
theorem dX9_quiet_7 : decode cX9_quiet 7 = .ok (.ifCond .ne 10, 3) := by decide +kernel
theorem dX9_quiet_10 : decode cX9_quiet 10 = .ok (.aload_n 0, 1) := by decide +kernel
theorem dX9_quiet_11 : decode cX9_quiet 11 = .ok (.bipush (-2), 2) := by decide +kernel
theorem dX9_quiet_13 : decode cX9_quiet 13 = .ok (.invokevirtual 45, 3) := by decide +kernel
theorem dX9_quiet_16 : decode cX9_quiet 16 = .ok (.ireturn, 1) := by decide +kernel
theorem dX9_quiet_17 : decode cX9_quiet 17 = .ok (.iconst 1, 1) := by decide +kernel
theorem dX9_quiet_18 : decode cX9_quiet 18 = .ok (.aload_n 0, 1) := by decide +kernel
theorem dX9_quiet_19 : decode cX9_quiet 19 = .ok (.getfield 7, 3) := by decide +kernel
theorem dX9_quiet_22 : decode cX9_quiet 22 = .ok (.bipush 17, 2) := by decide +kernel
theorem dX9_quiet_24 : decode cX9_quiet 24 = .ok (.iaload, 1) := by decide +kernel
theorem dX9_quiet_25 : decode cX9_quiet 25 = .ok (.ishl, 1) := by decide +kernel
theorem dX9_quiet_26 : decode cX9_quiet 26 = .ok (.iconst 1, 1) := by decide +kernel
theorem dX9_quiet_27 : decode cX9_quiet 27 = .ok (.isub, 1) := by decide +kernel
theorem dX9_quiet_28 : decode cX9_quiet 28 = .ok (.istore_n 2, 1) := by decide +kernel
theorem dX9_quiet_29 : decode cX9_quiet 29 = .ok (.iconst (-1), 1) := by decide +kernel
theorem dX9_quiet_30 : decode cX9_quiet 30 = .ok (.istore_n 3, 1) := by decide +kernel
theorem dX9_quiet_31 : decode cX9_quiet 31 = .ok (.iconst 0, 1) := by decide +kernel
theorem dX9_quiet_32 : decode cX9_quiet 32 = .ok (.istore 4, 2) := by decide +kernel
theorem dX9_quiet_34 : decode cX9_quiet 34 = .ok (.iload 4, 2) := by decide +kernel
theorem dX9_quiet_36 : decode cX9_quiet 36 = .ok (.iload_n 2, 1) := by decide +kernel
theorem dX9_quiet_37 : decode cX9_quiet 37 = .ok (.if_icmp .gt 86, 3) := by decide +kernel
theorem dX9_quiet_40 : decode cX9_quiet 40 = .ok (.aload_n 0, 1) := by decide +kernel
theorem dX9_quiet_41 : decode cX9_quiet 41 = .ok (.invokevirtual 172, 3) := by decide +kernel
theorem dX9_quiet_44 : decode cX9_quiet 44 = .ok (.aload_n 0, 1) := by decide +kernel
theorem dX9_quiet_45 : decode cX9_quiet 45 = .ok (.getfield 7, 3) := by decide +kernel
theorem dX9_quiet_48 : decode cX9_quiet 48 = .ok (.sipush 768, 3) := by decide +kernel
theorem dX9_quiet_51 : decode cX9_quiet 51 = .ok (.iload_n 2, 1) := by decide +kernel
theorem dX9_quiet_52 : decode cX9_quiet 52 = .ok (.iload 4, 2) := by decide +kernel
theorem dX9_quiet_54 : decode cX9_quiet 54 = .ok (.iconst (-1), 1) := by decide +kernel
theorem dX9_quiet_55 : decode cX9_quiet 55 = .ok (.ixor, 1) := by decide +kernel
theorem dX9_quiet_56 : decode cX9_quiet 56 = .ok (.iand, 1) := by decide +kernel
theorem dX9_quiet_57 : decode cX9_quiet 57 = .ok (.iastore, 1) := by decide +kernel
theorem dX9_quiet_58 : decode cX9_quiet 58 = .ok (.aload_n 0, 1) := by decide +kernel
theorem dX9_quiet_59 : decode cX9_quiet 59 = .ok (.iload_n 1, 1) := by decide +kernel
theorem dX9_quiet_60 : decode cX9_quiet 60 = .ok (.invokevirtual 175, 3) := by decide +kernel
theorem dX9_quiet_63 : decode cX9_quiet 63 = .ok (.aload_n 0, 1) := by decide +kernel
theorem dX9_quiet_64 : decode cX9_quiet 64 = .ok (.getfield 7, 3) := by decide +kernel
theorem dX9_quiet_67 : decode cX9_quiet 67 = .ok (.sipush 760, 3) := by decide +kernel
theorem dX9_quiet_70 : decode cX9_quiet 70 = .ok (.iaload, 1) := by decide +kernel
theorem dX9_quiet_71 : decode cX9_quiet 71 = .ok (.aload_n 0, 1) := by decide +kernel
theorem dX9_quiet_72 : decode cX9_quiet 72 = .ok (.getfield 7, 3) := by decide +kernel
theorem dX9_quiet_75 : decode cX9_quiet 75 = .ok (.bipush 7, 2) := by decide +kernel
theorem dX9_quiet_77 : decode cX9_quiet 77 = .ok (.iaload, 1) := by decide +kernel
theorem dX9_quiet_78 : decode cX9_quiet 78 = .ok (.if_icmp .ne 7, 3) := by decide +kernel
theorem dX9_quiet_81 : decode cX9_quiet 81 = .ok (.iconst 1, 1) := by decide +kernel
theorem dX9_quiet_82 : decode cX9_quiet 82 = .ok (.goto 4, 3) := by decide +kernel
theorem dX9_quiet_85 : decode cX9_quiet 85 = .ok (.iconst 0, 1) := by decide +kernel
theorem dX9_quiet_86 : decode cX9_quiet 86 = .ok (.istore 5, 2) := by decide +kernel
theorem dX9_quiet_88 : decode cX9_quiet 88 = .ok (.iload 5, 2) := by decide +kernel
theorem dX9_quiet_90 : decode cX9_quiet 90 = .ok (.ifCond .eq 25, 3) := by decide +kernel
theorem dX9_quiet_93 : decode cX9_quiet 93 = .ok (.iload_n 3, 1) := by decide +kernel
theorem dX9_quiet_94 : decode cX9_quiet 94 = .ok (.iconst (-1), 1) := by decide +kernel
theorem dX9_quiet_95 : decode cX9_quiet 95 = .ok (.if_icmp .eq 15, 3) := by decide +kernel
theorem dX9_quiet_98 : decode cX9_quiet 98 = .ok (.iload 4, 2) := by decide +kernel
theorem dX9_quiet_100 : decode cX9_quiet 100 = .ok (.invokestatic 154, 3) := by decide +kernel
theorem dX9_quiet_103 : decode cX9_quiet 103 = .ok (.iload_n 3, 1) := by decide +kernel
theorem dX9_quiet_104 : decode cX9_quiet 104 = .ok (.invokestatic 154, 3) := by decide +kernel
theorem dX9_quiet_107 : decode cX9_quiet 107 = .ok (.if_icmp .ge 8, 3) := by decide +kernel
theorem dX9_quiet_110 : decode cX9_quiet 110 = .ok (.iload 4, 2) := by decide +kernel
theorem dX9_quiet_112 : decode cX9_quiet 112 = .ok (.goto 4, 3) := by decide +kernel
theorem dX9_quiet_115 : decode cX9_quiet 115 = .ok (.iload_n 3, 1) := by decide +kernel
theorem dX9_quiet_116 : decode cX9_quiet 116 = .ok (.istore_n 3, 1) := by decide +kernel
theorem dX9_quiet_117 : decode cX9_quiet 117 = .ok (.iinc 4 1, 3) := by decide +kernel
theorem dX9_quiet_120 : decode cX9_quiet 120 = .ok (.goto (-86), 3) := by decide +kernel
theorem dX9_quiet_123 : decode cX9_quiet 123 = .ok (.iload_n 3, 1) := by decide +kernel
theorem dX9_quiet_124 : decode cX9_quiet 124 = .ok (.ireturn, 1) := by decide +kernel
set_option maxRecDepth 20000 in
theorem ggX9_mayMarry_X9_apart : GoodIn wsX9_mayMarry wsX9_apart := goodIn_r _ [6] (by decide +kernel) (by decide +kernel)
set_option maxRecDepth 20000 in
theorem gX9_mayMarry_X9_apart : GoodIn wsX9_mayMarry (va_wsS RX9 123 yX9_apart wsX9_apart) := goodIn_app (goodIn_of _ (by decide +kernel)) ggX9_mayMarry_X9_apart
theorem dX9_mayMarry_0 : decode cX9_mayMarry 0 = .ok (.aload_n 0, 1) := by decide +kernel
theorem dX9_mayMarry_1 : decode cX9_mayMarry 1 = .ok (.getfield 7, 3) := by decide +kernel
theorem dX9_mayMarry_4 : decode cX9_mayMarry 4 = .ok (.bipush 35, 2) := by decide +kernel
theorem dX9_mayMarry_6 : decode cX9_mayMarry 6 = .ok (.iload_n 1, 1) := by decide +kernel
theorem dX9_mayMarry_7 : decode cX9_mayMarry 7 = .ok (.iadd, 1) := by decide +kernel
theorem dX9_mayMarry_8 : decode cX9_mayMarry 8 = .ok (.iaload, 1) := by decide +kernel
theorem dX9_mayMarry_9 : decode cX9_mayMarry 9 = .ok (.aload_n 0, 1) := by decide +kernel
theorem dX9_mayMarry_10 : decode cX9_mayMarry 10 = .ok (.getfield 7, 3) := by decide +kernel
theorem dX9_mayMarry_13 : decode cX9_mayMarry 13 = .ok (.bipush 35, 2) := by decide +kernel
theorem dX9_mayMarry_15 : decode cX9_mayMarry 15 = .ok (.iload_n 2, 1) := by decide +kernel
theorem dX9_mayMarry_16 : decode cX9_mayMarry 16 = .ok (.iadd, 1) := by decide +kernel
theorem dX9_mayMarry_17 : decode cX9_mayMarry 17 = .ok (.iaload, 1) := by decide +kernel
theorem dX9_mayMarry_18 : decode cX9_mayMarry 18 = .ok (.if_icmp .eq 30, 3) := by decide +kernel
theorem dX9_mayMarry_21 : decode cX9_mayMarry 21 = .ok (.aload_n 0, 1) := by decide +kernel
theorem dX9_mayMarry_22 : decode cX9_mayMarry 22 = .ok (.getfield 7, 3) := by decide +kernel
theorem dX9_mayMarry_25 : decode cX9_mayMarry 25 = .ok (.iconst 0, 1) := by decide +kernel
theorem dX9_mayMarry_26 : decode cX9_mayMarry 26 = .ok (.iload_n 1, 1) := by decide +kernel
theorem dX9_mayMarry_27 : decode cX9_mayMarry 27 = .ok (.iadd, 1) := by decide +kernel
theorem dX9_mayMarry_28 : decode cX9_mayMarry 28 = .ok (.iaload, 1) := by decide +kernel
theorem dX9_mayMarry_29 : decode cX9_mayMarry 29 = .ok (.aload_n 0, 1) := by decide +kernel
theorem dX9_mayMarry_30 : decode cX9_mayMarry 30 = .ok (.getfield 7, 3) := by decide +kernel
theorem dX9_mayMarry_33 : decode cX9_mayMarry 33 = .ok (.iconst 0, 1) := by decide +kernel
theorem dX9_mayMarry_34 : decode cX9_mayMarry 34 = .ok (.iload_n 2, 1) := by decide +kernel
theorem dX9_mayMarry_35 : decode cX9_mayMarry 35 = .ok (.iadd, 1) := by decide +kernel
theorem dX9_mayMarry_36 : decode cX9_mayMarry 36 = .ok (.iaload, 1) := by decide +kernel
theorem dX9_mayMarry_37 : decode cX9_mayMarry 37 = .ok (.invokestatic 123, 3) := by decide +kernel
theorem dX9_mayMarry_40 : decode cX9_mayMarry 40 = .ok (.iconst 5, 1) := by decide +kernel
theorem dX9_mayMarry_41 : decode cX9_mayMarry 41 = .ok (.if_icmp .gt 7, 3) := by decide +kernel
theorem dX9_mayMarry_44 : decode cX9_mayMarry 44 = .ok (.iconst 1, 1) := by decide +kernel
theorem dX9_mayMarry_45 : decode cX9_mayMarry 45 = .ok (.goto 4, 3) := by decide +kernel
theorem dX9_mayMarry_48 : decode cX9_mayMarry 48 = .ok (.iconst 0, 1) := by decide +kernel
theorem dX9_mayMarry_49 : decode cX9_mayMarry 49 = .ok (.istore_n 3, 1) := by decide +kernel
theorem dX9_mayMarry_50 : decode cX9_mayMarry 50 = .ok (.iconst 0, 1) := by decide +kernel
theorem dX9_mayMarry_51 : decode cX9_mayMarry 51 = .ok (.istore 4, 2) := by decide +kernel
theorem dX9_mayMarry_53 : decode cX9_mayMarry 53 = .ok (.iload 4, 2) := by decide +kernel
theorem dX9_mayMarry_55 : decode cX9_mayMarry 55 = .ok (.iload_n 1, 1) := by decide +kernel
theorem dX9_mayMarry_56 : decode cX9_mayMarry 56 = .ok (.if_icmp .ge 41, 3) := by decide +kernel
theorem dX9_mayMarry_59 : decode cX9_mayMarry 59 = .ok (.iload_n 3, 1) := by decide +kernel
theorem dX9_mayMarry_60 : decode cX9_mayMarry 60 = .ok (.ifCond .eq 37, 3) := by decide +kernel
theorem dX9_mayMarry_63 : decode cX9_mayMarry 63 = .ok (.aload_n 0, 1) := by decide +kernel
theorem dX9_mayMarry_64 : decode cX9_mayMarry 64 = .ok (.getfield 36, 3) := by decide +kernel
theorem dX9_mayMarry_67 : decode cX9_mayMarry 67 = .ok (.iload 4, 2) := by decide +kernel
theorem dX9_mayMarry_69 : decode cX9_mayMarry 69 = .ok (.iaload, 1) := by decide +kernel
theorem dX9_mayMarry_70 : decode cX9_mayMarry 70 = .ok (.iload_n 2, 1) := by decide +kernel
theorem dX9_mayMarry_71 : decode cX9_mayMarry 71 = .ok (.if_icmp .eq 18, 3) := by decide +kernel
theorem dX9_mayMarry_74 : decode cX9_mayMarry 74 = .ok (.aload_n 0, 1) := by decide +kernel
theorem dX9_mayMarry_75 : decode cX9_mayMarry 75 = .ok (.getfield 36, 3) := by decide +kernel
theorem dX9_mayMarry_78 : decode cX9_mayMarry 78 = .ok (.iload 4, 2) := by decide +kernel
theorem dX9_mayMarry_80 : decode cX9_mayMarry 80 = .ok (.iaload, 1) := by decide +kernel
theorem dX9_mayMarry_81 : decode cX9_mayMarry 81 = .ok (.iload_n 1, 1) := by decide +kernel
theorem dX9_mayMarry_82 : decode cX9_mayMarry 82 = .ok (.if_icmp .eq 7, 3) := by decide +kernel
theorem dX9_mayMarry_85 : decode cX9_mayMarry 85 = .ok (.iconst 1, 1) := by decide +kernel
theorem dX9_mayMarry_86 : decode cX9_mayMarry 86 = .ok (.goto 4, 3) := by decide +kernel
theorem dX9_mayMarry_89 : decode cX9_mayMarry 89 = .ok (.iconst 0, 1) := by decide +kernel
theorem dX9_mayMarry_90 : decode cX9_mayMarry 90 = .ok (.istore_n 3, 1) := by decide +kernel
theorem dX9_mayMarry_91 : decode cX9_mayMarry 91 = .ok (.iinc 4 1, 3) := by decide +kernel
theorem dX9_mayMarry_94 : decode cX9_mayMarry 94 = .ok (.goto (-41), 3) := by decide +kernel
theorem dX9_mayMarry_97 : decode cX9_mayMarry 97 = .ok (.iload_n 3, 1) := by decide +kernel
theorem dX9_mayMarry_98 : decode cX9_mayMarry 98 = .ok (.ireturn, 1) := by decide +kernel
theorem dX9_isTaken_0 : decode cX9_isTaken 0 = .ok (.iconst 0, 1) := by decide +kernel
theorem dX9_isTaken_1 : decode cX9_isTaken 1 = .ok (.istore_n 2, 1) := by decide +kernel
theorem dX9_isTaken_2 : decode cX9_isTaken 2 = .ok (.iconst 0, 1) := by decide +kernel
theorem dX9_isTaken_3 : decode cX9_isTaken 3 = .ok (.istore_n 3, 1) := by decide +kernel
theorem dX9_isTaken_4 : decode cX9_isTaken 4 = .ok (.iload_n 3, 1) := by decide +kernel
theorem dX9_isTaken_5 : decode cX9_isTaken 5 = .ok (.iload_n 1, 1) := by decide +kernel
theorem dX9_isTaken_6 : decode cX9_isTaken 6 = .ok (.if_icmp .ge 29, 3) := by decide +kernel
theorem dX9_isTaken_9 : decode cX9_isTaken 9 = .ok (.iload_n 2, 1) := by decide +kernel
theorem dX9_isTaken_10 : decode cX9_isTaken 10 = .ok (.ifCond .ne 13, 3) := by decide +kernel
theorem dX9_isTaken_13 : decode cX9_isTaken 13 = .ok (.aload_n 0, 1) := by decide +kernel
theorem dX9_isTaken_14 : decode cX9_isTaken 14 = .ok (.getfield 36, 3) := by decide +kernel
theorem dX9_isTaken_17 : decode cX9_isTaken 17 = .ok (.iload_n 3, 1) := by decide +kernel
theorem dX9_isTaken_18 : decode cX9_isTaken 18 = .ok (.iaload, 1) := by decide +kernel
theorem dX9_isTaken_19 : decode cX9_isTaken 19 = .ok (.iload_n 1, 1) := by decide +kernel
theorem dX9_isTaken_20 : decode cX9_isTaken 20 = .ok (.if_icmp .ne 7, 3) := by decide +kernel
theorem dX9_isTaken_23 : decode cX9_isTaken 23 = .ok (.iconst 1, 1) := by decide +kernel
theorem dX9_isTaken_24 : decode cX9_isTaken 24 = .ok (.goto 4, 3) := by decide +kernel
theorem dX9_isTaken_27 : decode cX9_isTaken 27 = .ok (.iconst 0, 1) := by decide +kernel
theorem dX9_isTaken_28 : decode cX9_isTaken 28 = .ok (.istore_n 2, 1) := by decide +kernel
theorem dX9_isTaken_29 : decode cX9_isTaken 29 = .ok (.iinc 3 1, 3) := by decide +kernel
theorem dX9_isTaken_32 : decode cX9_isTaken 32 = .ok (.goto (-28), 3) := by decide +kernel
theorem dX9_isTaken_35 : decode cX9_isTaken 35 = .ok (.iload_n 2, 1) := by decide +kernel
theorem dX9_isTaken_36 : decode cX9_isTaken 36 = .ok (.ireturn, 1) := by decide +kernel
theorem dX9_pairs_0 : decode cX9_pairs 0 = .ok (.iconst 0, 1) := by decide +kernel
theorem dX9_pairs_1 : decode cX9_pairs 1 = .ok (.istore_n 1, 1) := by decide +kernel
theorem dX9_pairs_2 : decode cX9_pairs 2 = .ok (.iconst 0, 1) := by decide +kernel
theorem dX9_pairs_3 : decode cX9_pairs 3 = .ok (.istore_n 2, 1) := by decide +kernel
theorem dX9_pairs_4 : decode cX9_pairs 4 = .ok (.iload_n 2, 1) := by decide +kernel
theorem dX9_pairs_5 : decode cX9_pairs 5 = .ok (.aload_n 0, 1) := by decide +kernel
theorem dX9_pairs_6 : decode cX9_pairs 6 = .ok (.getfield 7, 3) := by decide +kernel
theorem dX9_pairs_9 : decode cX9_pairs 9 = .ok (.bipush 27, 2) := by decide +kernel
theorem dX9_pairs_11 : decode cX9_pairs 11 = .ok (.iaload, 1) := by decide +kernel
theorem dX9_pairs_12 : decode cX9_pairs 12 = .ok (.if_icmp .ge 27, 3) := by decide +kernel
theorem dX9_pairs_15 : decode cX9_pairs 15 = .ok (.iload_n 1, 1) := by decide +kernel
theorem dX9_pairs_16 : decode cX9_pairs 16 = .ok (.aload_n 0, 1) := by decide +kernel
theorem dX9_pairs_17 : decode cX9_pairs 17 = .ok (.getfield 36, 3) := by decide +kernel
theorem dX9_pairs_20 : decode cX9_pairs 20 = .ok (.iload_n 2, 1) := by decide +kernel
theorem dX9_pairs_21 : decode cX9_pairs 21 = .ok (.iaload, 1) := by decide +kernel
theorem dX9_pairs_22 : decode cX9_pairs 22 = .ok (.iload_n 2, 1) := by decide +kernel
theorem dX9_pairs_23 : decode cX9_pairs 23 = .ok (.if_icmp .le 7, 3) := by decide +kernel
theorem dX9_pairs_26 : decode cX9_pairs 26 = .ok (.iconst 1, 1) := by decide +kernel
theorem dX9_pairs_27 : decode cX9_pairs 27 = .ok (.goto 4, 3) := by decide +kernel
theorem dX9_pairs_30 : decode cX9_pairs 30 = .ok (.iconst 0, 1) := by decide +kernel
theorem dX9_pairs_31 : decode cX9_pairs 31 = .ok (.iadd, 1) := by decide +kernel
theorem dX9_pairs_32 : decode cX9_pairs 32 = .ok (.istore_n 1, 1) := by decide +kernel
theorem dX9_pairs_33 : decode cX9_pairs 33 = .ok (.iinc 2 1, 3) := by decide +kernel
theorem dX9_pairs_36 : decode cX9_pairs 36 = .ok (.goto (-32), 3) := by decide +kernel
theorem dX9_pairs_39 : decode cX9_pairs 39 = .ok (.iload_n 1, 1) := by decide +kernel
theorem dX9_pairs_40 : decode cX9_pairs 40 = .ok (.ireturn, 1) := by decide +kernel
theorem dX9_keepMates_0 : decode cX9_keepMates 0 = .ok (.iconst 0, 1) := by decide +kernel
theorem dX9_keepMates_1 : decode cX9_keepMates 1 = .ok (.istore_n 1, 1) := by decide +kernel
theorem dX9_keepMates_2 : decode cX9_keepMates 2 = .ok (.iload_n 1, 1) := by decide +kernel
theorem dX9_keepMates_3 : decode cX9_keepMates 3 = .ok (.aload_n 0, 1) := by decide +kernel
theorem dX9_keepMates_4 : decode cX9_keepMates 4 = .ok (.getfield 7, 3) := by decide +kernel
theorem dX9_keepMates_7 : decode cX9_keepMates 7 = .ok (.bipush 27, 2) := by decide +kernel
theorem dX9_keepMates_9 : decode cX9_keepMates 9 = .ok (.iaload, 1) := by decide +kernel
theorem dX9_keepMates_10 : decode cX9_keepMates 10 = .ok (.if_icmp .ge 16, 3) := by decide +kernel
theorem dX9_keepMates_13 : decode cX9_keepMates 13 = .ok (.aload_n 0, 1) := by decide +kernel
theorem dX9_keepMates_14 : decode cX9_keepMates 14 = .ok (.getfield 39, 3) := by decide +kernel
theorem dX9_keepMates_17 : decode cX9_keepMates 17 = .ok (.iload_n 1, 1) := by decide +kernel
theorem dX9_keepMates_18 : decode cX9_keepMates 18 = .ok (.iconst (-1), 1) := by decide +kernel
theorem dX9_keepMates_19 : decode cX9_keepMates 19 = .ok (.iastore, 1) := by decide +kernel
theorem dX9_keepMates_20 : decode cX9_keepMates 20 = .ok (.iinc 1 1, 3) := by decide +kernel
theorem dX9_keepMates_23 : decode cX9_keepMates 23 = .ok (.goto (-21), 3) := by decide +kernel
theorem dX9_keepMates_26 : decode cX9_keepMates 26 = .ok (.iconst 0, 1) := by decide +kernel
theorem dX9_keepMates_27 : decode cX9_keepMates 27 = .ok (.istore_n 1, 1) := by decide +kernel
theorem dX9_keepMates_28 : decode cX9_keepMates 28 = .ok (.iload_n 1, 1) := by decide +kernel
theorem dX9_keepMates_29 : decode cX9_keepMates 29 = .ok (.aload_n 0, 1) := by decide +kernel
theorem dX9_keepMates_30 : decode cX9_keepMates 30 = .ok (.getfield 7, 3) := by decide +kernel
theorem dX9_keepMates_33 : decode cX9_keepMates 33 = .ok (.bipush 27, 2) := by decide +kernel
theorem dX9_keepMates_35 : decode cX9_keepMates 35 = .ok (.iaload, 1) := by decide +kernel
theorem dX9_keepMates_36 : decode cX9_keepMates 36 = .ok (.if_icmp .ge 43, 3) := by decide +kernel
theorem dX9_keepMates_39 : decode cX9_keepMates 39 = .ok (.aload_n 0, 1) := by decide +kernel
theorem dX9_keepMates_40 : decode cX9_keepMates 40 = .ok (.getfield 36, 3) := by decide +kernel
theorem dX9_keepMates_43 : decode cX9_keepMates 43 = .ok (.iload_n 1, 1) := by decide +kernel
theorem dX9_keepMates_44 : decode cX9_keepMates 44 = .ok (.iaload, 1) := by decide +kernel
theorem dX9_keepMates_45 : decode cX9_keepMates 45 = .ok (.iload_n 1, 1) := by decide +kernel
theorem dX9_keepMates_46 : decode cX9_keepMates 46 = .ok (.if_icmp .le 27, 3) := by decide +kernel
theorem dX9_keepMates_49 : decode cX9_keepMates 49 = .ok (.aload_n 0, 1) := by decide +kernel
theorem dX9_keepMates_50 : decode cX9_keepMates 50 = .ok (.getfield 39, 3) := by decide +kernel
theorem dX9_keepMates_53 : decode cX9_keepMates 53 = .ok (.iload_n 1, 1) := by decide +kernel
theorem dX9_keepMates_54 : decode cX9_keepMates 54 = .ok (.aload_n 0, 1) := by decide +kernel
theorem dX9_keepMates_55 : decode cX9_keepMates 55 = .ok (.getfield 36, 3) := by decide +kernel
theorem dX9_keepMates_58 : decode cX9_keepMates 58 = .ok (.iload_n 1, 1) := by decide +kernel
theorem dX9_keepMates_59 : decode cX9_keepMates 59 = .ok (.iaload, 1) := by decide +kernel
theorem dX9_keepMates_60 : decode cX9_keepMates 60 = .ok (.iastore, 1) := by decide +kernel
theorem dX9_keepMates_61 : decode cX9_keepMates 61 = .ok (.aload_n 0, 1) := by decide +kernel
theorem dX9_keepMates_62 : decode cX9_keepMates 62 = .ok (.getfield 39, 3) := by decide +kernel
theorem dX9_keepMates_65 : decode cX9_keepMates 65 = .ok (.aload_n 0, 1) := by decide +kernel
theorem dX9_keepMates_66 : decode cX9_keepMates 66 = .ok (.getfield 36, 3) := by decide +kernel
theorem dX9_keepMates_69 : decode cX9_keepMates 69 = .ok (.iload_n 1, 1) := by decide +kernel
theorem dX9_keepMates_70 : decode cX9_keepMates 70 = .ok (.iaload, 1) := by decide +kernel
theorem dX9_keepMates_71 : decode cX9_keepMates 71 = .ok (.iload_n 1, 1) := by decide +kernel
theorem dX9_keepMates_72 : decode cX9_keepMates 72 = .ok (.iastore, 1) := by decide +kernel
theorem dX9_keepMates_73 : decode cX9_keepMates 73 = .ok (.iinc 1 1, 3) := by decide +kernel
theorem dX9_keepMates_76 : decode cX9_keepMates 76 = .ok (.goto (-48), 3) := by decide +kernel
theorem dX9_keepMates_79 : decode cX9_keepMates 79 = .ok (.return_, 1) := by decide +kernel
set_option maxRecDepth 20000 in
theorem ggX9_nextMate_X9_isTaken : GoodIn wsX9_nextMate wsX9_isTaken := goodIn_r _ [7, 1, 15, 16, 17, 18, 19, 20, 21, 22, 23, 24, 25, 26, 27, 28, 29, 30, 31, 32] (by decide +kernel) (by decide +kernel)
set_option maxRecDepth 20000 in
theorem gX9_nextMate_X9_isTaken : GoodIn wsX9_nextMate (wsV RX9 200 RX9 yX9_isTaken wsX9_isTaken) := goodIn_app (goodIn_of _ (by decide +kernel)) ggX9_nextMate_X9_isTaken
set_option maxRecDepth 20000 in
theorem ggX9_nextMate_X9_mayMarry : GoodIn wsX9_nextMate wsX9_mayMarry := goodIn_r _ [11, 2, 1, 12, 13, 6, 14, 15, 16, 17, 18, 19, 20, 21, 22, 23, 24, 25, 26, 27, 28, 29, 30, 31, 32] (by decide +kernel) (by decide +kernel)
set_option maxRecDepth 20000 in
theorem gX9_nextMate_X9_mayMarry : GoodIn wsX9_nextMate (wsV RX9 203 RX9 yX9_mayMarry wsX9_mayMarry) := goodIn_app (goodIn_of _ (by decide +kernel)) ggX9_nextMate_X9_mayMarry
theorem dX9_nextMate_0 : decode cX9_nextMate 0 = .ok (.aload_n 0, 1) := by decide +kernel
theorem dX9_nextMate_1 : decode cX9_nextMate 1 = .ok (.iload_n 1, 1) := by decide +kernel
theorem dX9_nextMate_2 : decode cX9_nextMate 2 = .ok (.invokevirtual 200, 3) := by decide +kernel
theorem dX9_nextMate_5 : decode cX9_nextMate 5 = .ok (.ifCond .eq 5, 3) := by decide +kernel
theorem dX9_nextMate_8 : decode cX9_nextMate 8 = .ok (.iload_n 1, 1) := by decide +kernel
theorem dX9_nextMate_9 : decode cX9_nextMate 9 = .ok (.ireturn, 1) := by decide +kernel
theorem dX9_nextMate_10 : decode cX9_nextMate 10 = .ok (.aload_n 0, 1) := by decide +kernel
theorem dX9_nextMate_11 : decode cX9_nextMate 11 = .ok (.getfield 36, 3) := by decide +kernel
theorem dX9_nextMate_14 : decode cX9_nextMate 14 = .ok (.iload_n 1, 1) := by decide +kernel
theorem dX9_nextMate_15 : decode cX9_nextMate 15 = .ok (.iaload, 1) := by decide +kernel
theorem dX9_nextMate_16 : decode cX9_nextMate 16 = .ok (.iconst (-1), 1) := by decide +kernel
theorem dX9_nextMate_17 : decode cX9_nextMate 17 = .ok (.if_icmp .ne 9, 3) := by decide +kernel
theorem dX9_nextMate_20 : decode cX9_nextMate 20 = .ok (.iload_n 1, 1) := by decide +kernel
theorem dX9_nextMate_21 : decode cX9_nextMate 21 = .ok (.iconst 1, 1) := by decide +kernel
theorem dX9_nextMate_22 : decode cX9_nextMate 22 = .ok (.iadd, 1) := by decide +kernel
theorem dX9_nextMate_23 : decode cX9_nextMate 23 = .ok (.goto 11, 3) := by decide +kernel
theorem dX9_nextMate_26 : decode cX9_nextMate 26 = .ok (.aload_n 0, 1) := by decide +kernel
theorem dX9_nextMate_27 : decode cX9_nextMate 27 = .ok (.getfield 36, 3) := by decide +kernel
theorem dX9_nextMate_30 : decode cX9_nextMate 30 = .ok (.iload_n 1, 1) := by decide +kernel
theorem dX9_nextMate_31 : decode cX9_nextMate 31 = .ok (.iaload, 1) := by decide +kernel
theorem dX9_nextMate_32 : decode cX9_nextMate 32 = .ok (.iconst 1, 1) := by decide +kernel
theorem dX9_nextMate_33 : decode cX9_nextMate 33 = .ok (.iadd, 1) := by decide +kernel
theorem dX9_nextMate_34 : decode cX9_nextMate 34 = .ok (.istore_n 2, 1) := by decide +kernel
theorem dX9_nextMate_35 : decode cX9_nextMate 35 = .ok (.iload_n 2, 1) := by decide +kernel
theorem dX9_nextMate_36 : decode cX9_nextMate 36 = .ok (.aload_n 0, 1) := by decide +kernel
theorem dX9_nextMate_37 : decode cX9_nextMate 37 = .ok (.getfield 7, 3) := by decide +kernel
theorem dX9_nextMate_40 : decode cX9_nextMate 40 = .ok (.bipush 27, 2) := by decide +kernel
theorem dX9_nextMate_42 : decode cX9_nextMate 42 = .ok (.iaload, 1) := by decide +kernel
theorem dX9_nextMate_43 : decode cX9_nextMate 43 = .ok (.if_icmp .ge 20, 3) := by decide +kernel
theorem dX9_nextMate_46 : decode cX9_nextMate 46 = .ok (.aload_n 0, 1) := by decide +kernel
theorem dX9_nextMate_47 : decode cX9_nextMate 47 = .ok (.iload_n 1, 1) := by decide +kernel
theorem dX9_nextMate_48 : decode cX9_nextMate 48 = .ok (.iload_n 2, 1) := by decide +kernel
theorem dX9_nextMate_49 : decode cX9_nextMate 49 = .ok (.invokevirtual 203, 3) := by decide +kernel
theorem dX9_nextMate_52 : decode cX9_nextMate 52 = .ok (.ifCond .eq 5, 3) := by decide +kernel
theorem dX9_nextMate_55 : decode cX9_nextMate 55 = .ok (.iload_n 2, 1) := by decide +kernel
theorem dX9_nextMate_56 : decode cX9_nextMate 56 = .ok (.ireturn, 1) := by decide +kernel
theorem dX9_nextMate_57 : decode cX9_nextMate 57 = .ok (.iinc 2 1, 3) := by decide +kernel
theorem dX9_nextMate_60 : decode cX9_nextMate 60 = .ok (.goto (-25), 3) := by decide +kernel
theorem dX9_nextMate_63 : decode cX9_nextMate 63 = .ok (.iload_n 1, 1) := by decide +kernel
theorem dX9_nextMate_64 : decode cX9_nextMate 64 = .ok (.ireturn, 1) := by decide +kernel
set_option maxRecDepth 20000 in
theorem ggX9_mostPairs_X9_pairs : GoodIn wsX9_mostPairs wsX9_pairs := goodIn_r _ [7, 1, 2, 28, 29, 30, 31, 32, 33, 34, 35, 36, 37, 38, 39, 40, 41, 42, 43, 44, 45] (by decide +kernel) (by decide +kernel)
set_option maxRecDepth 20000 in
theorem gX9_mostPairs_X9_pairs : GoodIn wsX9_mostPairs (wsV RX9 206 RX9 yX9_pairs wsX9_pairs) := goodIn_app (goodIn_of _ (by decide +kernel)) ggX9_mostPairs_X9_pairs
set_option maxRecDepth 20000 in
theorem ggX9_mostPairs_X9_keepMates : GoodIn wsX9_mostPairs wsX9_keepMates := goodIn_r _ [11, 1, 12, 2, 28, 29, 30, 31, 32, 33, 34, 35, 36, 37, 38, 39, 40, 41, 42, 43, 44, 45] (by decide +kernel) (by decide +kernel)
set_option maxRecDepth 20000 in
theorem gX9_mostPairs_X9_keepMates : GoodIn wsX9_mostPairs (wsV RX9 209 RX9 yX9_keepMates wsX9_keepMates) := goodIn_app (goodIn_of _ (by decide +kernel)) ggX9_mostPairs_X9_keepMates
set_option maxRecDepth 20000 in
theorem ggX9_mostPairs_X9_nextMate : GoodIn wsX9_mostPairs wsX9_nextMate := goodIn_r _ [16, 2, 1, 17, 18, 19, 6, 20, 21, 22, 23, 24, 25, 26, 27, 28, 29, 30, 31, 32, 33, 34, 35, 36, 37, 38, 39, 40, 41, 42, 43, 44, 45] (by decide +kernel) (by decide +kernel)
set_option maxRecDepth 20000 in
theorem gX9_mostPairs_X9_nextMate : GoodIn wsX9_mostPairs (wsV RX9 212 RX9 yX9_nextMate wsX9_nextMate) := goodIn_app (goodIn_of _ (by decide +kernel)) ggX9_mostPairs_X9_nextMate
theorem dX9_mostPairs_0 : decode cX9_mostPairs 0 = .ok (.aload_n 0, 1) := by decide +kernel
theorem dX9_mostPairs_1 : decode cX9_mostPairs 1 = .ok (.getfield 7, 3) := by decide +kernel
theorem dX9_mostPairs_4 : decode cX9_mostPairs 4 = .ok (.bipush 27, 2) := by decide +kernel
theorem dX9_mostPairs_6 : decode cX9_mostPairs 6 = .ok (.iaload, 1) := by decide +kernel
theorem dX9_mostPairs_7 : decode cX9_mostPairs 7 = .ok (.istore_n 1, 1) := by decide +kernel
theorem dX9_mostPairs_8 : decode cX9_mostPairs 8 = .ok (.iconst (-1), 1) := by decide +kernel
theorem dX9_mostPairs_9 : decode cX9_mostPairs 9 = .ok (.istore_n 2, 1) := by decide +kernel
theorem dX9_mostPairs_10 : decode cX9_mostPairs 10 = .ok (.iconst 0, 1) := by decide +kernel
theorem dX9_mostPairs_11 : decode cX9_mostPairs 11 = .ok (.istore_n 3, 1) := by decide +kernel
theorem dX9_mostPairs_12 : decode cX9_mostPairs 12 = .ok (.iload_n 3, 1) := by decide +kernel
theorem dX9_mostPairs_13 : decode cX9_mostPairs 13 = .ok (.iload_n 1, 1) := by decide +kernel
theorem dX9_mostPairs_14 : decode cX9_mostPairs 14 = .ok (.if_icmp .ge 16, 3) := by decide +kernel
theorem dX9_mostPairs_17 : decode cX9_mostPairs 17 = .ok (.aload_n 0, 1) := by decide +kernel
theorem dX9_mostPairs_18 : decode cX9_mostPairs 18 = .ok (.getfield 36, 3) := by decide +kernel
theorem dX9_mostPairs_21 : decode cX9_mostPairs 21 = .ok (.iload_n 3, 1) := by decide +kernel
theorem dX9_mostPairs_22 : decode cX9_mostPairs 22 = .ok (.iconst (-1), 1) := by decide +kernel
theorem dX9_mostPairs_23 : decode cX9_mostPairs 23 = .ok (.iastore, 1) := by decide +kernel
theorem dX9_mostPairs_24 : decode cX9_mostPairs 24 = .ok (.iinc 3 1, 3) := by decide +kernel
theorem dX9_mostPairs_27 : decode cX9_mostPairs 27 = .ok (.goto (-15), 3) := by decide +kernel
theorem dX9_mostPairs_30 : decode cX9_mostPairs 30 = .ok (.iconst 1, 1) := by decide +kernel
theorem dX9_mostPairs_31 : decode cX9_mostPairs 31 = .ok (.istore_n 3, 1) := by decide +kernel
theorem dX9_mostPairs_32 : decode cX9_mostPairs 32 = .ok (.iload_n 3, 1) := by decide +kernel
theorem dX9_mostPairs_33 : decode cX9_mostPairs 33 = .ok (.ifCond .eq 86, 3) := by decide +kernel
theorem dX9_mostPairs_36 : decode cX9_mostPairs 36 = .ok (.aload_n 0, 1) := by decide +kernel
theorem dX9_mostPairs_37 : decode cX9_mostPairs 37 = .ok (.invokevirtual 206, 3) := by decide +kernel
theorem dX9_mostPairs_40 : decode cX9_mostPairs 40 = .ok (.iload_n 2, 1) := by decide +kernel
theorem dX9_mostPairs_41 : decode cX9_mostPairs 41 = .ok (.if_icmp .le 12, 3) := by decide +kernel
theorem dX9_mostPairs_44 : decode cX9_mostPairs 44 = .ok (.aload_n 0, 1) := by decide +kernel
theorem dX9_mostPairs_45 : decode cX9_mostPairs 45 = .ok (.invokevirtual 206, 3) := by decide +kernel
theorem dX9_mostPairs_48 : decode cX9_mostPairs 48 = .ok (.istore_n 2, 1) := by decide +kernel
theorem dX9_mostPairs_49 : decode cX9_mostPairs 49 = .ok (.aload_n 0, 1) := by decide +kernel
theorem dX9_mostPairs_50 : decode cX9_mostPairs 50 = .ok (.invokevirtual 209, 3) := by decide +kernel
theorem dX9_mostPairs_53 : decode cX9_mostPairs 53 = .ok (.iload_n 1, 1) := by decide +kernel
theorem dX9_mostPairs_54 : decode cX9_mostPairs 54 = .ok (.iconst 1, 1) := by decide +kernel
theorem dX9_mostPairs_55 : decode cX9_mostPairs 55 = .ok (.isub, 1) := by decide +kernel

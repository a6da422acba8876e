set_option maxRecDepth 20000 in
theorem ggX8_note_X8_isFlitch : GoodIn wsX8_note wsX8_isFlitch := goodIn_r _ [7, 1, 8, 9, 10, 6, 11, 44, 45, 46, 47, 48, 49, 50, 51, 52, 53, 54, 55, 56, 57, 58, 59, 60, 61, 62, 63, 64, 65, 66, 67, 68, 69, 70, 71, 72, 73] (by decide +kernel) (by decide +kernel)
set_option maxRecDepth 20000 in
theorem gX8_note_X8_isFlitch : GoodIn wsX8_note (wsV RX8 149 RX8 yX8_isFlitch wsX8_isFlitch) := goodIn_app (goodIn_of _ (by decide +kernel)) ggX8_note_X8_isFlitch
set_option maxRecDepth 20000 in
theorem ggX8_note_X8_within : GoodIn wsX8_note wsX8_within := goodIn_r _ [11] (by decide +kernel) (by decide +kernel)
set_option maxRecDepth 20000 in
theorem gX8_note_X8_within : GoodIn wsX8_note (va_wsS RX8 78 yX8_within wsX8_within) := goodIn_app (goodIn_of _ (by decide +kernel)) ggX8_note_X8_within
set_option maxRecDepth 20000 in
theorem ggX8_note_X8_bad : GoodIn wsX8_note wsX8_bad := goodIn_r _ [15, 16, 44, 45, 46, 47, 48, 49, 50, 51, 52, 53, 54, 55, 56, 57, 58] (by decide +kernel) (by decide +kernel)
set_option maxRecDepth 20000 in
theorem gX8_note_X8_bad : GoodIn wsX8_note (wsV RX8 86 RX8 yX8_bad wsX8_bad) := goodIn_app (goodIn_of _ (by decide +kernel)) ggX8_note_X8_bad
set_option maxRecDepth 20000 in
theorem ggX8_note_X8_entered : GoodIn wsX8_note wsX8_entered := goodIn_r _ [20, 21, 22, 23, 24, 25, 26, 27, 28, 29, 30, 31, 6, 32, 33, 34, 35, 36, 37, 38, 39, 40, 41, 42, 43, 74, 75, 76, 77, 44, 45, 46, 47, 48, 49, 50, 51, 52, 53, 54, 55, 56, 57, 58] (by decide +kernel) (by decide +kernel)
set_option maxRecDepth 20000 in
theorem gX8_note_X8_entered : GoodIn wsX8_note (wsV RX8 227 RX8 yX8_entered wsX8_entered) := goodIn_app (goodIn_of _ (by decide +kernel)) ggX8_note_X8_entered
theorem dX8_note_0 : decode cX8_note 0 = .ok (.aload_n 0, 1) := by decide +kernel
theorem dX8_note_1 : decode cX8_note 1 = .ok (.iload_n 1, 1) := by decide +kernel
theorem dX8_note_2 : decode cX8_note 2 = .ok (.invokevirtual 149, 3) := by decide +kernel
theorem dX8_note_5 : decode cX8_note 5 = .ok (.ifCond .eq 45, 3) := by decide +kernel
theorem dX8_note_8 : decode cX8_note 8 = .ok (.iload_n 2, 1) := by decide +kernel
theorem dX8_note_9 : decode cX8_note 9 = .ok (.iconst 1, 1) := by decide +kernel
theorem dX8_note_10 : decode cX8_note 10 = .ok (.bipush 20, 2) := by decide +kernel
theorem dX8_note_12 : decode cX8_note 12 = .ok (.invokestatic 78, 3) := by decide +kernel
theorem dX8_note_15 : decode cX8_note 15 = .ok (.ifCond .eq 35, 3) := by decide +kernel
theorem dX8_note_18 : decode cX8_note 18 = .ok (.iload_n 3, 1) := by decide +kernel
theorem dX8_note_19 : decode cX8_note 19 = .ok (.iconst 0, 1) := by decide +kernel
theorem dX8_note_20 : decode cX8_note 20 = .ok (.bipush 8, 2) := by decide +kernel
theorem dX8_note_22 : decode cX8_note 22 = .ok (.invokestatic 78, 3) := by decide +kernel
theorem dX8_note_25 : decode cX8_note 25 = .ok (.ifCond .eq 25, 3) := by decide +kernel
theorem dX8_note_28 : decode cX8_note 28 = .ok (.iload 4, 2) := by decide +kernel
theorem dX8_note_30 : decode cX8_note 30 = .ok (.iconst 0, 1) := by decide +kernel
theorem dX8_note_31 : decode cX8_note 31 = .ok (.bipush 99, 2) := by decide +kernel
theorem dX8_note_33 : decode cX8_note 33 = .ok (.invokestatic 78, 3) := by decide +kernel
theorem dX8_note_36 : decode cX8_note 36 = .ok (.ifCond .eq 14, 3) := by decide +kernel
theorem dX8_note_39 : decode cX8_note 39 = .ok (.iload 5, 2) := by decide +kernel
theorem dX8_note_41 : decode cX8_note 41 = .ok (.iconst 0, 1) := by decide +kernel
theorem dX8_note_42 : decode cX8_note 42 = .ok (.bipush 60, 2) := by decide +kernel
theorem dX8_note_44 : decode cX8_note 44 = .ok (.invokestatic 78, 3) := by decide +kernel
theorem dX8_note_47 : decode cX8_note 47 = .ok (.ifCond .ne 8, 3) := by decide +kernel
theorem dX8_note_50 : decode cX8_note 50 = .ok (.aload_n 0, 1) := by decide +kernel
theorem dX8_note_51 : decode cX8_note 51 = .ok (.invokevirtual 86, 3) := by decide +kernel
theorem dX8_note_54 : decode cX8_note 54 = .ok (.ireturn, 1) := by decide +kernel
theorem dX8_note_55 : decode cX8_note 55 = .ok (.aload_n 0, 1) := by decide +kernel
theorem dX8_note_56 : decode cX8_note 56 = .ok (.aload_n 0, 1) := by decide +kernel
theorem dX8_note_57 : decode cX8_note 57 = .ok (.getfield 10, 3) := by decide +kernel
theorem dX8_note_60 : decode cX8_note 60 = .ok (.getfield 234, 3) := by decide +kernel
theorem dX8_note_63 : decode cX8_note 63 = .ok (.iload_n 1, 1) := by decide +kernel
theorem dX8_note_64 : decode cX8_note 64 = .ok (.iload_n 2, 1) := by decide +kernel
theorem dX8_note_65 : decode cX8_note 65 = .ok (.iload_n 3, 1) := by decide +kernel
theorem dX8_note_66 : decode cX8_note 66 = .ok (.iload 4, 2) := by decide +kernel
theorem dX8_note_68 : decode cX8_note 68 = .ok (.iload 5, 2) := by decide +kernel
theorem dX8_note_70 : decode cX8_note 70 = .ok (.invokevirtual 227, 3) := by decide +kernel
theorem dX8_note_73 : decode cX8_note 73 = .ok (.ireturn, 1) := by decide +kernel
set_option maxRecDepth 20000 in
theorem ggX8_mark_X8_isFamily : GoodIn wsX8_mark wsX8_isFamily := goodIn_r _ [7, 1, 8, 9, 10, 6, 11, 44, 45, 46, 47, 48, 49, 50, 51, 52, 53, 54, 55, 56, 57, 58, 59, 60, 61, 62, 63, 64, 65, 66, 67, 68, 69, 70, 71, 72, 73] (by decide +kernel) (by decide +kernel)
set_option maxRecDepth 20000 in
theorem gX8_mark_X8_isFamily : GoodIn wsX8_mark (wsV RX8 127 RX8 yX8_isFamily wsX8_isFamily) := goodIn_app (goodIn_of _ (by decide +kernel)) ggX8_mark_X8_isFamily
set_option maxRecDepth 20000 in
theorem ggX8_mark_X8_within : GoodIn wsX8_mark wsX8_within := goodIn_r _ [11] (by decide +kernel) (by decide +kernel)
set_option maxRecDepth 20000 in
theorem gX8_mark_X8_within : GoodIn wsX8_mark (va_wsS RX8 78 yX8_within wsX8_within) := goodIn_app (goodIn_of _ (by decide +kernel)) ggX8_mark_X8_within
set_option maxRecDepth 20000 in
theorem ggX8_mark_X8_bad : GoodIn wsX8_mark wsX8_bad := goodIn_r _ [15, 16, 44, 45, 46, 47, 48, 49, 50, 51, 52, 53, 54, 55, 56, 57, 58] (by decide +kernel) (by decide +kernel)
set_option maxRecDepth 20000 in
theorem gX8_mark_X8_bad : GoodIn wsX8_mark (wsV RX8 86 RX8 yX8_bad wsX8_bad) := goodIn_app (goodIn_of _ (by decide +kernel)) ggX8_mark_X8_bad
set_option maxRecDepth 20000 in
theorem ggX8_mark_X8_entered : GoodIn wsX8_mark wsX8_entered := goodIn_r _ [20, 21, 22, 23, 24, 25, 26, 27, 28, 29, 30, 31, 6, 32, 33, 34, 35, 36, 37, 38, 39, 40, 41, 42, 43, 74, 75, 76, 77, 44, 45, 46, 47, 48, 49, 50, 51, 52, 53, 54, 55, 56, 57, 58] (by decide +kernel) (by decide +kernel)
set_option maxRecDepth 20000 in
theorem gX8_mark_X8_entered : GoodIn wsX8_mark (wsV RX8 227 RX8 yX8_entered wsX8_entered) := goodIn_app (goodIn_of _ (by decide +kernel)) ggX8_mark_X8_entered
theorem dX8_mark_0 : decode cX8_mark 0 = .ok (.aload_n 0, 1) := by decide +kernel
theorem dX8_mark_1 : decode cX8_mark 1 = .ok (.iload_n 1, 1) := by decide +kernel
theorem dX8_mark_2 : decode cX8_mark 2 = .ok (.invokevirtual 127, 3) := by decide +kernel
theorem dX8_mark_5 : decode cX8_mark 5 = .ok (.ifCond .eq 34, 3) := by decide +kernel
theorem dX8_mark_8 : decode cX8_mark 8 = .ok (.iload_n 2, 1) := by decide +kernel
theorem dX8_mark_9 : decode cX8_mark 9 = .ok (.iconst 0, 1) := by decide +kernel
theorem dX8_mark_10 : decode cX8_mark 10 = .ok (.bipush 60, 2) := by decide +kernel
theorem dX8_mark_12 : decode cX8_mark 12 = .ok (.invokestatic 78, 3) := by decide +kernel
theorem dX8_mark_15 : decode cX8_mark 15 = .ok (.ifCond .eq 24, 3) := by decide +kernel
theorem dX8_mark_18 : decode cX8_mark 18 = .ok (.iload_n 3, 1) := by decide +kernel
theorem dX8_mark_19 : decode cX8_mark 19 = .ok (.iconst 0, 1) := by decide +kernel
theorem dX8_mark_20 : decode cX8_mark 20 = .ok (.bipush 99, 2) := by decide +kernel
theorem dX8_mark_22 : decode cX8_mark 22 = .ok (.invokestatic 78, 3) := by decide +kernel
theorem dX8_mark_25 : decode cX8_mark 25 = .ok (.ifCond .eq 14, 3) := by decide +kernel
theorem dX8_mark_28 : decode cX8_mark 28 = .ok (.iload 4, 2) := by decide +kernel
theorem dX8_mark_30 : decode cX8_mark 30 = .ok (.iconst 0, 1) := by decide +kernel
theorem dX8_mark_31 : decode cX8_mark 31 = .ok (.bipush 40, 2) := by decide +kernel
theorem dX8_mark_33 : decode cX8_mark 33 = .ok (.invokestatic 78, 3) := by decide +kernel
theorem dX8_mark_36 : decode cX8_mark 36 = .ok (.ifCond .ne 8, 3) := by decide +kernel
theorem dX8_mark_39 : decode cX8_mark 39 = .ok (.aload_n 0, 1) := by decide +kernel
theorem dX8_mark_40 : decode cX8_mark 40 = .ok (.invokevirtual 86, 3) := by decide +kernel
theorem dX8_mark_43 : decode cX8_mark 43 = .ok (.ireturn, 1) := by decide +kernel
theorem dX8_mark_44 : decode cX8_mark 44 = .ok (.aload_n 0, 1) := by decide +kernel
theorem dX8_mark_45 : decode cX8_mark 45 = .ok (.aload_n 0, 1) := by decide +kernel
theorem dX8_mark_46 : decode cX8_mark 46 = .ok (.getfield 10, 3) := by decide +kernel
theorem dX8_mark_49 : decode cX8_mark 49 = .ok (.getfield 237, 3) := by decide +kernel
theorem dX8_mark_52 : decode cX8_mark 52 = .ok (.iload_n 1, 1) := by decide +kernel
theorem dX8_mark_53 : decode cX8_mark 53 = .ok (.iload_n 2, 1) := by decide +kernel
theorem dX8_mark_54 : decode cX8_mark 54 = .ok (.iload_n 3, 1) := by decide +kernel
theorem dX8_mark_55 : decode cX8_mark 55 = .ok (.iload 4, 2) := by decide +kernel
theorem dX8_mark_57 : decode cX8_mark 57 = .ok (.iconst 0, 1) := by decide +kernel
theorem dX8_mark_58 : decode cX8_mark 58 = .ok (.invokevirtual 227, 3) := by decide +kernel
theorem dX8_mark_61 : decode cX8_mark 61 = .ok (.ireturn, 1) := by decide +kernel
set_option maxRecDepth 20000 in
theorem ggX8_forget_X8_within : GoodIn wsX8_forget wsX8_within := goodIn_r _ [9] (by decide +kernel) (by decide +kernel)
set_option maxRecDepth 20000 in
theorem gX8_forget_X8_within : GoodIn wsX8_forget (va_wsS RX8 78 yX8_within wsX8_within) := goodIn_app (goodIn_of _ (by decide +kernel)) ggX8_forget_X8_within
set_option maxRecDepth 20000 in
theorem ggX8_forget_X8_bad : GoodIn wsX8_forget wsX8_bad := goodIn_r _ [13, 14, 15, 16, 17, 18, 19, 20, 21, 22, 23, 24, 25, 26, 27, 28, 29] (by decide +kernel) (by decide +kernel)
set_option maxRecDepth 20000 in
theorem gX8_forget_X8_bad : GoodIn wsX8_forget (wsV RX8 86 RX8 yX8_bad wsX8_bad) := goodIn_app (goodIn_of _ (by decide +kernel)) ggX8_forget_X8_bad
theorem dX8_forget_0 : decode cX8_forget 0 = .ok (.iload_n 1, 1) := by decide +kernel
theorem dX8_forget_1 : decode cX8_forget 1 = .ok (.iconst 0, 1) := by decide +kernel
theorem dX8_forget_2 : decode cX8_forget 2 = .ok (.iconst 2, 1) := by decide +kernel
theorem dX8_forget_3 : decode cX8_forget 3 = .ok (.invokestatic 78, 3) := by decide +kernel
theorem dX8_forget_6 : decode cX8_forget 6 = .ok (.ifCond .ne 8, 3) := by decide +kernel
theorem dX8_forget_9 : decode cX8_forget 9 = .ok (.aload_n 0, 1) := by decide +kernel
theorem dX8_forget_10 : decode cX8_forget 10 = .ok (.invokevirtual 86, 3) := by decide +kernel
theorem dX8_forget_13 : decode cX8_forget 13 = .ok (.ireturn, 1) := by decide +kernel
theorem dX8_forget_14 : decode cX8_forget 14 = .ok (.iload_n 1, 1) := by decide +kernel
theorem dX8_forget_15 : decode cX8_forget 15 = .ok (.ifCond .ne 13, 3) := by decide +kernel
theorem dX8_forget_18 : decode cX8_forget 18 = .ok (.aload_n 0, 1) := by decide +kernel
theorem dX8_forget_19 : decode cX8_forget 19 = .ok (.getfield 10, 3) := by decide +kernel
theorem dX8_forget_22 : decode cX8_forget 22 = .ok (.getfield 223, 3) := by decide +kernel
theorem dX8_forget_25 : decode cX8_forget 25 = .ok (.goto 25, 3) := by decide +kernel
theorem dX8_forget_28 : decode cX8_forget 28 = .ok (.iload_n 1, 1) := by decide +kernel
theorem dX8_forget_29 : decode cX8_forget 29 = .ok (.iconst 1, 1) := by decide +kernel
theorem dX8_forget_30 : decode cX8_forget 30 = .ok (.if_icmp .ne 13, 3) := by decide +kernel
theorem dX8_forget_33 : decode cX8_forget 33 = .ok (.aload_n 0, 1) := by decide +kernel
theorem dX8_forget_34 : decode cX8_forget 34 = .ok (.getfield 10, 3) := by decide +kernel
theorem dX8_forget_37 : decode cX8_forget 37 = .ok (.getfield 234, 3) := by decide +kernel
theorem dX8_forget_40 : decode cX8_forget 40 = .ok (.goto 10, 3) := by decide +kernel
theorem dX8_forget_43 : decode cX8_forget 43 = .ok (.aload_n 0, 1) := by decide +kernel
theorem dX8_forget_44 : decode cX8_forget 44 = .ok (.getfield 10, 3) := by decide +kernel
theorem dX8_forget_47 : decode cX8_forget 47 = .ok (.getfield 237, 3) := by decide +kernel
theorem dX8_forget_50 : decode cX8_forget 50 = .ok (.astore_n 2, 1) := by decide +kernel
theorem dX8_forget_51 : decode cX8_forget 51 = .ok (.aload_n 2, 1) := by decide +kernel
theorem dX8_forget_52 : decode cX8_forget 52 = .ok (.getfield 240, 3) := by decide +kernel
theorem dX8_forget_55 : decode cX8_forget 55 = .ok (.istore_n 3, 1) := by decide +kernel
theorem dX8_forget_56 : decode cX8_forget 56 = .ok (.aload_n 2, 1) := by decide +kernel
theorem dX8_forget_57 : decode cX8_forget 57 = .ok (.iconst 0, 1) := by decide +kernel
theorem dX8_forget_58 : decode cX8_forget 58 = .ok (.putfield 240, 3) := by decide +kernel
theorem dX8_forget_61 : decode cX8_forget 61 = .ok (.iload_n 3, 1) := by decide +kernel
theorem dX8_forget_62 : decode cX8_forget 62 = .ok (.ireturn, 1) := by decide +kernel
set_option maxRecDepth 20000 in
theorem ggX8_is_X8_isFlitch : GoodIn wsX8_is wsX8_isFlitch := goodIn_r _ [6, 7, 8, 9, 10, 5, 11, 40, 41, 42, 43, 44, 45, 46, 47, 48, 49, 50, 51, 52, 53, 54, 55, 56, 57, 58, 59, 60, 61, 62, 63, 64, 65, 66, 67, 68, 69] (by decide +kernel) (by decide +kernel)
set_option maxRecDepth 20000 in
theorem gX8_is_X8_isFlitch : GoodIn wsX8_is (wsV RX8 149 RX8 yX8_isFlitch wsX8_isFlitch) := goodIn_app (goodIn_of _ (by decide +kernel)) ggX8_is_X8_isFlitch
set_option maxRecDepth 20000 in
theorem ggX8_is_X2_flitchKinds : GoodIn wsX8_is wsX2_flitchKinds := goodIn_r _ [16, 17, 18, 19, 15, 20, 21, 22, 23, 24, 25, 26, 27, 28, 29, 30, 31, 32, 33, 34, 70, 71, 55, 56, 57, 58, 59, 60, 61, 62, 63, 64, 65, 66, 67, 68, 69, 72, 73, 74, 75] (by decide +kernel) (by decide +kernel)
set_option maxRecDepth 20000 in
theorem gX8_is_X2_flitchKinds : GoodIn wsX8_is (wsV RX8 245 RX2 yX2_flitchKinds wsX2_flitchKinds) := goodIn_app (goodIn_of _ (by decide +kernel)) ggX8_is_X2_flitchKinds
set_option maxRecDepth 20000 in
theorem ggX8_is_X8_bad : GoodIn wsX8_is wsX8_bad := goodIn_r _ [38, 39, 40, 41, 42, 43, 44, 45, 46, 47, 48, 49, 50, 51, 52, 53, 54] (by decide +kernel) (by decide +kernel)
set_option maxRecDepth 20000 in
theorem gX8_is_X8_bad : GoodIn wsX8_is (wsV RX8 86 RX8 yX8_bad wsX8_bad) := goodIn_app (goodIn_of _ (by decide +kernel)) ggX8_is_X8_bad
theorem dX8_is_0 : decode cX8_is 0 = .ok (.aload_n 0, 1) := by decide +kernel
theorem dX8_is_1 : decode cX8_is 1 = .ok (.iload_n 1, 1) := by decide +kernel
theorem dX8_is_2 : decode cX8_is 2 = .ok (.invokevirtual 149, 3) := by decide +kernel
theorem dX8_is_5 : decode cX8_is 5 = .ok (.ifCond .eq 14, 3) := by decide +kernel
theorem dX8_is_8 : decode cX8_is 8 = .ok (.aload_n 0, 1) := by decide +kernel
theorem dX8_is_9 : decode cX8_is 9 = .ok (.getfield 54, 3) := by decide +kernel
theorem dX8_is_12 : decode cX8_is 12 = .ok (.iload_n 1, 1) := by decide +kernel
theorem dX8_is_13 : decode cX8_is 13 = .ok (.invokevirtual 245, 3) := by decide +kernel
theorem dX8_is_16 : decode cX8_is 16 = .ok (.goto 7, 3) := by decide +kernel
theorem dX8_is_19 : decode cX8_is 19 = .ok (.aload_n 0, 1) := by decide +kernel
theorem dX8_is_20 : decode cX8_is 20 = .ok (.invokevirtual 86, 3) := by decide +kernel
theorem dX8_is_23 : decode cX8_is 23 = .ok (.ireturn, 1) := by decide +kernel
set_option maxRecDepth 20000 in
theorem ggX8_look_X8_isFlitch : GoodIn wsX8_look wsX8_isFlitch := goodIn_r _ [6, 7, 8, 9, 10, 5, 11, 54, 55, 56, 57, 58, 59, 60, 61, 62, 63, 64, 65, 66, 67, 68, 69, 70, 71, 72, 73, 74, 75, 76, 77, 78, 79, 80, 81, 82, 83] (by decide +kernel) (by decide +kernel)
set_option maxRecDepth 20000 in
theorem gX8_look_X8_isFlitch : GoodIn wsX8_look (wsV RX8 149 RX8 yX8_isFlitch wsX8_isFlitch) := goodIn_app (goodIn_of _ (by decide +kernel)) ggX8_look_X8_isFlitch
set_option maxRecDepth 20000 in
theorem ggX8_look_X2_nextLook : GoodIn wsX8_look wsX2_nextLook := goodIn_r _ [16, 17, 18, 19, 20, 21, 22, 15, 23, 24, 25, 26, 27, 28, 29, 30, 31, 32, 33, 34, 35, 36, 37, 38, 39, 40, 41, 42, 43, 44, 45, 46, 47, 48, 84, 85, 69, 70, 71, 72, 73, 74, 75, 76, 77, 78, 79, 80, 81, 82, 83, 86, 87, 88, 89] (by decide +kernel) (by decide +kernel)
set_option maxRecDepth 20000 in
theorem gX8_look_X2_nextLook : GoodIn wsX8_look (wsV RX8 248 RX2 yX2_nextLook wsX2_nextLook) := goodIn_app (goodIn_of _ (by decide +kernel)) ggX8_look_X2_nextLook
set_option maxRecDepth 20000 in
theorem ggX8_look_X8_bad : GoodIn wsX8_look wsX8_bad := goodIn_r _ [52, 53, 54, 55, 56, 57, 58, 59, 60, 61, 62, 63, 64, 65, 66, 67, 68] (by decide +kernel) (by decide +kernel)
set_option maxRecDepth 20000 in
theorem gX8_look_X8_bad : GoodIn wsX8_look (wsV RX8 86 RX8 yX8_bad wsX8_bad) := goodIn_app (goodIn_of _ (by decide +kernel)) ggX8_look_X8_bad
theorem dX8_look_0 : decode cX8_look 0 = .ok (.aload_n 0, 1) := by decide +kernel
theorem dX8_look_1 : decode cX8_look 1 = .ok (.iload_n 1, 1) := by decide +kernel
theorem dX8_look_2 : decode cX8_look 2 = .ok (.invokevirtual 149, 3) := by decide +kernel
theorem dX8_look_5 : decode cX8_look 5 = .ok (.ifCond .eq 14, 3) := by decide +kernel
theorem dX8_look_8 : decode cX8_look 8 = .ok (.aload_n 0, 1) := by decide +kernel
theorem dX8_look_9 : decode cX8_look 9 = .ok (.getfield 54, 3) := by decide +kernel
theorem dX8_look_12 : decode cX8_look 12 = .ok (.iload_n 1, 1) := by decide +kernel
theorem dX8_look_13 : decode cX8_look 13 = .ok (.invokevirtual 248, 3) := by decide +kernel
theorem dX8_look_16 : decode cX8_look 16 = .ok (.goto 7, 3) := by decide +kernel
theorem dX8_look_19 : decode cX8_look 19 = .ok (.aload_n 0, 1) := by decide +kernel
theorem dX8_look_20 : decode cX8_look 20 = .ok (.invokevirtual 86, 3) := by decide +kernel
theorem dX8_look_23 : decode cX8_look 23 = .ok (.ireturn, 1) := by decide +kernel
set_option maxRecDepth 20000 in
theorem ggX8_kinds_X8_isFamily : GoodIn wsX8_kinds wsX8_isFamily := goodIn_r _ [6, 7, 8, 9, 10, 5, 11, 47, 48, 49, 50, 51, 52, 53, 54, 55, 56, 57, 58, 59, 60, 61, 62, 63, 64, 65, 66, 67, 68, 69, 70, 71, 72, 73, 74, 75, 76] (by decide +kernel) (by decide +kernel)
set_option maxRecDepth 20000 in
theorem gX8_kinds_X8_isFamily : GoodIn wsX8_kinds (wsV RX8 127 RX8 yX8_isFamily wsX8_isFamily) := goodIn_app (goodIn_of _ (by decide +kernel)) ggX8_kinds_X8_isFamily
set_option maxRecDepth 20000 in
theorem ggX8_kinds_X2_familyKinds : GoodIn wsX8_kinds wsX2_familyKinds := goodIn_r _ [16, 17, 18, 19, 15, 20, 21, 22, 23, 24, 25, 26, 27, 28, 29, 30, 31, 32, 33, 34, 35, 36, 37, 38, 39, 40, 41, 77, 78, 62, 63, 64, 65, 66, 67, 68, 69, 70, 71, 72, 73, 74, 75, 76, 79, 80, 81, 82] (by decide +kernel) (by decide +kernel)
set_option maxRecDepth 20000 in
theorem gX8_kinds_X2_familyKinds : GoodIn wsX8_kinds (wsV RX8 251 RX2 yX2_familyKinds wsX2_familyKinds) := goodIn_app (goodIn_of _ (by decide +kernel)) ggX8_kinds_X2_familyKinds
set_option maxRecDepth 20000 in
theorem ggX8_kinds_X8_bad : GoodIn wsX8_kinds wsX8_bad := goodIn_r _ [45, 46, 47, 48, 49, 50, 51, 52, 53, 54, 55, 56, 57, 58, 59, 60, 61] (by decide +kernel) (by decide +kernel)
set_option maxRecDepth 20000 in
theorem gX8_kinds_X8_bad : GoodIn wsX8_kinds (wsV RX8 86 RX8 yX8_bad wsX8_bad) := goodIn_app (goodIn_of _ (by decide +kernel)) ggX8_kinds_X8_bad
theorem dX8_kinds_0 : decode cX8_kinds 0 = .ok (.aload_n 0, 1) := by decide +kernel
theorem dX8_kinds_1 : decode cX8_kinds 1 = .ok (.iload_n 1, 1) := by decide +kernel
theorem dX8_kinds_2 : decode cX8_kinds 2 = .ok (.invokevirtual 127, 3) := by decide +kernel
theorem dX8_kinds_5 : decode cX8_kinds 5 = .ok (.ifCond .eq 14, 3) := by decide +kernel
theorem dX8_kinds_8 : decode cX8_kinds 8 = .ok (.aload_n 0, 1) := by decide +kernel
theorem dX8_kinds_9 : decode cX8_kinds 9 = .ok (.getfield 54, 3) := by decide +kernel
theorem dX8_kinds_12 : decode cX8_kinds 12 = .ok (.iload_n 1, 1) := by decide +kernel
theorem dX8_kinds_13 : decode cX8_kinds 13 = .ok (.invokevirtual 251, 3) := by decide +kernel
theorem dX8_kinds_16 : decode cX8_kinds 16 = .ok (.goto 7, 3) := by decide +kernel
theorem dX8_kinds_19 : decode cX8_kinds 19 = .ok (.aload_n 0, 1) := by decide +kernel
theorem dX8_kinds_20 : decode cX8_kinds 20 = .ok (.invokevirtual 86, 3) := by decide +kernel
theorem dX8_kinds_23 : decode cX8_kinds 23 = .ok (.ireturn, 1) := by decide +kernel
set_option maxRecDepth 20000 in
theorem ggX8_ask_X8_isFamily : GoodIn wsX8_ask wsX8_isFamily := goodIn_r _ [6, 7, 8, 9, 10, 5, 11, 57, 58, 59, 60, 61, 62, 63, 64, 65, 66, 67, 68, 69, 70, 71, 72, 73, 74, 75, 76, 77, 78, 79, 80, 81, 82, 83, 84, 85, 86] (by decide +kernel) (by decide +kernel)
set_option maxRecDepth 20000 in
theorem gX8_ask_X8_isFamily : GoodIn wsX8_ask (wsV RX8 127 RX8 yX8_isFamily wsX8_isFamily) := goodIn_app (goodIn_of _ (by decide +kernel)) ggX8_ask_X8_isFamily
set_option maxRecDepth 20000 in
theorem ggX8_ask_X2_nextAsk : GoodIn wsX8_ask wsX2_nextAsk := goodIn_r _ [16, 17, 18, 19, 20, 15, 21, 22, 23, 24, 25, 26, 27, 28, 29, 30, 31, 32, 33, 34, 35, 36, 37, 38, 39, 40, 41, 42, 43, 44, 45, 46, 47, 48, 49, 50, 51, 87, 88, 72, 73, 74, 75, 76, 77, 78, 79, 80, 81, 82, 83, 84, 85, 86, 89, 90, 91, 92] (by decide +kernel) (by decide +kernel)
set_option maxRecDepth 20000 in
theorem gX8_ask_X2_nextAsk : GoodIn wsX8_ask (wsV RX8 254 RX2 yX2_nextAsk wsX2_nextAsk) := goodIn_app (goodIn_of _ (by decide +kernel)) ggX8_ask_X2_nextAsk
set_option maxRecDepth 20000 in
theorem ggX8_ask_X8_bad : GoodIn wsX8_ask wsX8_bad := goodIn_r _ [55, 56, 57, 58, 59, 60, 61, 62, 63, 64, 65, 66, 67, 68, 69, 70, 71] (by decide +kernel) (by decide +kernel)
set_option maxRecDepth 20000 in
theorem gX8_ask_X8_bad : GoodIn wsX8_ask (wsV RX8 86 RX8 yX8_bad wsX8_bad) := goodIn_app (goodIn_of _ (by decide +kernel)) ggX8_ask_X8_bad
theorem dX8_ask_0 : decode cX8_ask 0 = .ok (.aload_n 0, 1) := by decide +kernel
theorem dX8_ask_1 : decode cX8_ask 1 = .ok (.iload_n 1, 1) := by decide +kernel
theorem dX8_ask_2 : decode cX8_ask 2 = .ok (.invokevirtual 127, 3) := by decide +kernel
theorem dX8_ask_5 : decode cX8_ask 5 = .ok (.ifCond .eq 14, 3) := by decide +kernel
theorem dX8_ask_8 : decode cX8_ask 8 = .ok (.aload_n 0, 1) := by decide +kernel
theorem dX8_ask_9 : decode cX8_ask 9 = .ok (.getfield 54, 3) := by decide +kernel
theorem dX8_ask_12 : decode cX8_ask 12 = .ok (.iload_n 1, 1) := by decide +kernel
theorem dX8_ask_13 : decode cX8_ask 13 = .ok (.invokevirtual 254, 3) := by decide +kernel
theorem dX8_ask_16 : decode cX8_ask 16 = .ok (.goto 7, 3) := by decide +kernel
theorem dX8_ask_19 : decode cX8_ask 19 = .ok (.aload_n 0, 1) := by decide +kernel
theorem dX8_ask_20 : decode cX8_ask 20 = .ok (.invokevirtual 86, 3) := by decide +kernel
theorem dX8_ask_23 : decode cX8_ask 23 = .ok (.ireturn, 1) := by decide +kernel
set_option maxRecDepth 20000 in
theorem ggX8_brothers_X8_isFamily : GoodIn wsX8_brothers wsX8_isFamily := goodIn_r _ [8, 1, 9, 10, 11, 7, 12, 66, 67, 68, 69, 70, 71, 72, 73, 74, 75, 76, 77, 78, 79, 80, 81, 82, 83, 84, 85, 86, 87, 88, 89, 90, 91, 92, 93, 94, 95] (by decide +kernel) (by decide +kernel)
set_option maxRecDepth 20000 in
theorem gX8_brothers_X8_isFamily : GoodIn wsX8_brothers (wsV RX8 127 RX8 yX8_isFamily wsX8_isFamily) := goodIn_app (goodIn_of _ (by decide +kernel)) ggX8_brothers_X8_isFamily
set_option maxRecDepth 20000 in
theorem ggX8_brothers_X8_bad : GoodIn wsX8_brothers wsX8_bad := goodIn_r _ [16, 17, 66, 67, 68, 69, 70, 71, 72, 73, 74, 75, 76, 77, 78, 79, 80] (by decide +kernel) (by decide +kernel)
set_option maxRecDepth 20000 in
theorem gX8_brothers_X8_bad : GoodIn wsX8_brothers (wsV RX8 86 RX8 yX8_bad wsX8_bad) := goodIn_app (goodIn_of _ (by decide +kernel)) ggX8_brothers_X8_bad
set_option maxRecDepth 20000 in
theorem ggX8_brothers_X4_hasLapsed : GoodIn wsX8_brothers wsX4_hasLapsed := goodIn_r _ [22, 23, 81, 82, 83, 84, 85, 86, 87, 88, 89, 90, 91, 92, 93, 94, 95] (by decide +kernel) (by decide +kernel)
set_option maxRecDepth 20000 in
theorem gX8_brothers_X4_hasLapsed : GoodIn wsX8_brothers (wsV RX8 137 RX4 yX4_hasLapsed wsX4_hasLapsed) := goodIn_app (goodIn_of _ (by decide +kernel)) ggX8_brothers_X4_hasLapsed
set_option maxRecDepth 20000 in
theorem ggX8_brothers_X8_no : GoodIn wsX8_brothers wsX8_no := goodIn_r _ [27, 28, 66, 67, 68, 69, 70, 71, 72, 73, 74, 75, 76, 77, 78, 79, 80] (by decide +kernel) (by decide +kernel)
set_option maxRecDepth 20000 in
theorem gX8_brothers_X8_no : GoodIn wsX8_brothers (wsV RX8 134 RX8 yX8_no wsX8_no) := goodIn_app (goodIn_of _ (by decide +kernel)) ggX8_brothers_X8_no
set_option maxRecDepth 20000 in
theorem ggX8_brothers_X4_takenToday : GoodIn wsX8_brothers wsX4_takenToday := goodIn_r _ [32, 33, 34, 35, 36, 37, 19, 20, 21, 22, 23, 38, 39, 40, 41, 42, 43, 44, 45, 46, 47, 48, 49, 50, 51, 52, 53, 54, 55, 56, 57, 58, 59, 60, 61, 62, 81, 82, 83, 84, 85, 86, 87, 88, 89, 90, 91, 92, 93, 94, 95] (by decide +kernel) (by decide +kernel)
set_option maxRecDepth 20000 in
theorem gX8_brothers_X4_takenToday : GoodIn wsX8_brothers (wsV RX8 165 RX4 yX4_takenToday wsX4_takenToday) := goodIn_app (goodIn_of _ (by decide +kernel)) ggX8_brothers_X4_takenToday
set_option maxRecDepth 20000 in
theorem ggX8_brothers_X8_restingPairs : GoodIn wsX8_brothers wsX8_restingPairs := goodIn_r _ [65] (by decide +kernel) (by decide +kernel)
set_option maxRecDepth 20000 in
theorem gX8_brothers_X8_restingPairs : GoodIn wsX8_brothers (va_wsS RX8 260 yX8_restingPairs wsX8_restingPairs) := goodIn_app (goodIn_of _ (by decide +kernel)) ggX8_brothers_X8_restingPairs
theorem dX8_brothers_0 : decode cX8_brothers 0 = .ok (.aload_n 0, 1) := by decide +kernel
theorem dX8_brothers_1 : decode cX8_brothers 1 = .ok (.iload_n 1, 1) := by decide +kernel
theorem dX8_brothers_2 : decode cX8_brothers 2 = .ok (.invokevirtual 127, 3) := by decide +kernel
theorem dX8_brothers_5 : decode cX8_brothers 5 = .ok (.ifCond .eq 11, 3) := by decide +kernel
theorem dX8_brothers_8 : decode cX8_brothers 8 = .ok (.aload_n 0, 1) := by decide +kernel
theorem dX8_brothers_9 : decode cX8_brothers 9 = .ok (.iload_n 2, 1) := by decide +kernel
theorem dX8_brothers_10 : decode cX8_brothers 10 = .ok (.invokevirtual 127, 3) := by decide +kernel
theorem dX8_brothers_13 : decode cX8_brothers 13 = .ok (.ifCond .ne 8, 3) := by decide +kernel
theorem dX8_brothers_16 : decode cX8_brothers 16 = .ok (.aload_n 0, 1) := by decide +kernel
theorem dX8_brothers_17 : decode cX8_brothers 17 = .ok (.invokevirtual 86, 3) := by decide +kernel
theorem dX8_brothers_20 : decode cX8_brothers 20 = .ok (.ireturn, 1) := by decide +kernel
theorem dX8_brothers_21 : decode cX8_brothers 21 = .ok (.aload_n 0, 1) := by decide +kernel
theorem dX8_brothers_22 : decode cX8_brothers 22 = .ok (.getfield 10, 3) := by decide +kernel
theorem dX8_brothers_25 : decode cX8_brothers 25 = .ok (.getfield 257, 3) := by decide +kernel
theorem dX8_brothers_28 : decode cX8_brothers 28 = .ok (.iload_n 1, 1) := by decide +kernel
theorem dX8_brothers_29 : decode cX8_brothers 29 = .ok (.iaload, 1) := by decide +kernel
theorem dX8_brothers_30 : decode cX8_brothers 30 = .ok (.aload_n 0, 1) := by decide +kernel
theorem dX8_brothers_31 : decode cX8_brothers 31 = .ok (.getfield 10, 3) := by decide +kernel
theorem dX8_brothers_34 : decode cX8_brothers 34 = .ok (.getfield 257, 3) := by decide +kernel
theorem dX8_brothers_37 : decode cX8_brothers 37 = .ok (.iload_n 2, 1) := by decide +kernel
theorem dX8_brothers_38 : decode cX8_brothers 38 = .ok (.iaload, 1) := by decide +kernel
theorem dX8_brothers_39 : decode cX8_brothers 39 = .ok (.if_icmp .eq 25, 3) := by decide +kernel
theorem dX8_brothers_42 : decode cX8_brothers 42 = .ok (.aload_n 0, 1) := by decide +kernel
theorem dX8_brothers_43 : decode cX8_brothers 43 = .ok (.getfield 10, 3) := by decide +kernel
theorem dX8_brothers_46 : decode cX8_brothers 46 = .ok (.iload_n 1, 1) := by decide +kernel
theorem dX8_brothers_47 : decode cX8_brothers 47 = .ok (.invokevirtual 137, 3) := by decide +kernel
theorem dX8_brothers_50 : decode cX8_brothers 50 = .ok (.ifCond .ne 14, 3) := by decide +kernel
theorem dX8_brothers_53 : decode cX8_brothers 53 = .ok (.aload_n 0, 1) := by decide +kernel
theorem dX8_brothers_54 : decode cX8_brothers 54 = .ok (.getfield 10, 3) := by decide +kernel
theorem dX8_brothers_57 : decode cX8_brothers 57 = .ok (.iload_n 2, 1) := by decide +kernel
theorem dX8_brothers_58 : decode cX8_brothers 58 = .ok (.invokevirtual 137, 3) := by decide +kernel
theorem dX8_brothers_61 : decode cX8_brothers 61 = .ok (.ifCond .eq 8, 3) := by decide +kernel
theorem dX8_brothers_64 : decode cX8_brothers 64 = .ok (.aload_n 0, 1) := by decide +kernel
theorem dX8_brothers_65 : decode cX8_brothers 65 = .ok (.invokevirtual 134, 3) := by decide +kernel
theorem dX8_brothers_68 : decode cX8_brothers 68 = .ok (.ireturn, 1) := by decide +kernel
theorem dX8_brothers_69 : decode cX8_brothers 69 = .ok (.aload_n 0, 1) := by decide +kernel
theorem dX8_brothers_70 : decode cX8_brothers 70 = .ok (.getfield 10, 3) := by decide +kernel
theorem dX8_brothers_73 : decode cX8_brothers 73 = .ok (.getfield 140, 3) := by decide +kernel
theorem dX8_brothers_76 : decode cX8_brothers 76 = .ok (.iload_n 1, 1) := by decide +kernel
theorem dX8_brothers_77 : decode cX8_brothers 77 = .ok (.iaload, 1) := by decide +kernel
theorem dX8_brothers_78 : decode cX8_brothers 78 = .ok (.aload_n 0, 1) := by decide +kernel
theorem dX8_brothers_79 : decode cX8_brothers 79 = .ok (.getfield 10, 3) := by decide +kernel
theorem dX8_brothers_82 : decode cX8_brothers 82 = .ok (.iload_n 1, 1) := by decide +kernel
theorem dX8_brothers_83 : decode cX8_brothers 83 = .ok (.invokevirtual 165, 3) := by decide +kernel
theorem dX8_brothers_86 : decode cX8_brothers 86 = .ok (.isub, 1) := by decide +kernel
theorem dX8_brothers_87 : decode cX8_brothers 87 = .ok (.aload_n 0, 1) := by decide +kernel
theorem dX8_brothers_88 : decode cX8_brothers 88 = .ok (.getfield 10, 3) := by decide +kernel
theorem dX8_brothers_91 : decode cX8_brothers 91 = .ok (.getfield 140, 3) := by decide +kernel
theorem dX8_brothers_94 : decode cX8_brothers 94 = .ok (.iload_n 2, 1) := by decide +kernel
theorem dX8_brothers_95 : decode cX8_brothers 95 = .ok (.iaload, 1) := by decide +kernel
theorem dX8_brothers_96 : decode cX8_brothers 96 = .ok (.aload_n 0, 1) := by decide +kernel
theorem dX8_brothers_97 : decode cX8_brothers 97 = .ok (.getfield 10, 3) := by decide +kernel
theorem dX8_brothers_100 : decode cX8_brothers 100 = .ok (.iload_n 2, 1) := by decide +kernel
theorem dX8_brothers_101 : decode cX8_brothers 101 = .ok (.invokevirtual 165, 3) := by decide +kernel
theorem dX8_brothers_104 : decode cX8_brothers 104 = .ok (.isub, 1) := by decide +kernel
theorem dX8_brothers_105 : decode cX8_brothers 105 = .ok (.invokestatic 260, 3) := by decide +kernel
theorem dX8_brothers_108 : decode cX8_brothers 108 = .ok (.ireturn, 1) := by decide +kernel
set_option maxRecDepth 20000 in
theorem ggX8_mornings_X8_isFamily : GoodIn wsX8_mornings wsX8_isFamily := goodIn_r _ [7, 8, 9, 10, 11, 6, 12, 63, 64, 65, 66, 67, 68, 69, 70, 71, 72, 73, 74, 75, 76, 77, 78, 79, 80, 81, 82, 83, 84, 85, 86, 87, 88, 89, 90, 91, 92] (by decide +kernel) (by decide +kernel)
set_option maxRecDepth 20000 in
theorem gX8_mornings_X8_isFamily : GoodIn wsX8_mornings (wsV RX8 127 RX8 yX8_isFamily wsX8_isFamily) := goodIn_app (goodIn_of _ (by decide +kernel)) ggX8_mornings_X8_isFamily
set_option maxRecDepth 20000 in
theorem ggX8_mornings_X8_within : GoodIn wsX8_mornings wsX8_within := goodIn_r _ [12] (by decide +kernel) (by decide +kernel)
set_option maxRecDepth 20000 in
theorem gX8_mornings_X8_within : GoodIn wsX8_mornings (va_wsS RX8 78 yX8_within wsX8_within) := goodIn_app (goodIn_of _ (by decide +kernel)) ggX8_mornings_X8_within
set_option maxRecDepth 20000 in
theorem ggX8_mornings_X8_bad : GoodIn wsX8_mornings wsX8_bad := goodIn_r _ [16, 17, 63, 64, 65, 66, 67, 68, 69, 70, 71, 72, 73, 74, 75, 76, 77] (by decide +kernel) (by decide +kernel)
set_option maxRecDepth 20000 in
theorem gX8_mornings_X8_bad : GoodIn wsX8_mornings (wsV RX8 86 RX8 yX8_bad wsX8_bad) := goodIn_app (goodIn_of _ (by decide +kernel)) ggX8_mornings_X8_bad
set_option maxRecDepth 20000 in
theorem ggX8_mornings_X1_lapsingMornings : GoodIn wsX8_mornings wsX1_lapsingMornings := goodIn_r _ [22, 23, 24, 25, 26, 27, 28, 29, 30, 31, 32, 33, 34, 35, 36, 37, 38, 39, 40, 41, 42, 43, 44, 45, 46, 47, 48, 49, 50, 51, 52, 53, 54, 55, 56, 93, 94, 95, 96, 97, 98, 99, 78, 79, 80, 81, 82, 83, 84, 85, 86, 87, 88, 89, 90, 91, 92] (by decide +kernel) (by decide +kernel)
set_option maxRecDepth 20000 in
theorem gX8_mornings_X1_lapsingMornings : GoodIn wsX8_mornings (wsV RX8 265 RX1 yX1_lapsingMornings wsX1_lapsingMornings) := goodIn_app (goodIn_of _ (by decide +kernel)) ggX8_mornings_X1_lapsingMornings
set_option maxRecDepth 20000 in
theorem ggX8_mornings_X8_keepFraction : GoodIn wsX8_mornings wsX8_keepFraction := goodIn_r _ [60, 61, 62, 63, 64, 65, 66, 67, 68, 69, 70, 71, 72, 73, 74, 75, 76, 77] (by decide +kernel) (by decide +kernel)
set_option maxRecDepth 20000 in
theorem gX8_mornings_X8_keepFraction : GoodIn wsX8_mornings (wsV RX8 269 RX8 yX8_keepFraction wsX8_keepFraction) := goodIn_app (goodIn_of _ (by decide +kernel)) ggX8_mornings_X8_keepFraction
theorem dX8_mornings_0 : decode cX8_mornings 0 = .ok (.aload_n 0, 1) := by decide +kernel
theorem dX8_mornings_1 : decode cX8_mornings 1 = .ok (.iload_n 1, 1) := by decide +kernel
theorem dX8_mornings_2 : decode cX8_mornings 2 = .ok (.invokevirtual 127, 3) := by decide +kernel
theorem dX8_mornings_5 : decode cX8_mornings 5 = .ok (.ifCond .eq 23, 3) := by decide +kernel
theorem dX8_mornings_8 : decode cX8_mornings 8 = .ok (.iload_n 2, 1) := by decide +kernel
theorem dX8_mornings_9 : decode cX8_mornings 9 = .ok (.iconst 0, 1) := by decide +kernel
theorem dX8_mornings_10 : decode cX8_mornings 10 = .ok (.bipush 6, 2) := by decide +kernel
theorem dX8_mornings_12 : decode cX8_mornings 12 = .ok (.invokestatic 78, 3) := by decide +kernel
theorem dX8_mornings_15 : decode cX8_mornings 15 = .ok (.ifCond .eq 13, 3) := by decide +kernel
theorem dX8_mornings_18 : decode cX8_mornings 18 = .ok (.iload_n 3, 1) := by decide +kernel
theorem dX8_mornings_19 : decode cX8_mornings 19 = .ok (.iconst 0, 1) := by decide +kernel
theorem dX8_mornings_20 : decode cX8_mornings 20 = .ok (.bipush 10, 2) := by decide +kernel
theorem dX8_mornings_22 : decode cX8_mornings 22 = .ok (.invokestatic 78, 3) := by decide +kernel
theorem dX8_mornings_25 : decode cX8_mornings 25 = .ok (.ifCond .ne 8, 3) := by decide +kernel
theorem dX8_mornings_28 : decode cX8_mornings 28 = .ok (.aload_n 0, 1) := by decide +kernel
theorem dX8_mornings_29 : decode cX8_mornings 29 = .ok (.invokevirtual 86, 3) := by decide +kernel
theorem dX8_mornings_32 : decode cX8_mornings 32 = .ok (.ireturn, 1) := by decide +kernel
theorem dX8_mornings_33 : decode cX8_mornings 33 = .ok (.lconst 1, 1) := by decide +kernel
theorem dX8_mornings_34 : decode cX8_mornings 34 = .ok (.lstore 4, 2) := by decide +kernel
theorem dX8_mornings_36 : decode cX8_mornings 36 = .ok (.iconst 0, 1) := by decide +kernel
theorem dX8_mornings_37 : decode cX8_mornings 37 = .ok (.istore 6, 2) := by decide +kernel
theorem dX8_mornings_39 : decode cX8_mornings 39 = .ok (.iload 6, 2) := by decide +kernel
theorem dX8_mornings_41 : decode cX8_mornings 41 = .ok (.iload_n 2, 1) := by decide +kernel
theorem dX8_mornings_42 : decode cX8_mornings 42 = .ok (.if_icmp .ge 17, 3) := by decide +kernel
theorem dX8_mornings_45 : decode cX8_mornings 45 = .ok (.lload 4, 2) := by decide +kernel
theorem dX8_mornings_47 : decode cX8_mornings 47 = .ok (.ldc2_w 263, 3) := by decide +kernel
theorem dX8_mornings_50 : decode cX8_mornings 50 = .ok (.lmul, 1) := by decide +kernel
theorem dX8_mornings_51 : decode cX8_mornings 51 = .ok (.lstore 4, 2) := by decide +kernel
theorem dX8_mornings_53 : decode cX8_mornings 53 = .ok (.iinc 6 1, 3) := by decide +kernel
theorem dX8_mornings_56 : decode cX8_mornings 56 = .ok (.goto (-17), 3) := by decide +kernel
theorem dX8_mornings_59 : decode cX8_mornings 59 = .ok (.aload_n 0, 1) := by decide +kernel
theorem dX8_mornings_60 : decode cX8_mornings 60 = .ok (.aload_n 0, 1) := by decide +kernel
theorem dX8_mornings_61 : decode cX8_mornings 61 = .ok (.getfield 33, 3) := by decide +kernel
theorem dX8_mornings_64 : decode cX8_mornings 64 = .ok (.iload_n 1, 1) := by decide +kernel
theorem dX8_mornings_65 : decode cX8_mornings 65 = .ok (.iload_n 2, 1) := by decide +kernel
theorem dX8_mornings_66 : decode cX8_mornings 66 = .ok (.iload_n 3, 1) := by decide +kernel
theorem dX8_mornings_67 : decode cX8_mornings 67 = .ok (.invokevirtual 265, 3) := by decide +kernel
theorem dX8_mornings_70 : decode cX8_mornings 70 = .ok (.lload 4, 2) := by decide +kernel
theorem dX8_mornings_72 : decode cX8_mornings 72 = .ok (.invokevirtual 269, 3) := by decide +kernel
theorem dX8_mornings_75 : decode cX8_mornings 75 = .ok (.iconst 1, 1) := by decide +kernel
theorem dX8_mornings_76 : decode cX8_mornings 76 = .ok (.ireturn, 1) := by decide +kernel
set_option maxRecDepth 20000 in
theorem ggX8_years_X8_within : GoodIn wsX8_years wsX8_within := goodIn_r _ [6] (by decide +kernel) (by decide +kernel)
set_option maxRecDepth 20000 in
theorem gX8_years_X8_within : GoodIn wsX8_years (va_wsS RX8 78 yX8_within wsX8_within) := goodIn_app (goodIn_of _ (by decide +kernel)) ggX8_years_X8_within
set_option maxRecDepth 20000 in
theorem ggX8_years_X8_bad : GoodIn wsX8_years wsX8_bad := goodIn_r _ [10, 11, 73, 74, 75, 76, 77, 78, 79, 80, 81, 82, 83, 84, 85, 86, 87] (by decide +kernel) (by decide +kernel)
set_option maxRecDepth 20000 in
theorem gX8_years_X8_bad : GoodIn wsX8_years (wsV RX8 86 RX8 yX8_bad wsX8_bad) := goodIn_app (goodIn_of _ (by decide +kernel)) ggX8_years_X8_bad
set_option maxRecDepth 20000 in
theorem ggX8_years_X1_lapsedByYears : GoodIn wsX8_years wsX1_lapsedByYears := goodIn_r _ [16, 17, 18, 19, 20, 21, 22, 23, 24, 25, 26, 27, 28, 29, 30, 31, 32, 33, 34, 35, 36, 37, 38, 39, 40, 41, 42, 43, 44, 45, 46, 47, 48, 49, 50, 51, 52, 53, 54, 55, 56, 57, 58, 59, 60, 61, 62, 63, 64, 65, 66, 67, 68, 69, 70, 71, 72, 88, 89, 90, 91, 92, 93, 94, 95, 96, 97, 98, 99, 100, 101, 102, 103, 104, 105, 106, 107, 108, 109] (by decide +kernel) (by decide +kernel)
set_option maxRecDepth 20000 in
theorem gX8_years_X1_lapsedByYears : GoodIn wsX8_years (wsV RX8 274 RX1 yX1_lapsedByYears wsX1_lapsedByYears) := goodIn_app (goodIn_of _ (by decide +kernel)) ggX8_years_X1_lapsedByYears
theorem dX8_years_0 : decode cX8_years 0 = .ok (.iload_n 1, 1) := by decide +kernel
theorem dX8_years_1 : decode cX8_years 1 = .ok (.iconst 0, 1) := by decide +kernel
theorem dX8_years_2 : decode cX8_years 2 = .ok (.ldc_w 273, 3) := by decide +kernel
theorem dX8_years_5 : decode cX8_years 5 = .ok (.invokestatic 78, 3) := by decide +kernel
theorem dX8_years_8 : decode cX8_years 8 = .ok (.ifCond .eq 13, 3) := by decide +kernel
theorem dX8_years_11 : decode cX8_years 11 = .ok (.iload_n 2, 1) := by decide +kernel
theorem dX8_years_12 : decode cX8_years 12 = .ok (.iconst 0, 1) := by decide +kernel
theorem dX8_years_13 : decode cX8_years 13 = .ok (.bipush 60, 2) := by decide +kernel
theorem dX8_years_15 : decode cX8_years 15 = .ok (.invokestatic 78, 3) := by decide +kernel
theorem dX8_years_18 : decode cX8_years 18 = .ok (.ifCond .ne 8, 3) := by decide +kernel
theorem dX8_years_21 : decode cX8_years 21 = .ok (.aload_n 0, 1) := by decide +kernel
theorem dX8_years_22 : decode cX8_years 22 = .ok (.invokevirtual 86, 3) := by decide +kernel
theorem dX8_years_25 : decode cX8_years 25 = .ok (.ireturn, 1) := by decide +kernel
theorem dX8_years_26 : decode cX8_years 26 = .ok (.aload_n 0, 1) := by decide +kernel
theorem dX8_years_27 : decode cX8_years 27 = .ok (.getfield 33, 3) := by decide +kernel
theorem dX8_years_30 : decode cX8_years 30 = .ok (.iload_n 1, 1) := by decide +kernel
theorem dX8_years_31 : decode cX8_years 31 = .ok (.iload_n 2, 1) := by decide +kernel
theorem dX8_years_32 : decode cX8_years 32 = .ok (.invokevirtual 274, 3) := by decide +kernel
theorem dX8_years_35 : decode cX8_years 35 = .ok (.ireturn, 1) := by decide +kernel
set_option maxRecDepth 20000 in
theorem ggX8_part_X8_within : GoodIn wsX8_part wsX8_within := goodIn_r _ [6] (by decide +kernel) (by decide +kernel)
set_option maxRecDepth 20000 in
theorem gX8_part_X8_within : GoodIn wsX8_part (va_wsS RX8 78 yX8_within wsX8_within) := goodIn_app (goodIn_of _ (by decide +kernel)) ggX8_part_X8_within
set_option maxRecDepth 20000 in
theorem ggX8_part_X8_bad : GoodIn wsX8_part wsX8_bad := goodIn_r _ [10, 11, 12, 13, 14, 15, 16, 17, 18, 19, 20, 21, 22, 23, 24, 25, 26] (by decide +kernel) (by decide +kernel)
set_option maxRecDepth 20000 in
theorem gX8_part_X8_bad : GoodIn wsX8_part (wsV RX8 86 RX8 yX8_bad wsX8_bad) := goodIn_app (goodIn_of _ (by decide +kernel)) ggX8_part_X8_bad
theorem dX8_part_0 : decode cX8_part 0 = .ok (.iload_n 1, 1) := by decide +kernel
theorem dX8_part_1 : decode cX8_part 1 = .ok (.iconst 0, 1) := by decide +kernel
theorem dX8_part_2 : decode cX8_part 2 = .ok (.iconst 1, 1) := by decide +kernel
theorem dX8_part_3 : decode cX8_part 3 = .ok (.invokestatic 78, 3) := by decide +kernel
theorem dX8_part_6 : decode cX8_part 6 = .ok (.ifCond .ne 9, 3) := by decide +kernel
theorem dX8_part_9 : decode cX8_part 9 = .ok (.aload_n 0, 1) := by decide +kernel
theorem dX8_part_10 : decode cX8_part 10 = .ok (.invokevirtual 86, 3) := by decide +kernel
theorem dX8_part_13 : decode cX8_part 13 = .ok (.i2l, 1) := by decide +kernel
theorem dX8_part_14 : decode cX8_part 14 = .ok (.lreturn, 1) := by decide +kernel
theorem dX8_part_15 : decode cX8_part 15 = .ok (.iload_n 1, 1) := by decide +kernel
theorem dX8_part_16 : decode cX8_part 16 = .ok (.ifCond .ne 10, 3) := by decide +kernel
theorem dX8_part_19 : decode cX8_part 19 = .ok (.aload_n 0, 1) := by decide +kernel
theorem dX8_part_20 : decode cX8_part 20 = .ok (.getfield 277, 3) := by decide +kernel
theorem dX8_part_23 : decode cX8_part 23 = .ok (.goto 7, 3) := by decide +kernel
theorem dX8_part_26 : decode cX8_part 26 = .ok (.aload_n 0, 1) := by decide +kernel
theorem dX8_part_27 : decode cX8_part 27 = .ok (.getfield 67, 3) := by decide +kernel
theorem dX8_part_30 : decode cX8_part 30 = .ok (.lreturn, 1) := by decide +kernel
set_option maxRecDepth 20000 in
theorem ggX8_image_X8_within : GoodIn wsX8_image wsX8_within := goodIn_r _ [7] (by decide +kernel) (by decide +kernel)
set_option maxRecDepth 20000 in
theorem gX8_image_X8_within : GoodIn wsX8_image (va_wsS RX8 78 yX8_within wsX8_within) := goodIn_app (goodIn_of _ (by decide +kernel)) ggX8_image_X8_within
set_option maxRecDepth 20000 in
theorem ggX8_image_X8_bad : GoodIn wsX8_image wsX8_bad := goodIn_r _ [11, 12, 45, 46, 47, 48, 49, 50, 51, 52, 53, 54, 55, 56, 57, 58, 59] (by decide +kernel) (by decide +kernel)
set_option maxRecDepth 20000 in
theorem gX8_image_X8_bad : GoodIn wsX8_image (wsV RX8 86 RX8 yX8_bad wsX8_bad) := goodIn_app (goodIn_of _ (by decide +kernel)) ggX8_image_X8_bad
set_option maxRecDepth 20000 in
theorem ggX8_image_X4_become : GoodIn wsX8_image wsX4_become := goodIn_r _ [17, 18, 19, 20, 21, 22, 23, 24, 25, 26, 27, 28, 29, 30, 31, 32, 33, 34, 35, 36, 37, 38, 39, 40, 41, 42, 43, 44, 60, 61, 62, 63, 64, 65, 66, 67, 68, 69, 70, 71, 72, 73, 74, 75, 76, 77, 78] (by decide +kernel) (by decide +kernel)
set_option maxRecDepth 20000 in
theorem gX8_image_X4_become : GoodIn wsX8_image (wsV RX8 114 RX4 yX4_become wsX4_become) := goodIn_app (goodIn_of _ (by decide +kernel)) ggX8_image_X4_become
theorem dX8_image_0 : decode cX8_image 0 = .ok (.iload_n 1, 1) := by decide +kernel
theorem dX8_image_1 : decode cX8_image 1 = .ok (.iconst 0, 1) := by decide +kernel
theorem dX8_image_2 : decode cX8_image 2 = .ok (.iconst 1, 1) := by decide +kernel
theorem dX8_image_3 : decode cX8_image 3 = .ok (.invokestatic 78, 3) := by decide +kernel
theorem dX8_image_6 : decode cX8_image 6 = .ok (.ifCond .ne 8, 3) := by decide +kernel
theorem dX8_image_9 : decode cX8_image 9 = .ok (.aload_n 0, 1) := by decide +kernel
theorem dX8_image_10 : decode cX8_image 10 = .ok (.invokevirtual 86, 3) := by decide +kernel
theorem dX8_image_13 : decode cX8_image 13 = .ok (.ireturn, 1) := by decide +kernel
theorem dX8_image_14 : decode cX8_image 14 = .ok (.aload_n 0, 1) := by decide +kernel
theorem dX8_image_15 : decode cX8_image 15 = .ok (.getfield 16, 3) := by decide +kernel
theorem dX8_image_18 : decode cX8_image 18 = .ok (.iload_n 1, 1) := by decide +kernel
theorem dX8_image_19 : decode cX8_image 19 = .ok (.aaload, 1) := by decide +kernel
theorem dX8_image_20 : decode cX8_image 20 = .ok (.aload_n 0, 1) := by decide +kernel
theorem dX8_image_21 : decode cX8_image 21 = .ok (.getfield 10, 3) := by decide +kernel
theorem dX8_image_24 : decode cX8_image 24 = .ok (.invokevirtual 114, 3) := by decide +kernel
theorem dX8_image_27 : decode cX8_image 27 = .ok (.aload_n 0, 1) := by decide +kernel
theorem dX8_image_28 : decode cX8_image 28 = .ok (.getfield 20, 3) := by decide +kernel
theorem dX8_image_31 : decode cX8_image 31 = .ok (.iload_n 1, 1) := by decide +kernel
theorem dX8_image_32 : decode cX8_image 32 = .ok (.iconst 1, 1) := by decide +kernel
theorem dX8_image_33 : decode cX8_image 33 = .ok (.bastore, 1) := by decide +kernel
theorem dX8_image_34 : decode cX8_image 34 = .ok (.iconst 1, 1) := by decide +kernel
theorem dX8_image_35 : decode cX8_image 35 = .ok (.ireturn, 1) := by decide +kernel
set_option maxRecDepth 20000 in
theorem ggX8_from_X8_within : GoodIn wsX8_from wsX8_within := goodIn_r _ [7] (by decide +kernel) (by decide +kernel)
set_option maxRecDepth 20000 in
theorem gX8_from_X8_within : GoodIn wsX8_from (va_wsS RX8 78 yX8_within wsX8_within) := goodIn_app (goodIn_of _ (by decide +kernel)) ggX8_from_X8_within
set_option maxRecDepth 20000 in
theorem ggX8_from_X8_bad : GoodIn wsX8_from wsX8_bad := goodIn_r _ [11, 12, 50, 51, 52, 53, 54, 55, 56, 57, 58, 59, 60, 61, 62, 63, 64] (by decide +kernel) (by decide +kernel)
set_option maxRecDepth 20000 in
theorem gX8_from_X8_bad : GoodIn wsX8_from (wsV RX8 86 RX8 yX8_bad wsX8_bad) := goodIn_app (goodIn_of _ (by decide +kernel)) ggX8_from_X8_bad
set_option maxRecDepth 20000 in
theorem ggX8_from_X8_no : GoodIn wsX8_from wsX8_no := goodIn_r _ [16, 17, 50, 51, 52, 53, 54, 55, 56, 57, 58, 59, 60, 61, 62, 63, 64] (by decide +kernel) (by decide +kernel)
set_option maxRecDepth 20000 in
theorem gX8_from_X8_no : GoodIn wsX8_from (wsV RX8 134 RX8 yX8_no wsX8_no) := goodIn_app (goodIn_of _ (by decide +kernel)) ggX8_from_X8_no
set_option maxRecDepth 20000 in
theorem ggX8_from_X4_become : GoodIn wsX8_from wsX4_become := goodIn_r _ [22, 23, 24, 25, 26, 27, 28, 29, 30, 31, 32, 33, 34, 35, 36, 37, 38, 39, 40, 41, 42, 43, 44, 45, 46, 47, 48, 49, 65, 66, 67, 68, 69, 70, 71, 72, 73, 74, 75, 76, 77, 78, 79, 80, 81, 82, 83] (by decide +kernel) (by decide +kernel)
set_option maxRecDepth 20000 in
theorem gX8_from_X4_become : GoodIn wsX8_from (wsV RX8 114 RX4 yX4_become wsX4_become) := goodIn_app (goodIn_of _ (by decide +kernel)) ggX8_from_X4_become
theorem dX8_from_0 : decode cX8_from 0 = .ok (.iload_n 1, 1) := by decide +kernel
theorem dX8_from_1 : decode cX8_from 1 = .ok (.iconst 0, 1) := by decide +kernel
theorem dX8_from_2 : decode cX8_from 2 = .ok (.iconst 1, 1) := by decide +kernel
theorem dX8_from_3 : decode cX8_from 3 = .ok (.invokestatic 78, 3) := by decide +kernel
theorem dX8_from_6 : decode cX8_from 6 = .ok (.ifCond .ne 8, 3) := by decide +kernel
theorem dX8_from_9 : decode cX8_from 9 = .ok (.aload_n 0, 1) := by decide +kernel
theorem dX8_from_10 : decode cX8_from 10 = .ok (.invokevirtual 86, 3) := by decide +kernel
theorem dX8_from_13 : decode cX8_from 13 = .ok (.ireturn, 1) := by decide +kernel
theorem dX8_from_14 : decode cX8_from 14 = .ok (.aload_n 0, 1) := by decide +kernel
theorem dX8_from_15 : decode cX8_from 15 = .ok (.getfield 20, 3) := by decide +kernel
theorem dX8_from_18 : decode cX8_from 18 = .ok (.iload_n 1, 1) := by decide +kernel
theorem dX8_from_19 : decode cX8_from 19 = .ok (.baload, 1) := by decide +kernel
theorem dX8_from_20 : decode cX8_from 20 = .ok (.ifCond .ne 8, 3) := by decide +kernel
theorem dX8_from_23 : decode cX8_from 23 = .ok (.aload_n 0, 1) := by decide +kernel
theorem dX8_from_24 : decode cX8_from 24 = .ok (.invokevirtual 134, 3) := by decide +kernel
theorem dX8_from_27 : decode cX8_from 27 = .ok (.ireturn, 1) := by decide +kernel
theorem dX8_from_28 : decode cX8_from 28 = .ok (.aload_n 0, 1) := by decide +kernel
theorem dX8_from_29 : decode cX8_from 29 = .ok (.getfield 10, 3) := by decide +kernel
theorem dX8_from_32 : decode cX8_from 32 = .ok (.aload_n 0, 1) := by decide +kernel
theorem dX8_from_33 : decode cX8_from 33 = .ok (.getfield 16, 3) := by decide +kernel
theorem dX8_from_36 : decode cX8_from 36 = .ok (.iload_n 1, 1) := by decide +kernel
theorem dX8_from_37 : decode cX8_from 37 = .ok (.aaload, 1) := by decide +kernel
theorem dX8_from_38 : decode cX8_from 38 = .ok (.invokevirtual 114, 3) := by decide +kernel
theorem dX8_from_41 : decode cX8_from 41 = .ok (.iconst 1, 1) := by decide +kernel
theorem dX8_from_42 : decode cX8_from 42 = .ok (.ireturn, 1) := by decide +kernel
set_option maxRecDepth 20000 in
theorem ggX8_status_X8_bad : GoodIn wsX8_status wsX8_bad := goodIn_r _ [8, 1, 9, 10, 11, 12, 13, 14, 15, 16, 17, 18, 19, 20, 21, 22, 23] (by decide +kernel) (by decide +kernel)
set_option maxRecDepth 20000 in
theorem gX8_status_X8_bad : GoodIn wsX8_status (wsV RX8 86 RX8 yX8_bad wsX8_bad) := goodIn_app (goodIn_of _ (by decide +kernel)) ggX8_status_X8_bad
theorem dX8_status_0 : decode cX8_status 0 = .ok (.iload_n 1, 1) := by decide +kernel
theorem dX8_status_1 : decode cX8_status 1 = .ok (.tableswitch 42 0 2 #[27, 32, 37], 27) := by decide +kernel
theorem dX8_status_28 : decode cX8_status 28 = .ok (.aload_n 0, 1) := by decide +kernel
theorem dX8_status_29 : decode cX8_status 29 = .ok (.getfield 280, 3) := by decide +kernel
theorem dX8_status_32 : decode cX8_status 32 = .ok (.ireturn, 1) := by decide +kernel
theorem dX8_status_33 : decode cX8_status 33 = .ok (.aload_n 0, 1) := by decide +kernel
theorem dX8_status_34 : decode cX8_status 34 = .ok (.getfield 283, 3) := by decide +kernel
theorem dX8_status_37 : decode cX8_status 37 = .ok (.ireturn, 1) := by decide +kernel
theorem dX8_status_38 : decode cX8_status 38 = .ok (.aload_n 0, 1) := by decide +kernel
theorem dX8_status_39 : decode cX8_status 39 = .ok (.getfield 286, 3) := by decide +kernel
theorem dX8_status_42 : decode cX8_status 42 = .ok (.ireturn, 1) := by decide +kernel
theorem dX8_status_43 : decode cX8_status 43 = .ok (.aload_n 0, 1) := by decide +kernel
theorem dX8_status_44 : decode cX8_status 44 = .ok (.invokevirtual 86, 3) := by decide +kernel
theorem dX8_status_47 : decode cX8_status 47 = .ok (.pop, 1) := by decide +kernel
theorem dX8_status_48 : decode cX8_status 48 = .ok (.iconst (-1), 1) := by decide +kernel
theorem dX8_status_49 : decode cX8_status 49 = .ok (.ireturn, 1) := by decide +kernel
set_option maxRecDepth 20000 in
theorem ggX8_count_X8_within : GoodIn wsX8_count wsX8_within := goodIn_r _ [4] (by decide +kernel) (by decide +kernel)
set_option maxRecDepth 20000 in
theorem gX8_count_X8_within : GoodIn wsX8_count (va_wsS RX8 78 yX8_within wsX8_within) := goodIn_app (goodIn_of _ (by decide +kernel)) ggX8_count_X8_within
set_option maxRecDepth 20000 in
theorem ggX8_count_X8_countOf : GoodIn wsX8_count wsX8_countOf := goodIn_r _ [8, 9, 10, 11, 12, 13, 14, 15, 16, 17, 18, 19, 20, 21, 22, 23, 24, 25, 26, 27, 28, 29, 30, 31, 32, 33, 34, 35, 36, 37, 38, 39, 40, 41, 47, 48, 49, 50, 51, 52, 53, 54, 55, 56, 57, 58, 59, 60, 61, 62, 63, 64, 65, 66, 67, 68, 69, 70, 71, 72, 73, 74, 75, 76, 77, 78, 79, 80] (by decide +kernel) (by decide +kernel)
set_option maxRecDepth 20000 in
theorem gX8_count_X8_countOf : GoodIn wsX8_count (wsV RX8 289 RX8 yX8_countOf wsX8_countOf) := goodIn_app (goodIn_of _ (by decide +kernel)) ggX8_count_X8_countOf
set_option maxRecDepth 20000 in
theorem ggX8_count_X8_bad : GoodIn wsX8_count wsX8_bad := goodIn_r _ [45, 46, 47, 48, 49, 50, 51, 52, 53, 54, 55, 56, 57, 58, 59, 60, 61] (by decide +kernel) (by decide +kernel)
set_option maxRecDepth 20000 in
theorem gX8_count_X8_bad : GoodIn wsX8_count (wsV RX8 86 RX8 yX8_bad wsX8_bad) := goodIn_app (goodIn_of _ (by decide +kernel)) ggX8_count_X8_bad
theorem dX8_count_0 : decode cX8_count 0 = .ok (.iload_n 1, 1) := by decide +kernel
theorem dX8_count_1 : decode cX8_count 1 = .ok (.iconst 0, 1) := by decide +kernel
theorem dX8_count_2 : decode cX8_count 2 = .ok (.bipush 10, 2) := by decide +kernel
theorem dX8_count_4 : decode cX8_count 4 = .ok (.invokestatic 78, 3) := by decide +kernel
theorem dX8_count_7 : decode cX8_count 7 = .ok (.ifCond .eq 11, 3) := by decide +kernel
theorem dX8_count_10 : decode cX8_count 10 = .ok (.aload_n 0, 1) := by decide +kernel
theorem dX8_count_11 : decode cX8_count 11 = .ok (.iload_n 1, 1) := by decide +kernel
theorem dX8_count_12 : decode cX8_count 12 = .ok (.invokevirtual 289, 3) := by decide +kernel
theorem dX8_count_15 : decode cX8_count 15 = .ok (.goto 7, 3) := by decide +kernel
theorem dX8_count_18 : decode cX8_count 18 = .ok (.aload_n 0, 1) := by decide +kernel
theorem dX8_count_19 : decode cX8_count 19 = .ok (.invokevirtual 86, 3) := by decide +kernel
theorem dX8_count_22 : decode cX8_count 22 = .ok (.ireturn, 1) := by decide +kernel
set_option maxRecDepth 20000 in
theorem ggX8_digest_X8_countOf : GoodIn wsX8_digest wsX8_countOf := goodIn_r _ [10, 3, 11, 12, 13, 14, 15, 16, 17, 18, 19, 20, 21, 22, 23, 24, 25, 26, 27, 28, 29, 30, 31, 32, 33, 34, 35, 36, 37, 38, 39, 40, 41, 42, 84, 85, 86, 87, 88, 89, 90, 91, 92, 93, 94, 95, 96, 97, 98, 99, 100, 101, 102, 103, 104, 105, 106, 107, 108, 109, 110, 111, 112, 113, 114, 115, 116, 117] (by decide +kernel) (by decide +kernel)
set_option maxRecDepth 20000 in
theorem gX8_digest_X8_countOf : GoodIn wsX8_digest (wsV RX8 289 RX8 yX8_countOf wsX8_countOf) := goodIn_app (goodIn_of _ (by decide +kernel)) ggX8_digest_X8_countOf
set_option maxRecDepth 20000 in
theorem ggX8_digest_X4_digestOn : GoodIn wsX8_digest wsX4_digestOn := goodIn_r _ [46, 47, 48, 38, 49, 50, 51, 52, 53, 54, 31, 55, 56, 57, 58, 59, 60, 61, 62, 63, 64, 65, 66, 67, 68, 69, 70, 33, 71, 72, 73, 74, 75, 76, 77, 78, 79, 80, 81, 82, 83, 99, 100, 101, 102, 103, 104, 105, 106, 107, 108, 109, 110, 111, 112, 113, 114, 115, 116, 117] (by decide +kernel) (by decide +kernel)
set_option maxRecDepth 20000 in
theorem gX8_digest_X4_digestOn : GoodIn wsX8_digest (wsV RX8 296 RX4 yX4_digestOn wsX4_digestOn) := goodIn_app (goodIn_of _ (by decide +kernel)) ggX8_digest_X4_digestOn
theorem dX8_digest_0 : decode cX8_digest 0 = .ok (.ldc2_w 292, 3) := by decide +kernel
theorem dX8_digest_3 : decode cX8_digest 3 = .ok (.lstore_n 1, 1) := by decide +kernel
theorem dX8_digest_4 : decode cX8_digest 4 = .ok (.iconst 0, 1) := by decide +kernel
theorem dX8_digest_5 : decode cX8_digest 5 = .ok (.istore_n 3, 1) := by decide +kernel
theorem dX8_digest_6 : decode cX8_digest 6 = .ok (.iload_n 3, 1) := by decide +kernel
theorem dX8_digest_7 : decode cX8_digest 7 = .ok (.bipush 11, 2) := by decide +kernel
theorem dX8_digest_9 : decode cX8_digest 9 = .ok (.if_icmp .ge 22, 3) := by decide +kernel
theorem dX8_digest_12 : decode cX8_digest 12 = .ok (.ldc2_w 294, 3) := by decide +kernel
theorem dX8_digest_15 : decode cX8_digest 15 = .ok (.lload_n 1, 1) := by decide +kernel
theorem dX8_digest_16 : decode cX8_digest 16 = .ok (.lmul, 1) := by decide +kernel
theorem dX8_digest_17 : decode cX8_digest 17 = .ok (.aload_n 0, 1) := by decide +kernel
theorem dX8_digest_18 : decode cX8_digest 18 = .ok (.iload_n 3, 1) := by decide +kernel
theorem dX8_digest_19 : decode cX8_digest 19 = .ok (.invokevirtual 289, 3) := by decide +kernel
theorem dX8_digest_22 : decode cX8_digest 22 = .ok (.i2l, 1) := by decide +kernel
theorem dX8_digest_23 : decode cX8_digest 23 = .ok (.ladd, 1) := by decide +kernel
theorem dX8_digest_24 : decode cX8_digest 24 = .ok (.lstore_n 1, 1) := by decide +kernel
theorem dX8_digest_25 : decode cX8_digest 25 = .ok (.iinc 3 1, 3) := by decide +kernel
theorem dX8_digest_28 : decode cX8_digest 28 = .ok (.goto (-22), 3) := by decide +kernel
theorem dX8_digest_31 : decode cX8_digest 31 = .ok (.aload_n 0, 1) := by decide +kernel
theorem dX8_digest_32 : decode cX8_digest 32 = .ok (.getfield 10, 3) := by decide +kernel
theorem dX8_digest_35 : decode cX8_digest 35 = .ok (.lload_n 1, 1) := by decide +kernel
theorem dX8_digest_36 : decode cX8_digest 36 = .ok (.invokevirtual 296, 3) := by decide +kernel
theorem dX8_digest_39 : decode cX8_digest 39 = .ok (.lstore_n 1, 1) := by decide +kernel
theorem dX8_digest_40 : decode cX8_digest 40 = .ok (.ldc2_w 294, 3) := by decide +kernel
theorem dX8_digest_43 : decode cX8_digest 43 = .ok (.lload_n 1, 1) := by decide +kernel
theorem dX8_digest_44 : decode cX8_digest 44 = .ok (.lmul, 1) := by decide +kernel
theorem dX8_digest_45 : decode cX8_digest 45 = .ok (.aload_n 0, 1) := by decide +kernel
theorem dX8_digest_46 : decode cX8_digest 46 = .ok (.getfield 277, 3) := by decide +kernel
theorem dX8_digest_49 : decode cX8_digest 49 = .ok (.ladd, 1) := by decide +kernel
theorem dX8_digest_50 : decode cX8_digest 50 = .ok (.lstore_n 1, 1) := by decide +kernel
theorem dX8_digest_51 : decode cX8_digest 51 = .ok (.ldc2_w 294, 3) := by decide +kernel
theorem dX8_digest_54 : decode cX8_digest 54 = .ok (.lload_n 1, 1) := by decide +kernel
theorem dX8_digest_55 : decode cX8_digest 55 = .ok (.lmul, 1) := by decide +kernel
theorem dX8_digest_56 : decode cX8_digest 56 = .ok (.aload_n 0, 1) := by decide +kernel
theorem dX8_digest_57 : decode cX8_digest 57 = .ok (.getfield 67, 3) := by decide +kernel
theorem dX8_digest_60 : decode cX8_digest 60 = .ok (.ladd, 1) := by decide +kernel
theorem dX8_digest_61 : decode cX8_digest 61 = .ok (.lreturn, 1) := by decide +kernel
theorem dX8_within_0 : decode cX8_within 0 = .ok (.iload_n 0, 1) := by decide +kernel
theorem dX8_within_1 : decode cX8_within 1 = .ok (.iload_n 1, 1) := by decide +kernel
theorem dX8_within_2 : decode cX8_within 2 = .ok (.if_icmp .lt 12, 3) := by decide +kernel
theorem dX8_within_5 : decode cX8_within 5 = .ok (.iload_n 0, 1) := by decide +kernel
theorem dX8_within_6 : decode cX8_within 6 = .ok (.iload_n 2, 1) := by decide +kernel
theorem dX8_within_7 : decode cX8_within 7 = .ok (.if_icmp .gt 7, 3) := by decide +kernel
theorem dX8_within_10 : decode cX8_within 10 = .ok (.iconst 1, 1) := by decide +kernel
theorem dX8_within_11 : decode cX8_within 11 = .ok (.goto 4, 3) := by decide +kernel
theorem dX8_within_14 : decode cX8_within 14 = .ok (.iconst 0, 1) := by decide +kernel
theorem dX8_within_15 : decode cX8_within 15 = .ok (.ireturn, 1) := by decide +kernel
set_option maxRecDepth 20000 in
theorem ggX8_isCell_X8_within : GoodIn wsX8_isCell wsX8_within := goodIn_r _ [4] (by decide +kernel) (by decide +kernel)
set_option maxRecDepth 20000 in
theorem gX8_isCell_X8_within : GoodIn wsX8_isCell (va_wsS RX8 78 yX8_within wsX8_within) := goodIn_app (goodIn_of _ (by decide +kernel)) ggX8_isCell_X8_within
theorem dX8_isCell_0 : decode cX8_isCell 0 = .ok (.iload_n 0, 1) := by decide +kernel
theorem dX8_isCell_1 : decode cX8_isCell 1 = .ok (.iconst 0, 1) := by decide +kernel
theorem dX8_isCell_2 : decode cX8_isCell 2 = .ok (.bipush 24, 2) := by decide +kernel
theorem dX8_isCell_4 : decode cX8_isCell 4 = .ok (.invokestatic 78, 3) := by decide +kernel
theorem dX8_isCell_7 : decode cX8_isCell 7 = .ok (.ireturn, 1) := by decide +kernel
set_option maxRecDepth 20000 in
theorem ggX8_isFamily_X8_within : GoodIn wsX8_isFamily wsX8_within := goodIn_r _ [6] (by decide +kernel) (by decide +kernel)
set_option maxRecDepth 20000 in
theorem gX8_isFamily_X8_within : GoodIn wsX8_isFamily (va_wsS RX8 78 yX8_within wsX8_within) := goodIn_app (goodIn_of _ (by decide +kernel)) ggX8_isFamily_X8_within
theorem dX8_isFamily_0 : decode cX8_isFamily 0 = .ok (.iload_n 1, 1) := by decide +kernel
theorem dX8_isFamily_1 : decode cX8_isFamily 1 = .ok (.iconst 0, 1) := by decide +kernel
theorem dX8_isFamily_2 : decode cX8_isFamily 2 = .ok (.aload_n 0, 1) := by decide +kernel
theorem dX8_isFamily_3 : decode cX8_isFamily 3 = .ok (.getfield 10, 3) := by decide +kernel
theorem dX8_isFamily_6 : decode cX8_isFamily 6 = .ok (.getfield 71, 3) := by decide +kernel
theorem dX8_isFamily_9 : decode cX8_isFamily 9 = .ok (.iconst 1, 1) := by decide +kernel
theorem dX8_isFamily_10 : decode cX8_isFamily 10 = .ok (.isub, 1) := by decide +kernel
theorem dX8_isFamily_11 : decode cX8_isFamily 11 = .ok (.invokestatic 78, 3) := by decide +kernel
theorem dX8_isFamily_14 : decode cX8_isFamily 14 = .ok (.ireturn, 1) := by decide +kernel
set_option maxRecDepth 20000 in
theorem ggX8_isFlitch_X8_within : GoodIn wsX8_isFlitch wsX8_within := goodIn_r _ [6] (by decide +kernel) (by decide +kernel)
set_option maxRecDepth 20000 in
theorem gX8_isFlitch_X8_within : GoodIn wsX8_isFlitch (va_wsS RX8 78 yX8_within wsX8_within) := goodIn_app (goodIn_of _ (by decide +kernel)) ggX8_isFlitch_X8_within
theorem dX8_isFlitch_0 : decode cX8_isFlitch 0 = .ok (.iload_n 1, 1) := by decide +kernel
theorem dX8_isFlitch_1 : decode cX8_isFlitch 1 = .ok (.iconst 0, 1) := by decide +kernel
theorem dX8_isFlitch_2 : decode cX8_isFlitch 2 = .ok (.aload_n 0, 1) := by decide +kernel
theorem dX8_isFlitch_3 : decode cX8_isFlitch 3 = .ok (.getfield 10, 3) := by decide +kernel
theorem dX8_isFlitch_6 : decode cX8_isFlitch 6 = .ok (.getfield 90, 3) := by decide +kernel
theorem dX8_isFlitch_9 : decode cX8_isFlitch 9 = .ok (.iconst 1, 1) := by decide +kernel
theorem dX8_isFlitch_10 : decode cX8_isFlitch 10 = .ok (.isub, 1) := by decide +kernel
theorem dX8_isFlitch_11 : decode cX8_isFlitch 11 = .ok (.invokestatic 78, 3) := by decide +kernel
theorem dX8_isFlitch_14 : decode cX8_isFlitch 14 = .ok (.ireturn, 1) := by decide +kernel
theorem dX8_bad_0 : decode cX8_bad 0 = .ok (.aload_n 0, 1) := by decide +kernel
theorem dX8_bad_1 : decode cX8_bad 1 = .ok (.dup, 1) := by decide +kernel
theorem dX8_bad_2 : decode cX8_bad 2 = .ok (.getfield 280, 3) := by decide +kernel
theorem dX8_bad_5 : decode cX8_bad 5 = .ok (.iconst 1, 1) := by decide +kernel
theorem dX8_bad_6 : decode cX8_bad 6 = .ok (.iadd, 1) := by decide +kernel
theorem dX8_bad_7 : decode cX8_bad 7 = .ok (.putfield 280, 3) := by decide +kernel
theorem dX8_bad_10 : decode cX8_bad 10 = .ok (.bipush (-2), 2) := by decide +kernel
theorem dX8_bad_12 : decode cX8_bad 12 = .ok (.ireturn, 1) := by decide +kernel
theorem dX8_badApart_0 : decode cX8_badApart 0 = .ok (.aload_n 0, 1) := by decide +kernel
theorem dX8_badApart_1 : decode cX8_badApart 1 = .ok (.dup, 1) := by decide +kernel
theorem dX8_badApart_2 : decode cX8_badApart 2 = .ok (.getfield 280, 3) := by decide +kernel
theorem dX8_badApart_5 : decode cX8_badApart 5 = .ok (.iconst 1, 1) := by decide +kernel
theorem dX8_badApart_6 : decode cX8_badApart 6 = .ok (.iadd, 1) := by decide +kernel
theorem dX8_badApart_7 : decode cX8_badApart 7 = .ok (.putfield 280, 3) := by decide +kernel
theorem dX8_badApart_10 : decode cX8_badApart 10 = .ok (.bipush (-10), 2) := by decide +kernel
theorem dX8_badApart_12 : decode cX8_badApart 12 = .ok (.ireturn, 1) := by decide +kernel
theorem dX8_no_0 : decode cX8_no 0 = .ok (.aload_n 0, 1) := by decide +kernel
theorem dX8_no_1 : decode cX8_no 1 = .ok (.dup, 1) := by decide +kernel
theorem dX8_no_2 : decode cX8_no 2 = .ok (.getfield 283, 3) := by decide +kernel
theorem dX8_no_5 : decode cX8_no 5 = .ok (.iconst 1, 1) := by decide +kernel
theorem dX8_no_6 : decode cX8_no 6 = .ok (.iadd, 1) := by decide +kernel
theorem dX8_no_7 : decode cX8_no 7 = .ok (.putfield 283, 3) := by decide +kernel
theorem dX8_no_10 : decode cX8_no 10 = .ok (.bipush (-3), 2) := by decide +kernel
theorem dX8_no_12 : decode cX8_no 12 = .ok (.ireturn, 1) := by decide +kernel
theorem dX8_full_0 : decode cX8_full 0 = .ok (.aload_n 0, 1) := by decide +kernel
theorem dX8_full_1 : decode cX8_full 1 = .ok (.dup, 1) := by decide +kernel
theorem dX8_full_2 : decode cX8_full 2 = .ok (.getfield 286, 3) := by decide +kernel
theorem dX8_full_5 : decode cX8_full 5 = .ok (.iconst 1, 1) := by decide +kernel
theorem dX8_full_6 : decode cX8_full 6 = .ok (.iadd, 1) := by decide +kernel
theorem dX8_full_7 : decode cX8_full 7 = .ok (.putfield 286, 3) := by decide +kernel
theorem dX8_full_10 : decode cX8_full 10 = .ok (.bipush (-4), 2) := by decide +kernel
theorem dX8_full_12 : decode cX8_full 12 = .ok (.ireturn, 1) := by decide +kernel
set_option maxRecDepth 20000 in
theorem ggX8_entered_X6_isFull : GoodIn wsX8_entered wsX6_isFull := goodIn_r _ [6, 7, 8, 25, 26, 27, 28] (by decide +kernel) (by decide +kernel)
set_option maxRecDepth 20000 in
theorem gX8_entered_X6_isFull : GoodIn wsX8_entered (wsV RX8 300 RX6 yX6_isFull wsX6_isFull) := goodIn_app (goodIn_of _ (by decide +kernel)) ggX8_entered_X6_isFull
set_option maxRecDepth 20000 in
theorem ggX8_entered_X8_full : GoodIn wsX8_entered wsX8_full := goodIn_r _ [13, 14, 29, 30, 31, 32, 33, 34, 35, 36, 37, 38, 39, 40, 41, 42, 43] (by decide +kernel) (by decide +kernel)
set_option maxRecDepth 20000 in
theorem gX8_entered_X8_full : GoodIn wsX8_entered (wsV RX8 93 RX8 yX8_full wsX8_full) := goodIn_app (goodIn_of _ (by decide +kernel)) ggX8_entered_X8_full
set_option maxRecDepth 20000 in
theorem ggX8_entered_X6_enter : GoodIn wsX8_entered wsX6_enter := goodIn_r _ [18, 7, 19, 20, 21, 22, 5, 23, 24, 25, 26, 27, 28] (by decide +kernel) (by decide +kernel)
set_option maxRecDepth 20000 in
theorem gX8_entered_X6_enter : GoodIn wsX8_entered (wsV RX8 303 RX6 yX6_enter wsX6_enter) := goodIn_app (goodIn_of _ (by decide +kernel)) ggX8_entered_X6_enter
theorem dX8_entered_0 : decode cX8_entered 0 = .ok (.aload_n 1, 1) := by decide +kernel
theorem dX8_entered_1 : decode cX8_entered 1 = .ok (.invokevirtual 300, 3) := by decide +kernel
theorem dX8_entered_4 : decode cX8_entered 4 = .ok (.ifCond .eq 8, 3) := by decide +kernel
theorem dX8_entered_7 : decode cX8_entered 7 = .ok (.aload_n 0, 1) := by decide +kernel
theorem dX8_entered_8 : decode cX8_entered 8 = .ok (.invokevirtual 93, 3) := by decide +kernel
theorem dX8_entered_11 : decode cX8_entered 11 = .ok (.ireturn, 1) := by decide +kernel
theorem dX8_entered_12 : decode cX8_entered 12 = .ok (.aload_n 1, 1) := by decide +kernel
theorem dX8_entered_13 : decode cX8_entered 13 = .ok (.iload_n 2, 1) := by decide +kernel
theorem dX8_entered_14 : decode cX8_entered 14 = .ok (.iload_n 3, 1) := by decide +kernel
theorem dX8_entered_15 : decode cX8_entered 15 = .ok (.iload 4, 2) := by decide +kernel
theorem dX8_entered_17 : decode cX8_entered 17 = .ok (.iload 5, 2) := by decide +kernel
theorem dX8_entered_19 : decode cX8_entered 19 = .ok (.iload 6, 2) := by decide +kernel
theorem dX8_entered_21 : decode cX8_entered 21 = .ok (.invokevirtual 303, 3) := by decide +kernel
theorem dX8_entered_24 : decode cX8_entered 24 = .ok (.aload_n 1, 1) := by decide +kernel
theorem dX8_entered_25 : decode cX8_entered 25 = .ok (.getfield 240, 3) := by decide +kernel
theorem dX8_entered_28 : decode cX8_entered 28 = .ok (.ireturn, 1) := by decide +kernel
theorem dX8_restingPairs_0 : decode cX8_restingPairs 0 = .ok (.iconst 0, 1) := by decide +kernel
theorem dX8_restingPairs_1 : decode cX8_restingPairs 1 = .ok (.istore_n 2, 1) := by decide +kernel
theorem dX8_restingPairs_2 : decode cX8_restingPairs 2 = .ok (.iload_n 1, 1) := by decide +kernel
theorem dX8_restingPairs_3 : decode cX8_restingPairs 3 = .ok (.bipush 9, 2) := by decide +kernel
theorem dX8_restingPairs_5 : decode cX8_restingPairs 5 = .ok (.if_icmp .gt 7, 3) := by decide +kernel
theorem dX8_restingPairs_8 : decode cX8_restingPairs 8 = .ok (.iload_n 2, 1) := by decide +kernel
theorem dX8_restingPairs_9 : decode cX8_restingPairs 9 = .ok (.iconst 2, 1) := by decide +kernel
theorem dX8_restingPairs_10 : decode cX8_restingPairs 10 = .ok (.ior, 1) := by decide +kernel
theorem dX8_restingPairs_11 : decode cX8_restingPairs 11 = .ok (.istore_n 2, 1) := by decide +kernel
theorem dX8_restingPairs_12 : decode cX8_restingPairs 12 = .ok (.iload_n 0, 1) := by decide +kernel
theorem dX8_restingPairs_13 : decode cX8_restingPairs 13 = .ok (.bipush 9, 2) := by decide +kernel
theorem dX8_restingPairs_15 : decode cX8_restingPairs 15 = .ok (.if_icmp .gt 7, 3) := by decide +kernel
theorem dX8_restingPairs_18 : decode cX8_restingPairs 18 = .ok (.iload_n 2, 1) := by decide +kernel
theorem dX8_restingPairs_19 : decode cX8_restingPairs 19 = .ok (.iconst 4, 1) := by decide +kernel
theorem dX8_restingPairs_20 : decode cX8_restingPairs 20 = .ok (.ior, 1) := by decide +kernel
theorem dX8_restingPairs_21 : decode cX8_restingPairs 21 = .ok (.istore_n 2, 1) := by decide +kernel
theorem dX8_restingPairs_22 : decode cX8_restingPairs 22 = .ok (.iload_n 0, 1) := by decide +kernel
theorem dX8_restingPairs_23 : decode cX8_restingPairs 23 = .ok (.bipush 9, 2) := by decide +kernel
theorem dX8_restingPairs_25 : decode cX8_restingPairs 25 = .ok (.if_icmp .lt 14, 3) := by decide +kernel
theorem dX8_restingPairs_28 : decode cX8_restingPairs 28 = .ok (.iload_n 1, 1) := by decide +kernel
theorem dX8_restingPairs_29 : decode cX8_restingPairs 29 = .ok (.bipush 9, 2) := by decide +kernel
theorem dX8_restingPairs_31 : decode cX8_restingPairs 31 = .ok (.if_icmp .lt 8, 3) := by decide +kernel
theorem dX8_restingPairs_34 : decode cX8_restingPairs 34 = .ok (.iload_n 2, 1) := by decide +kernel
theorem dX8_restingPairs_35 : decode cX8_restingPairs 35 = .ok (.bipush 8, 2) := by decide +kernel
theorem dX8_restingPairs_37 : decode cX8_restingPairs 37 = .ok (.ior, 1) := by decide +kernel
theorem dX8_restingPairs_38 : decode cX8_restingPairs 38 = .ok (.istore_n 2, 1) := by decide +kernel
theorem dX8_restingPairs_39 : decode cX8_restingPairs 39 = .ok (.iload_n 2, 1) := by decide +kernel
theorem dX8_restingPairs_40 : decode cX8_restingPairs 40 = .ok (.ireturn, 1) := by decide +kernel
theorem dX8_keepFraction_0 : decode cX8_keepFraction 0 = .ok (.lload_n 3, 1) := by decide +kernel
theorem dX8_keepFraction_1 : decode cX8_keepFraction 1 = .ok (.lstore 5, 2) := by decide +kernel
theorem dX8_keepFraction_3 : decode cX8_keepFraction 3 = .ok (.lload_n 1, 1) := by decide +kernel
theorem dX8_keepFraction_4 : decode cX8_keepFraction 4 = .ok (.lstore 7, 2) := by decide +kernel
theorem dX8_keepFraction_6 : decode cX8_keepFraction 6 = .ok (.iconst 0, 1) := by decide +kernel
theorem dX8_keepFraction_7 : decode cX8_keepFraction 7 = .ok (.istore 9, 2) := by decide +kernel
theorem dX8_keepFraction_9 : decode cX8_keepFraction 9 = .ok (.iload 9, 2) := by decide +kernel
theorem dX8_keepFraction_11 : decode cX8_keepFraction 11 = .ok (.bipush 100, 2) := by decide +kernel
theorem dX8_keepFraction_13 : decode cX8_keepFraction 13 = .ok (.if_icmp .ge 31, 3) := by decide +kernel
theorem dX8_keepFraction_16 : decode cX8_keepFraction 16 = .ok (.lload 7, 2) := by decide +kernel
theorem dX8_keepFraction_18 : decode cX8_keepFraction 18 = .ok (.lconst 0, 1) := by decide +kernel
theorem dX8_keepFraction_19 : decode cX8_keepFraction 19 = .ok (.lcmp, 1) := by decide +kernel
theorem dX8_keepFraction_20 : decode cX8_keepFraction 20 = .ok (.ifCond .eq 24, 3) := by decide +kernel
theorem dX8_keepFraction_23 : decode cX8_keepFraction 23 = .ok (.lload 5, 2) := by decide +kernel
theorem dX8_keepFraction_25 : decode cX8_keepFraction 25 = .ok (.lload 7, 2) := by decide +kernel
theorem dX8_keepFraction_27 : decode cX8_keepFraction 27 = .ok (.lrem, 1) := by decide +kernel
theorem dX8_keepFraction_28 : decode cX8_keepFraction 28 = .ok (.lstore 10, 2) := by decide +kernel
theorem dX8_keepFraction_30 : decode cX8_keepFraction 30 = .ok (.lload 7, 2) := by decide +kernel
theorem dX8_keepFraction_32 : decode cX8_keepFraction 32 = .ok (.lstore 5, 2) := by decide +kernel
theorem dX8_keepFraction_34 : decode cX8_keepFraction 34 = .ok (.lload 10, 2) := by decide +kernel
theorem dX8_keepFraction_36 : decode cX8_keepFraction 36 = .ok (.lstore 7, 2) := by decide +kernel
theorem dX8_keepFraction_38 : decode cX8_keepFraction 38 = .ok (.iinc 9 1, 3) := by decide +kernel
theorem dX8_keepFraction_41 : decode cX8_keepFraction 41 = .ok (.goto (-32), 3) := by decide +kernel
theorem dX8_keepFraction_44 : decode cX8_keepFraction 44 = .ok (.lload 5, 2) := by decide +kernel
theorem dX8_keepFraction_46 : decode cX8_keepFraction 46 = .ok (.lconst 0, 1) := by decide +kernel
theorem dX8_keepFraction_47 : decode cX8_keepFraction 47 = .ok (.lcmp, 1) := by decide +kernel
theorem dX8_keepFraction_48 : decode cX8_keepFraction 48 = .ok (.ifCond .le 19, 3) := by decide +kernel
theorem dX8_keepFraction_51 : decode cX8_keepFraction 51 = .ok (.aload_n 0, 1) := by decide +kernel
theorem dX8_keepFraction_52 : decode cX8_keepFraction 52 = .ok (.lload_n 1, 1) := by decide +kernel
theorem dX8_keepFraction_53 : decode cX8_keepFraction 53 = .ok (.lload 5, 2) := by decide +kernel
theorem dX8_keepFraction_55 : decode cX8_keepFraction 55 = .ok (.ldiv, 1) := by decide +kernel
theorem dX8_keepFraction_56 : decode cX8_keepFraction 56 = .ok (.putfield 277, 3) := by decide +kernel
theorem dX8_keepFraction_59 : decode cX8_keepFraction 59 = .ok (.aload_n 0, 1) := by decide +kernel
theorem dX8_keepFraction_60 : decode cX8_keepFraction 60 = .ok (.lload_n 3, 1) := by decide +kernel
theorem dX8_keepFraction_61 : decode cX8_keepFraction 61 = .ok (.lload 5, 2) := by decide +kernel
theorem dX8_keepFraction_63 : decode cX8_keepFraction 63 = .ok (.ldiv, 1) := by decide +kernel
theorem dX8_keepFraction_64 : decode cX8_keepFraction 64 = .ok (.putfield 67, 3) := by decide +kernel
theorem dX8_keepFraction_67 : decode cX8_keepFraction 67 = .ok (.return_, 1) := by decide +kernel
set_option maxRecDepth 20000 in
theorem ggX8_countOf_J6_bitCount_0f7a4 : GoodIn wsX8_countOf wsJ6_bitCount_0f7a4 := goodIn_r _ [15, 16, 17, 18] (by decide +kernel) (by decide +kernel)
set_option maxRecDepth 20000 in
theorem gX8_countOf_J6_bitCount_0f7a4 : GoodIn wsX8_countOf (va_wsS RX8 307 yJ6_bitCount_0f7a4 wsJ6_bitCount_0f7a4) := goodIn_app (goodIn_of _ (by decide +kernel)) ggX8_countOf_J6_bitCount_0f7a4
set_option maxRecDepth 20000 in
theorem ggX8_countOf_X4_lapsedCount : GoodIn wsX8_countOf wsX4_lapsedCount := goodIn_r _ [23, 24, 25, 26, 27, 22, 28, 29, 49, 50, 51, 52, 53, 54, 55, 56, 57, 58, 59, 60, 61, 62, 63] (by decide +kernel) (by decide +kernel)
set_option maxRecDepth 20000 in
theorem gX8_countOf_X4_lapsedCount : GoodIn wsX8_countOf (wsV RX8 124 RX4 yX4_lapsedCount wsX4_lapsedCount) := goodIn_app (goodIn_of _ (by decide +kernel)) ggX8_countOf_X4_lapsedCount
set_option maxRecDepth 20000 in
theorem ggX8_countOf_X4_willOfAll : GoodIn wsX8_countOf wsX4_willOfAll := goodIn_r _ [33, 29, 24, 49, 50, 51, 52, 53, 54, 55, 56, 57, 58, 59, 60, 61, 62, 63] (by decide +kernel) (by decide +kernel)
set_option maxRecDepth 20000 in
theorem gX8_countOf_X4_willOfAll : GoodIn wsX8_countOf (wsV RX8 312 RX4 yX4_willOfAll wsX4_willOfAll) := goodIn_app (goodIn_of _ (by decide +kernel)) ggX8_countOf_X4_willOfAll
theorem dX8_countOf_0 : decode cX8_countOf 0 = .ok (.iload_n 1, 1) := by decide +kernel
theorem dX8_countOf_1 : decode cX8_countOf 1 = .ok (.tableswitch 150 0 9 #[55, 63, 71, 82, 90, 98, 106, 117, 128, 139], 55) := by decide +kernel
theorem dX8_countOf_56 : decode cX8_countOf 56 = .ok (.aload_n 0, 1) := by decide +kernel
theorem dX8_countOf_57 : decode cX8_countOf 57 = .ok (.getfield 10, 3) := by decide +kernel
theorem dX8_countOf_60 : decode cX8_countOf 60 = .ok (.getfield 71, 3) := by decide +kernel
theorem dX8_countOf_63 : decode cX8_countOf 63 = .ok (.ireturn, 1) := by decide +kernel
theorem dX8_countOf_64 : decode cX8_countOf 64 = .ok (.aload_n 0, 1) := by decide +kernel
theorem dX8_countOf_65 : decode cX8_countOf 65 = .ok (.getfield 10, 3) := by decide +kernel
theorem dX8_countOf_68 : decode cX8_countOf 68 = .ok (.getfield 90, 3) := by decide +kernel
theorem dX8_countOf_71 : decode cX8_countOf 71 = .ok (.ireturn, 1) := by decide +kernel
theorem dX8_countOf_72 : decode cX8_countOf 72 = .ok (.aload_n 0, 1) := by decide +kernel
theorem dX8_countOf_73 : decode cX8_countOf 73 = .ok (.getfield 10, 3) := by decide +kernel
theorem dX8_countOf_76 : decode cX8_countOf 76 = .ok (.getfield 174, 3) := by decide +kernel
theorem dX8_countOf_79 : decode cX8_countOf 79 = .ok (.invokestatic 307, 3) := by decide +kernel
theorem dX8_countOf_82 : decode cX8_countOf 82 = .ok (.ireturn, 1) := by decide +kernel
theorem dX8_countOf_83 : decode cX8_countOf 83 = .ok (.aload_n 0, 1) := by decide +kernel
theorem dX8_countOf_84 : decode cX8_countOf 84 = .ok (.getfield 10, 3) := by decide +kernel
theorem dX8_countOf_87 : decode cX8_countOf 87 = .ok (.invokevirtual 124, 3) := by decide +kernel
theorem dX8_countOf_90 : decode cX8_countOf 90 = .ok (.ireturn, 1) := by decide +kernel
theorem dX8_countOf_91 : decode cX8_countOf 91 = .ok (.aload_n 0, 1) := by decide +kernel
theorem dX8_countOf_92 : decode cX8_countOf 92 = .ok (.getfield 10, 3) := by decide +kernel
theorem dX8_countOf_95 : decode cX8_countOf 95 = .ok (.getfield 162, 3) := by decide +kernel
theorem dX8_countOf_98 : decode cX8_countOf 98 = .ok (.ireturn, 1) := by decide +kernel
theorem dX8_countOf_99 : decode cX8_countOf 99 = .ok (.aload_n 0, 1) := by decide +kernel
theorem dX8_countOf_100 : decode cX8_countOf 100 = .ok (.getfield 10, 3) := by decide +kernel
theorem dX8_countOf_103 : decode cX8_countOf 103 = .ok (.invokevirtual 312, 3) := by decide +kernel
theorem dX8_countOf_106 : decode cX8_countOf 106 = .ok (.ireturn, 1) := by decide +kernel
theorem dX8_countOf_107 : decode cX8_countOf 107 = .ok (.aload_n 0, 1) := by decide +kernel
theorem dX8_countOf_108 : decode cX8_countOf 108 = .ok (.getfield 10, 3) := by decide +kernel
theorem dX8_countOf_111 : decode cX8_countOf 111 = .ok (.getfield 223, 3) := by decide +kernel
theorem dX8_countOf_114 : decode cX8_countOf 114 = .ok (.getfield 240, 3) := by decide +kernel
theorem dX8_countOf_117 : decode cX8_countOf 117 = .ok (.ireturn, 1) := by decide +kernel
theorem dX8_countOf_118 : decode cX8_countOf 118 = .ok (.aload_n 0, 1) := by decide +kernel
theorem dX8_countOf_119 : decode cX8_countOf 119 = .ok (.getfield 10, 3) := by decide +kernel
theorem dX8_countOf_122 : decode cX8_countOf 122 = .ok (.getfield 234, 3) := by decide +kernel
theorem dX8_countOf_125 : decode cX8_countOf 125 = .ok (.getfield 240, 3) := by decide +kernel
theorem dX8_countOf_128 : decode cX8_countOf 128 = .ok (.ireturn, 1) := by decide +kernel
theorem dX8_countOf_129 : decode cX8_countOf 129 = .ok (.aload_n 0, 1) := by decide +kernel
theorem dX8_countOf_130 : decode cX8_countOf 130 = .ok (.getfield 10, 3) := by decide +kernel
theorem dX8_countOf_133 : decode cX8_countOf 133 = .ok (.getfield 237, 3) := by decide +kernel
theorem dX8_countOf_136 : decode cX8_countOf 136 = .ok (.getfield 240, 3) := by decide +kernel
theorem dX8_countOf_139 : decode cX8_countOf 139 = .ok (.ireturn, 1) := by decide +kernel
theorem dX8_countOf_140 : decode cX8_countOf 140 = .ok (.aload_n 0, 1) := by decide +kernel
theorem dX8_countOf_141 : decode cX8_countOf 141 = .ok (.getfield 10, 3) := by decide +kernel
theorem dX8_countOf_144 : decode cX8_countOf 144 = .ok (.getfield 315, 3) := by decide +kernel
theorem dX8_countOf_147 : decode cX8_countOf 147 = .ok (.getfield 240, 3) := by decide +kernel
theorem dX8_countOf_150 : decode cX8_countOf 150 = .ok (.ireturn, 1) := by decide +kernel
theorem dX8_countOf_151 : decode cX8_countOf 151 = .ok (.aload_n 0, 1) := by decide +kernel
theorem dX8_countOf_152 : decode cX8_countOf 152 = .ok (.getfield 104, 3) := by decide +kernel
theorem dX8_countOf_155 : decode cX8_countOf 155 = .ok (.ireturn, 1) := by decide +kernel
theorem dX9_init_0 : decode cX9_init 0 = .ok (.aload_n 0, 1) := by decide +kernel
theorem dX9_init_1 : decode cX9_init 1 = .ok (.invokespecial 1, 3) := by decide +kernel
theorem dX9_init_4 : decode cX9_init 4 = .ok (.aload_n 0, 1) := by decide +kernel
theorem dX9_init_5 : decode cX9_init 5 = .ok (.sipush 770, 3) := by decide +kernel
theorem dX9_init_8 : decode cX9_init 8 = .ok (.newarray .int, 2) := by decide +kernel
theorem dX9_init_10 : decode cX9_init 10 = .ok (.putfield 7, 3) := by decide +kernel
theorem dX9_init_13 : decode cX9_init 13 = .ok (.aload_n 0, 1) := by decide +kernel
theorem dX9_init_14 : decode cX9_init 14 = .ok (.iconst 2, 1) := by decide +kernel
theorem dX9_init_15 : decode cX9_init 15 = .ok (.newarray .boolean, 2) := by decide +kernel
theorem dX9_init_17 : decode cX9_init 17 = .ok (.putfield 13, 3) := by decide +kernel
theorem dX9_init_20 : decode cX9_init 20 = .ok (.aload_n 0, 1) := by decide +kernel
theorem dX9_init_21 : decode cX9_init 21 = .ok (.iconst 3, 1) := by decide +kernel
theorem dX9_init_22 : decode cX9_init 22 = .ok (.newarray .int, 2) := by decide +kernel
theorem dX9_init_24 : decode cX9_init 24 = .ok (.putfield 17, 3) := by decide +kernel
theorem dX9_init_27 : decode cX9_init 27 = .ok (.aload_n 0, 1) := by decide +kernel
theorem dX9_init_28 : decode cX9_init 28 = .ok (.lconst 1, 1) := by decide +kernel
theorem dX9_init_29 : decode cX9_init 29 = .ok (.putfield 20, 3) := by decide +kernel
theorem dX9_init_32 : decode cX9_init 32 = .ok (.aload_n 0, 1) := by decide +kernel
theorem dX9_init_33 : decode cX9_init 33 = .ok (.sipush 150, 3) := by decide +kernel
theorem dX9_init_36 : decode cX9_init 36 = .ok (.newarray .int, 2) := by decide +kernel
theorem dX9_init_38 : decode cX9_init 38 = .ok (.putfield 24, 3) := by decide +kernel
theorem dX9_init_41 : decode cX9_init 41 = .ok (.aload_n 0, 1) := by decide +kernel
theorem dX9_init_42 : decode cX9_init 42 = .ok (.bipush 30, 2) := by decide +kernel
theorem dX9_init_44 : decode cX9_init 44 = .ok (.newarray .int, 2) := by decide +kernel
theorem dX9_init_46 : decode cX9_init 46 = .ok (.dup, 1) := by decide +kernel
theorem dX9_init_47 : decode cX9_init 47 = .ok (.iconst 0, 1) := by decide +kernel
theorem dX9_init_48 : decode cX9_init 48 = .ok (.bipush 112, 2) := by decide +kernel
theorem dX9_init_50 : decode cX9_init 50 = .ok (.iastore, 1) := by decide +kernel
theorem dX9_init_51 : decode cX9_init 51 = .ok (.dup, 1) := by decide +kernel
theorem dX9_init_52 : decode cX9_init 52 = .ok (.iconst 1, 1) := by decide +kernel
theorem dX9_init_53 : decode cX9_init 53 = .ok (.bipush 97, 2) := by decide +kernel
theorem dX9_init_55 : decode cX9_init 55 = .ok (.iastore, 1) := by decide +kernel
theorem dX9_init_56 : decode cX9_init 56 = .ok (.dup, 1) := by decide +kernel
theorem dX9_init_57 : decode cX9_init 57 = .ok (.iconst 2, 1) := by decide +kernel
theorem dX9_init_58 : decode cX9_init 58 = .ok (.bipush 114, 2) := by decide +kernel
theorem dX9_init_60 : decode cX9_init 60 = .ok (.iastore, 1) := by decide +kernel
theorem dX9_init_61 : decode cX9_init 61 = .ok (.dup, 1) := by decide +kernel
theorem dX9_init_62 : decode cX9_init 62 = .ok (.iconst 3, 1) := by decide +kernel
theorem dX9_init_63 : decode cX9_init 63 = .ok (.bipush 105, 2) := by decide +kernel
theorem dX9_init_65 : decode cX9_init 65 = .ok (.iastore, 1) := by decide +kernel
theorem dX9_init_66 : decode cX9_init 66 = .ok (.dup, 1) := by decide +kernel
theorem dX9_init_67 : decode cX9_init 67 = .ok (.iconst 4, 1) := by decide +kernel
theorem dX9_init_68 : decode cX9_init 68 = .ok (.bipush 115, 2) := by decide +kernel
theorem dX9_init_70 : decode cX9_init 70 = .ok (.iastore, 1) := by decide +kernel
theorem dX9_init_71 : decode cX9_init 71 = .ok (.dup, 1) := by decide +kernel
theorem dX9_init_72 : decode cX9_init 72 = .ok (.iconst 5, 1) := by decide +kernel
theorem dX9_init_73 : decode cX9_init 73 = .ok (.bipush 104, 2) := by decide +kernel
theorem dX9_init_75 : decode cX9_init 75 = .ok (.iastore, 1) := by decide +kernel
theorem dX9_init_76 : decode cX9_init 76 = .ok (.dup, 1) := by decide +kernel
theorem dX9_init_77 : decode cX9_init 77 = .ok (.bipush 6, 2) := by decide +kernel
theorem dX9_init_79 : decode cX9_init 79 = .ok (.bipush 102, 2) := by decide +kernel
theorem dX9_init_81 : decode cX9_init 81 = .ok (.iastore, 1) := by decide +kernel
theorem dX9_init_82 : decode cX9_init 82 = .ok (.dup, 1) := by decide +kernel
theorem dX9_init_83 : decode cX9_init 83 = .ok (.bipush 7, 2) := by decide +kernel
theorem dX9_init_85 : decode cX9_init 85 = .ok (.bipush 108, 2) := by decide +kernel
theorem dX9_init_87 : decode cX9_init 87 = .ok (.iastore, 1) := by decide +kernel
theorem dX9_init_88 : decode cX9_init 88 = .ok (.dup, 1) := by decide +kernel
theorem dX9_init_89 : decode cX9_init 89 = .ok (.bipush 8, 2) := by decide +kernel
theorem dX9_init_91 : decode cX9_init 91 = .ok (.bipush 105, 2) := by decide +kernel
theorem dX9_init_93 : decode cX9_init 93 = .ok (.iastore, 1) := by decide +kernel
theorem dX9_init_94 : decode cX9_init 94 = .ok (.dup, 1) := by decide +kernel
theorem dX9_init_95 : decode cX9_init 95 = .ok (.bipush 9, 2) := by decide +kernel
theorem dX9_init_97 : decode cX9_init 97 = .ok (.bipush 116, 2) := by decide +kernel
theorem dX9_init_99 : decode cX9_init 99 = .ok (.iastore, 1) := by decide +kernel
theorem dX9_init_100 : decode cX9_init 100 = .ok (.dup, 1) := by decide +kernel
theorem dX9_init_101 : decode cX9_init 101 = .ok (.bipush 10, 2) := by decide +kernel
theorem dX9_init_103 : decode cX9_init 103 = .ok (.bipush 99, 2) := by decide +kernel
theorem dX9_init_105 : decode cX9_init 105 = .ok (.iastore, 1) := by decide +kernel
theorem dX9_init_106 : decode cX9_init 106 = .ok (.dup, 1) := by decide +kernel
theorem dX9_init_107 : decode cX9_init 107 = .ok (.bipush 11, 2) := by decide +kernel
theorem dX9_init_109 : decode cX9_init 109 = .ok (.bipush 104, 2) := by decide +kernel
theorem dX9_init_111 : decode cX9_init 111 = .ok (.iastore, 1) := by decide +kernel
theorem dX9_init_112 : decode cX9_init 112 = .ok (.dup, 1) := by decide +kernel
theorem dX9_init_113 : decode cX9_init 113 = .ok (.bipush 12, 2) := by decide +kernel
theorem dX9_init_115 : decode cX9_init 115 = .ok (.bipush 102, 2) := by decide +kernel
theorem dX9_init_117 : decode cX9_init 117 = .ok (.iastore, 1) := by decide +kernel
theorem dX9_init_118 : decode cX9_init 118 = .ok (.dup, 1) := by decide +kernel
theorem dX9_init_119 : decode cX9_init 119 = .ok (.bipush 13, 2) := by decide +kernel
theorem dX9_init_121 : decode cX9_init 121 = .ok (.bipush 97, 2) := by decide +kernel
theorem dX9_init_123 : decode cX9_init 123 = .ok (.iastore, 1) := by decide +kernel
theorem dX9_init_124 : decode cX9_init 124 = .ok (.dup, 1) := by decide +kernel
theorem dX9_init_125 : decode cX9_init 125 = .ok (.bipush 14, 2) := by decide +kernel
theorem dX9_init_127 : decode cX9_init 127 = .ok (.bipush 109, 2) := by decide +kernel
theorem dX9_init_129 : decode cX9_init 129 = .ok (.iastore, 1) := by decide +kernel
theorem dX9_init_130 : decode cX9_init 130 = .ok (.dup, 1) := by decide +kernel
theorem dX9_init_131 : decode cX9_init 131 = .ok (.bipush 15, 2) := by decide +kernel
theorem dX9_init_133 : decode cX9_init 133 = .ok (.bipush 105, 2) := by decide +kernel
theorem dX9_init_135 : decode cX9_init 135 = .ok (.iastore, 1) := by decide +kernel
theorem dX9_init_136 : decode cX9_init 136 = .ok (.dup, 1) := by decide +kernel
theorem dX9_init_137 : decode cX9_init 137 = .ok (.bipush 16, 2) := by decide +kernel
theorem dX9_init_139 : decode cX9_init 139 = .ok (.bipush 108, 2) := by decide +kernel
theorem dX9_init_141 : decode cX9_init 141 = .ok (.iastore, 1) := by decide +kernel
theorem dX9_init_142 : decode cX9_init 142 = .ok (.dup, 1) := by decide +kernel
theorem dX9_init_143 : decode cX9_init 143 = .ok (.bipush 17, 2) := by decide +kernel
theorem dX9_init_145 : decode cX9_init 145 = .ok (.bipush 121, 2) := by decide +kernel
theorem dX9_init_147 : decode cX9_init 147 = .ok (.iastore, 1) := by decide +kernel
theorem dX9_init_148 : decode cX9_init 148 = .ok (.dup, 1) := by decide +kernel
theorem dX9_init_149 : decode cX9_init 149 = .ok (.bipush 18, 2) := by decide +kernel
theorem dX9_init_151 : decode cX9_init 151 = .ok (.bipush 111, 2) := by decide +kernel
theorem dX9_init_153 : decode cX9_init 153 = .ok (.iastore, 1) := by decide +kernel
theorem dX9_init_154 : decode cX9_init 154 = .ok (.dup, 1) := by decide +kernel
theorem dX9_init_155 : decode cX9_init 155 = .ok (.bipush 19, 2) := by decide +kernel
theorem dX9_init_157 : decode cX9_init 157 = .ok (.bipush 117, 2) := by decide +kernel
theorem dX9_init_159 : decode cX9_init 159 = .ok (.iastore, 1) := by decide +kernel
theorem dX9_init_160 : decode cX9_init 160 = .ok (.dup, 1) := by decide +kernel
theorem dX9_init_161 : decode cX9_init 161 = .ok (.bipush 20, 2) := by decide +kernel
theorem dX9_init_163 : decode cX9_init 163 = .ok (.bipush 116, 2) := by decide +kernel
theorem dX9_init_165 : decode cX9_init 165 = .ok (.iastore, 1) := by decide +kernel
theorem dX9_init_166 : decode cX9_init 166 = .ok (.dup, 1) := by decide +kernel
theorem dX9_init_167 : decode cX9_init 167 = .ok (.bipush 21, 2) := by decide +kernel
theorem dX9_init_169 : decode cX9_init 169 = .ok (.iconst 0, 1) := by decide +kernel
theorem dX9_init_170 : decode cX9_init 170 = .ok (.iastore, 1) := by decide +kernel
theorem dX9_init_171 : decode cX9_init 171 = .ok (.dup, 1) := by decide +kernel
theorem dX9_init_172 : decode cX9_init 172 = .ok (.bipush 22, 2) := by decide +kernel
theorem dX9_init_174 : decode cX9_init 174 = .ok (.iconst 0, 1) := by decide +kernel
theorem dX9_init_175 : decode cX9_init 175 = .ok (.iastore, 1) := by decide +kernel
theorem dX9_init_176 : decode cX9_init 176 = .ok (.dup, 1) := by decide +kernel
theorem dX9_init_177 : decode cX9_init 177 = .ok (.bipush 23, 2) := by decide +kernel
theorem dX9_init_179 : decode cX9_init 179 = .ok (.iconst 0, 1) := by decide +kernel
theorem dX9_init_180 : decode cX9_init 180 = .ok (.iastore, 1) := by decide +kernel
theorem dX9_init_181 : decode cX9_init 181 = .ok (.dup, 1) := by decide +kernel
theorem dX9_init_182 : decode cX9_init 182 = .ok (.bipush 24, 2) := by decide +kernel
theorem dX9_init_184 : decode cX9_init 184 = .ok (.bipush 100, 2) := by decide +kernel
theorem dX9_init_186 : decode cX9_init 186 = .ok (.iastore, 1) := by decide +kernel
theorem dX9_init_187 : decode cX9_init 187 = .ok (.dup, 1) := by decide +kernel
theorem dX9_init_188 : decode cX9_init 188 = .ok (.bipush 25, 2) := by decide +kernel
theorem dX9_init_190 : decode cX9_init 190 = .ok (.bipush 97, 2) := by decide +kernel
theorem dX9_init_192 : decode cX9_init 192 = .ok (.iastore, 1) := by decide +kernel
theorem dX9_init_193 : decode cX9_init 193 = .ok (.dup, 1) := by decide +kernel
theorem dX9_init_194 : decode cX9_init 194 = .ok (.bipush 26, 2) := by decide +kernel
theorem dX9_init_196 : decode cX9_init 196 = .ok (.bipush 121, 2) := by decide +kernel
theorem dX9_init_198 : decode cX9_init 198 = .ok (.iastore, 1) := by decide +kernel
theorem dX9_init_199 : decode cX9_init 199 = .ok (.dup, 1) := by decide +kernel
theorem dX9_init_200 : decode cX9_init 200 = .ok (.bipush 27, 2) := by decide +kernel
theorem dX9_init_202 : decode cX9_init 202 = .ok (.bipush 115, 2) := by decide +kernel
theorem dX9_init_204 : decode cX9_init 204 = .ok (.iastore, 1) := by decide +kernel
theorem dX9_init_205 : decode cX9_init 205 = .ok (.dup, 1) := by decide +kernel
theorem dX9_init_206 : decode cX9_init 206 = .ok (.bipush 28, 2) := by decide +kernel
theorem dX9_init_208 : decode cX9_init 208 = .ok (.iconst 0, 1) := by decide +kernel
theorem dX9_init_209 : decode cX9_init 209 = .ok (.iastore, 1) := by decide +kernel
theorem dX9_init_210 : decode cX9_init 210 = .ok (.dup, 1) := by decide +kernel
theorem dX9_init_211 : decode cX9_init 211 = .ok (.bipush 29, 2) := by decide +kernel
theorem dX9_init_213 : decode cX9_init 213 = .ok (.iconst 0, 1) := by decide +kernel
theorem dX9_init_214 : decode cX9_init 214 = .ok (.iastore, 1) := by decide +kernel
theorem dX9_init_215 : decode cX9_init 215 = .ok (.putfield 27, 3) := by decide +kernel
theorem dX9_init_218 : decode cX9_init 218 = .ok (.aload_n 0, 1) := by decide +kernel
theorem dX9_init_219 : decode cX9_init 219 = .ok (.bipush 25, 2) := by decide +kernel
theorem dX9_init_221 : decode cX9_init 221 = .ok (.newarray .int, 2) := by decide +kernel
theorem dX9_init_223 : decode cX9_init 223 = .ok (.putfield 30, 3) := by decide +kernel
theorem dX9_init_226 : decode cX9_init 226 = .ok (.aload_n 0, 1) := by decide +kernel
theorem dX9_init_227 : decode cX9_init 227 = .ok (.bipush 25, 2) := by decide +kernel
theorem dX9_init_229 : decode cX9_init 229 = .ok (.newarray .int, 2) := by decide +kernel
theorem dX9_init_231 : decode cX9_init 231 = .ok (.putfield 33, 3) := by decide +kernel
theorem dX9_init_234 : decode cX9_init 234 = .ok (.aload_n 0, 1) := by decide +kernel
theorem dX9_init_235 : decode cX9_init 235 = .ok (.bipush 7, 2) := by decide +kernel
theorem dX9_init_237 : decode cX9_init 237 = .ok (.newarray .int, 2) := by decide +kernel
theorem dX9_init_239 : decode cX9_init 239 = .ok (.putfield 36, 3) := by decide +kernel
theorem dX9_init_242 : decode cX9_init 242 = .ok (.aload_n 0, 1) := by decide +kernel
theorem dX9_init_243 : decode cX9_init 243 = .ok (.bipush 7, 2) := by decide +kernel
theorem dX9_init_245 : decode cX9_init 245 = .ok (.newarray .int, 2) := by decide +kernel
theorem dX9_init_247 : decode cX9_init 247 = .ok (.putfield 39, 3) := by decide +kernel
theorem dX9_init_250 : decode cX9_init 250 = .ok (.aload_n 0, 1) := by decide +kernel
theorem dX9_init_251 : decode cX9_init 251 = .ok (.bipush 6, 2) := by decide +kernel
theorem dX9_init_253 : decode cX9_init 253 = .ok (.newarray .int, 2) := by decide +kernel
theorem dX9_init_255 : decode cX9_init 255 = .ok (.putfield 42, 3) := by decide +kernel
theorem dX9_init_258 : decode cX9_init 258 = .ok (.return_, 1) := by decide +kernel
theorem dX9_in_0 : decode cX9_in 0 = .ok (.iload_n 0, 1) := by decide +kernel
theorem dX9_in_1 : decode cX9_in 1 = .ok (.iload_n 1, 1) := by decide +kernel
theorem dX9_in_2 : decode cX9_in 2 = .ok (.if_icmp .lt 12, 3) := by decide +kernel
theorem dX9_in_5 : decode cX9_in 5 = .ok (.iload_n 0, 1) := by decide +kernel
theorem dX9_in_6 : decode cX9_in 6 = .ok (.iload_n 2, 1) := by decide +kernel
theorem dX9_in_7 : decode cX9_in 7 = .ok (.if_icmp .gt 7, 3) := by decide +kernel
theorem dX9_in_10 : decode cX9_in 10 = .ok (.iconst 1, 1) := by decide +kernel
theorem dX9_in_11 : decode cX9_in 11 = .ok (.goto 4, 3) := by decide +kernel
theorem dX9_in_14 : decode cX9_in 14 = .ok (.iconst 0, 1) := by decide +kernel
theorem dX9_in_15 : decode cX9_in 15 = .ok (.ireturn, 1) := by decide +kernel
theorem dX9_has_0 : decode cX9_has 0 = .ok (.iload_n 0, 1) := by decide +kernel
theorem dX9_has_1 : decode cX9_has 1 = .ok (.iload_n 1, 1) := by decide +kernel
theorem dX9_has_2 : decode cX9_has 2 = .ok (.ishr, 1) := by decide +kernel
theorem dX9_has_3 : decode cX9_has 3 = .ok (.iconst 1, 1) := by decide +kernel
theorem dX9_has_4 : decode cX9_has 4 = .ok (.iand, 1) := by decide +kernel
theorem dX9_has_5 : decode cX9_has 5 = .ok (.iconst 1, 1) := by decide +kernel
theorem dX9_has_6 : decode cX9_has 6 = .ok (.if_icmp .ne 7, 3) := by decide +kernel
theorem dX9_has_9 : decode cX9_has 9 = .ok (.iconst 1, 1) := by decide +kernel
theorem dX9_has_10 : decode cX9_has 10 = .ok (.goto 4, 3) := by decide +kernel
theorem dX9_has_13 : decode cX9_has 13 = .ok (.iconst 0, 1) := by decide +kernel
theorem dX9_has_14 : decode cX9_has 14 = .ok (.ireturn, 1) := by decide +kernel
theorem dX9_bits_0 : decode cX9_bits 0 = .ok (.iconst 0, 1) := by decide +kernel
theorem dX9_bits_1 : decode cX9_bits 1 = .ok (.istore_n 1, 1) := by decide +kernel
theorem dX9_bits_2 : decode cX9_bits 2 = .ok (.iconst 0, 1) := by decide +kernel
theorem dX9_bits_3 : decode cX9_bits 3 = .ok (.istore_n 2, 1) := by decide +kernel
theorem dX9_bits_4 : decode cX9_bits 4 = .ok (.iload_n 2, 1) := by decide +kernel
theorem dX9_bits_5 : decode cX9_bits 5 = .ok (.bipush 8, 2) := by decide +kernel
theorem dX9_bits_7 : decode cX9_bits 7 = .ok (.if_icmp .ge 17, 3) := by decide +kernel
theorem dX9_bits_10 : decode cX9_bits 10 = .ok (.iload_n 1, 1) := by decide +kernel
theorem dX9_bits_11 : decode cX9_bits 11 = .ok (.iload_n 0, 1) := by decide +kernel
theorem dX9_bits_12 : decode cX9_bits 12 = .ok (.iload_n 2, 1) := by decide +kernel
theorem dX9_bits_13 : decode cX9_bits 13 = .ok (.ishr, 1) := by decide +kernel
theorem dX9_bits_14 : decode cX9_bits 14 = .ok (.iconst 1, 1) := by decide +kernel
theorem dX9_bits_15 : decode cX9_bits 15 = .ok (.iand, 1) := by decide +kernel
theorem dX9_bits_16 : decode cX9_bits 16 = .ok (.iadd, 1) := by decide +kernel
theorem dX9_bits_17 : decode cX9_bits 17 = .ok (.istore_n 1, 1) := by decide +kernel
theorem dX9_bits_18 : decode cX9_bits 18 = .ok (.iinc 2 1, 3) := by decide +kernel
theorem dX9_bits_21 : decode cX9_bits 21 = .ok (.goto (-17), 3) := by decide +kernel
theorem dX9_bits_24 : decode cX9_bits 24 = .ok (.iload_n 1, 1) := by decide +kernel
theorem dX9_bits_25 : decode cX9_bits 25 = .ok (.ireturn, 1) := by decide +kernel
theorem dX9_refuse_0 : decode cX9_refuse 0 = .ok (.aload_n 0, 1) := by decide +kernel
theorem dX9_refuse_1 : decode cX9_refuse 1 = .ok (.getfield 17, 3) := by decide +kernel
theorem dX9_refuse_4 : decode cX9_refuse 4 = .ok (.iload_n 1, 1) := by decide +kernel
theorem dX9_refuse_5 : decode cX9_refuse 5 = .ok (.bipush (-3), 2) := by decide +kernel
theorem dX9_refuse_7 : decode cX9_refuse 7 = .ok (.if_icmp .ne 7, 3) := by decide +kernel
theorem dX9_refuse_10 : decode cX9_refuse 10 = .ok (.iconst 1, 1) := by decide +kernel
theorem dX9_refuse_11 : decode cX9_refuse 11 = .ok (.goto 14, 3) := by decide +kernel
theorem dX9_refuse_14 : decode cX9_refuse 14 = .ok (.iload_n 1, 1) := by decide +kernel
theorem dX9_refuse_15 : decode cX9_refuse 15 = .ok (.bipush (-4), 2) := by decide +kernel
theorem dX9_refuse_17 : decode cX9_refuse 17 = .ok (.if_icmp .ne 7, 3) := by decide +kernel
theorem dX9_refuse_20 : decode cX9_refuse 20 = .ok (.iconst 2, 1) := by decide +kernel
theorem dX9_refuse_21 : decode cX9_refuse 21 = .ok (.goto 4, 3) := by decide +kernel
theorem dX9_refuse_24 : decode cX9_refuse 24 = .ok (.iconst 0, 1) := by decide +kernel
theorem dX9_refuse_25 : decode cX9_refuse 25 = .ok (.dup2, 1) := by decide +kernel
theorem dX9_refuse_26 : decode cX9_refuse 26 = .ok (.iaload, 1) := by decide +kernel
theorem dX9_refuse_27 : decode cX9_refuse 27 = .ok (.iconst 1, 1) := by decide +kernel
theorem dX9_refuse_28 : decode cX9_refuse 28 = .ok (.iadd, 1) := by decide +kernel
theorem dX9_refuse_29 : decode cX9_refuse 29 = .ok (.iastore, 1) := by decide +kernel
theorem dX9_refuse_30 : decode cX9_refuse 30 = .ok (.iload_n 1, 1) := by decide +kernel
theorem dX9_refuse_31 : decode cX9_refuse 31 = .ok (.ireturn, 1) := by decide +kernel
set_option maxRecDepth 20000 in
theorem ggX9_badAs_X9_refuse : GoodIn wsX9_badAs wsX9_refuse := goodIn_r _ [5, 6, 7, 8, 9, 10, 11, 12, 13, 14, 15, 16, 17, 18, 19, 20, 21, 22, 23, 24] (by decide +kernel) (by decide +kernel)
set_option maxRecDepth 20000 in
theorem gX9_badAs_X9_refuse : GoodIn wsX9_badAs (wsV RX9 45 RX9 yX9_refuse wsX9_refuse) := goodIn_app (goodIn_of _ (by decide +kernel)) ggX9_badAs_X9_refuse
theorem dX9_badAs_0 : decode cX9_badAs 0 = .ok (.aload_n 0, 1) := by decide +kernel
theorem dX9_badAs_1 : decode cX9_badAs 1 = .ok (.bipush (-2), 2) := by decide +kernel
theorem dX9_badAs_3 : decode cX9_badAs 3 = .ok (.invokevirtual 45, 3) := by decide +kernel
theorem dX9_badAs_6 : decode cX9_badAs 6 = .ok (.pop, 1) := by decide +kernel
theorem dX9_badAs_7 : decode cX9_badAs 7 = .ok (.iload_n 1, 1) := by decide +kernel
theorem dX9_badAs_8 : decode cX9_badAs 8 = .ok (.ireturn, 1) := by decide +kernel
theorem dX9_layParish_0 : decode cX9_layParish 0 = .ok (.iconst 0, 1) := by decide +kernel
theorem dX9_layParish_1 : decode cX9_layParish 1 = .ok (.istore_n 1, 1) := by decide +kernel
theorem dX9_layParish_2 : decode cX9_layParish 2 = .ok (.iload_n 1, 1) := by decide +kernel
theorem dX9_layParish_3 : decode cX9_layParish 3 = .ok (.sipush 251, 3) := by decide +kernel
theorem dX9_layParish_6 : decode cX9_layParish 6 = .ok (.if_icmp .ge 16, 3) := by decide +kernel
theorem dX9_layParish_9 : decode cX9_layParish 9 = .ok (.aload_n 0, 1) := by decide +kernel
theorem dX9_layParish_10 : decode cX9_layParish 10 = .ok (.getfield 7, 3) := by decide +kernel
theorem dX9_layParish_13 : decode cX9_layParish 13 = .ok (.iload_n 1, 1) := by decide +kernel
theorem dX9_layParish_14 : decode cX9_layParish 14 = .ok (.iconst 0, 1) := by decide +kernel
theorem dX9_layParish_15 : decode cX9_layParish 15 = .ok (.iastore, 1) := by decide +kernel
theorem dX9_layParish_16 : decode cX9_layParish 16 = .ok (.iinc 1 1, 3) := by decide +kernel
theorem dX9_layParish_19 : decode cX9_layParish 19 = .ok (.goto (-17), 3) := by decide +kernel
theorem dX9_layParish_22 : decode cX9_layParish 22 = .ok (.return_, 1) := by decide +kernel
set_option maxRecDepth 20000 in
theorem ggX9_parish_X9_layParish : GoodIn wsX9_parish wsX9_layParish := goodIn_r _ [6, 1, 7, 8, 9, 10, 11, 12, 13, 14, 15, 16, 17, 18, 19, 20, 21, 22, 23, 24] (by decide +kernel) (by decide +kernel)
set_option maxRecDepth 20000 in
theorem gX9_parish_X9_layParish : GoodIn wsX9_parish (wsV RX9 49 RX9 yX9_layParish wsX9_layParish) := goodIn_app (goodIn_of _ (by decide +kernel)) ggX9_parish_X9_layParish
theorem dX9_parish_0 : decode cX9_parish 0 = .ok (.aload_n 0, 1) := by decide +kernel
theorem dX9_parish_1 : decode cX9_parish 1 = .ok (.getfield 7, 3) := by decide +kernel
theorem dX9_parish_4 : decode cX9_parish 4 = .ok (.bipush 27, 2) := by decide +kernel
theorem dX9_parish_6 : decode cX9_parish 6 = .ok (.iaload, 1) := by decide +kernel
theorem dX9_parish_7 : decode cX9_parish 7 = .ok (.istore_n 1, 1) := by decide +kernel
theorem dX9_parish_8 : decode cX9_parish 8 = .ok (.aload_n 0, 1) := by decide +kernel
theorem dX9_parish_9 : decode cX9_parish 9 = .ok (.invokevirtual 49, 3) := by decide +kernel
theorem dX9_parish_12 : decode cX9_parish 12 = .ok (.iload_n 1, 1) := by decide +kernel
theorem dX9_parish_13 : decode cX9_parish 13 = .ok (.ireturn, 1) := by decide +kernel
theorem dX9_addFlitch_0 : decode cX9_addFlitch 0 = .ok (.aload_n 0, 1) := by decide +kernel
theorem dX9_addFlitch_1 : decode cX9_addFlitch 1 = .ok (.getfield 7, 3) := by decide +kernel
theorem dX9_addFlitch_4 : decode cX9_addFlitch 4 = .ok (.bipush 17, 2) := by decide +kernel
theorem dX9_addFlitch_6 : decode cX9_addFlitch 6 = .ok (.iaload, 1) := by decide +kernel
theorem dX9_addFlitch_7 : decode cX9_addFlitch 7 = .ok (.istore 4, 2) := by decide +kernel
theorem dX9_addFlitch_9 : decode cX9_addFlitch 9 = .ok (.aload_n 0, 1) := by decide +kernel
theorem dX9_addFlitch_10 : decode cX9_addFlitch 10 = .ok (.getfield 7, 3) := by decide +kernel
theorem dX9_addFlitch_13 : decode cX9_addFlitch 13 = .ok (.bipush 18, 2) := by decide +kernel
theorem dX9_addFlitch_15 : decode cX9_addFlitch 15 = .ok (.iload 4, 2) := by decide +kernel
theorem dX9_addFlitch_17 : decode cX9_addFlitch 17 = .ok (.iadd, 1) := by decide +kernel
theorem dX9_addFlitch_18 : decode cX9_addFlitch 18 = .ok (.iload_n 1, 1) := by decide +kernel
theorem dX9_addFlitch_19 : decode cX9_addFlitch 19 = .ok (.iastore, 1) := by decide +kernel
theorem dX9_addFlitch_20 : decode cX9_addFlitch 20 = .ok (.aload_n 0, 1) := by decide +kernel
theorem dX9_addFlitch_21 : decode cX9_addFlitch 21 = .ok (.getfield 7, 3) := by decide +kernel
theorem dX9_addFlitch_24 : decode cX9_addFlitch 24 = .ok (.bipush 21, 2) := by decide +kernel
theorem dX9_addFlitch_26 : decode cX9_addFlitch 26 = .ok (.iload 4, 2) := by decide +kernel
theorem dX9_addFlitch_28 : decode cX9_addFlitch 28 = .ok (.iadd, 1) := by decide +kernel
theorem dX9_addFlitch_29 : decode cX9_addFlitch 29 = .ok (.iload_n 2, 1) := by decide +kernel
theorem dX9_addFlitch_30 : decode cX9_addFlitch 30 = .ok (.iastore, 1) := by decide +kernel
theorem dX9_addFlitch_31 : decode cX9_addFlitch 31 = .ok (.aload_n 0, 1) := by decide +kernel
theorem dX9_addFlitch_32 : decode cX9_addFlitch 32 = .ok (.getfield 7, 3) := by decide +kernel
theorem dX9_addFlitch_35 : decode cX9_addFlitch 35 = .ok (.bipush 24, 2) := by decide +kernel
theorem dX9_addFlitch_37 : decode cX9_addFlitch 37 = .ok (.iload 4, 2) := by decide +kernel
theorem dX9_addFlitch_39 : decode cX9_addFlitch 39 = .ok (.iadd, 1) := by decide +kernel
theorem dX9_addFlitch_40 : decode cX9_addFlitch 40 = .ok (.iload_n 3, 1) := by decide +kernel
theorem dX9_addFlitch_41 : decode cX9_addFlitch 41 = .ok (.iastore, 1) := by decide +kernel
theorem dX9_addFlitch_42 : decode cX9_addFlitch 42 = .ok (.aload_n 0, 1) := by decide +kernel
theorem dX9_addFlitch_43 : decode cX9_addFlitch 43 = .ok (.getfield 7, 3) := by decide +kernel
theorem dX9_addFlitch_46 : decode cX9_addFlitch 46 = .ok (.bipush 15, 2) := by decide +kernel
theorem dX9_addFlitch_48 : decode cX9_addFlitch 48 = .ok (.dup2, 1) := by decide +kernel
theorem dX9_addFlitch_49 : decode cX9_addFlitch 49 = .ok (.iaload, 1) := by decide +kernel
theorem dX9_addFlitch_50 : decode cX9_addFlitch 50 = .ok (.iconst 1, 1) := by decide +kernel
theorem dX9_addFlitch_51 : decode cX9_addFlitch 51 = .ok (.iload 4, 2) := by decide +kernel
theorem dX9_addFlitch_53 : decode cX9_addFlitch 53 = .ok (.ishl, 1) := by decide +kernel
theorem dX9_addFlitch_54 : decode cX9_addFlitch 54 = .ok (.ior, 1) := by decide +kernel
theorem dX9_addFlitch_55 : decode cX9_addFlitch 55 = .ok (.iastore, 1) := by decide +kernel
theorem dX9_addFlitch_56 : decode cX9_addFlitch 56 = .ok (.aload_n 0, 1) := by decide +kernel
theorem dX9_addFlitch_57 : decode cX9_addFlitch 57 = .ok (.getfield 7, 3) := by decide +kernel
theorem dX9_addFlitch_60 : decode cX9_addFlitch 60 = .ok (.bipush 17, 2) := by decide +kernel
theorem dX9_addFlitch_62 : decode cX9_addFlitch 62 = .ok (.dup2, 1) := by decide +kernel
theorem dX9_addFlitch_63 : decode cX9_addFlitch 63 = .ok (.iaload, 1) := by decide +kernel
theorem dX9_addFlitch_64 : decode cX9_addFlitch 64 = .ok (.iconst 1, 1) := by decide +kernel
theorem dX9_addFlitch_65 : decode cX9_addFlitch 65 = .ok (.iadd, 1) := by decide +kernel
theorem dX9_addFlitch_66 : decode cX9_addFlitch 66 = .ok (.iastore, 1) := by decide +kernel
theorem dX9_addFlitch_67 : decode cX9_addFlitch 67 = .ok (.aload_n 0, 1) := by decide +kernel
theorem dX9_addFlitch_68 : decode cX9_addFlitch 68 = .ok (.getfield 7, 3) := by decide +kernel
theorem dX9_addFlitch_71 : decode cX9_addFlitch 71 = .ok (.bipush 114, 2) := by decide +kernel
theorem dX9_addFlitch_73 : decode cX9_addFlitch 73 = .ok (.iconst 0, 1) := by decide +kernel
theorem dX9_addFlitch_74 : decode cX9_addFlitch 74 = .ok (.iastore, 1) := by decide +kernel
theorem dX9_addFlitch_75 : decode cX9_addFlitch 75 = .ok (.return_, 1) := by decide +kernel
set_option maxRecDepth 20000 in
theorem ggX9_flitch_X9_in : GoodIn wsX9_flitch wsX9_in := goodIn_r _ [5] (by decide +kernel) (by decide +kernel)
set_option maxRecDepth 20000 in
theorem gX9_flitch_X9_in : GoodIn wsX9_flitch (va_wsS RX9 52 yX9_in wsX9_in) := goodIn_app (goodIn_of _ (by decide +kernel)) ggX9_flitch_X9_in
set_option maxRecDepth 20000 in
theorem ggX9_flitch_X9_refuse : GoodIn wsX9_flitch wsX9_refuse := goodIn_r _ [9, 10, 15, 16, 17, 18, 19, 20, 21, 22, 23, 24, 25, 26, 27, 28, 29, 30, 31, 32] (by decide +kernel) (by decide +kernel)
set_option maxRecDepth 20000 in
theorem gX9_flitch_X9_refuse : GoodIn wsX9_flitch (wsV RX9 45 RX9 yX9_refuse wsX9_refuse) := goodIn_app (goodIn_of _ (by decide +kernel)) ggX9_flitch_X9_refuse
set_option maxRecDepth 20000 in
theorem ggX9_flitch_X9_addFlitch : GoodIn wsX9_flitch wsX9_addFlitch := goodIn_r _ [14, 1, 15, 16, 17, 18, 19, 20, 21, 22, 23, 24, 25, 26, 27, 28, 29, 30, 31, 32] (by decide +kernel) (by decide +kernel)
set_option maxRecDepth 20000 in
theorem gX9_flitch_X9_addFlitch : GoodIn wsX9_flitch (wsV RX9 56 RX9 yX9_addFlitch wsX9_addFlitch) := goodIn_app (goodIn_of _ (by decide +kernel)) ggX9_flitch_X9_addFlitch
theorem dX9_flitch_0 : decode cX9_flitch 0 = .ok (.iload_n 1, 1) := by decide +kernel
theorem dX9_flitch_1 : decode cX9_flitch 1 = .ok (.iconst 0, 1) := by decide +kernel
theorem dX9_flitch_2 : decode cX9_flitch 2 = .ok (.iconst 5, 1) := by decide +kernel
theorem dX9_flitch_3 : decode cX9_flitch 3 = .ok (.invokestatic 52, 3) := by decide +kernel
theorem dX9_flitch_6 : decode cX9_flitch 6 = .ok (.ifCond .eq 23, 3) := by decide +kernel
theorem dX9_flitch_9 : decode cX9_flitch 9 = .ok (.iload_n 2, 1) := by decide +kernel
theorem dX9_flitch_10 : decode cX9_flitch 10 = .ok (.iconst 0, 1) := by decide +kernel
theorem dX9_flitch_11 : decode cX9_flitch 11 = .ok (.bipush 24, 2) := by decide +kernel
theorem dX9_flitch_13 : decode cX9_flitch 13 = .ok (.invokestatic 52, 3) := by decide +kernel
theorem dX9_flitch_16 : decode cX9_flitch 16 = .ok (.ifCond .eq 13, 3) := by decide +kernel
theorem dX9_flitch_19 : decode cX9_flitch 19 = .ok (.iload_n 3, 1) := by decide +kernel
theorem dX9_flitch_20 : decode cX9_flitch 20 = .ok (.iconst 1, 1) := by decide +kernel
theorem dX9_flitch_21 : decode cX9_flitch 21 = .ok (.bipush 20, 2) := by decide +kernel
theorem dX9_flitch_23 : decode cX9_flitch 23 = .ok (.invokestatic 52, 3) := by decide +kernel
theorem dX9_flitch_26 : decode cX9_flitch 26 = .ok (.ifCond .ne 10, 3) := by decide +kernel
theorem dX9_flitch_29 : decode cX9_flitch 29 = .ok (.aload_n 0, 1) := by decide +kernel
theorem dX9_flitch_30 : decode cX9_flitch 30 = .ok (.bipush (-2), 2) := by decide +kernel
theorem dX9_flitch_32 : decode cX9_flitch 32 = .ok (.invokevirtual 45, 3) := by decide +kernel
theorem dX9_flitch_35 : decode cX9_flitch 35 = .ok (.ireturn, 1) := by decide +kernel
theorem dX9_flitch_36 : decode cX9_flitch 36 = .ok (.aload_n 0, 1) := by decide +kernel
theorem dX9_flitch_37 : decode cX9_flitch 37 = .ok (.getfield 7, 3) := by decide +kernel
theorem dX9_flitch_40 : decode cX9_flitch 40 = .ok (.bipush 17, 2) := by decide +kernel
theorem dX9_flitch_42 : decode cX9_flitch 42 = .ok (.iaload, 1) := by decide +kernel
theorem dX9_flitch_43 : decode cX9_flitch 43 = .ok (.iconst 3, 1) := by decide +kernel
theorem dX9_flitch_44 : decode cX9_flitch 44 = .ok (.if_icmp .ne 10, 3) := by decide +kernel
theorem dX9_flitch_47 : decode cX9_flitch 47 = .ok (.aload_n 0, 1) := by decide +kernel
theorem dX9_flitch_48 : decode cX9_flitch 48 = .ok (.bipush (-4), 2) := by decide +kernel
theorem dX9_flitch_50 : decode cX9_flitch 50 = .ok (.invokevirtual 45, 3) := by decide +kernel
theorem dX9_flitch_53 : decode cX9_flitch 53 = .ok (.ireturn, 1) := by decide +kernel
theorem dX9_flitch_54 : decode cX9_flitch 54 = .ok (.aload_n 0, 1) := by decide +kernel
theorem dX9_flitch_55 : decode cX9_flitch 55 = .ok (.iload_n 1, 1) := by decide +kernel
theorem dX9_flitch_56 : decode cX9_flitch 56 = .ok (.iload_n 2, 1) := by decide +kernel
theorem dX9_flitch_57 : decode cX9_flitch 57 = .ok (.iload_n 3, 1) := by decide +kernel
theorem dX9_flitch_58 : decode cX9_flitch 58 = .ok (.invokevirtual 56, 3) := by decide +kernel
theorem dX9_flitch_61 : decode cX9_flitch 61 = .ok (.aload_n 0, 1) := by decide +kernel
theorem dX9_flitch_62 : decode cX9_flitch 62 = .ok (.getfield 7, 3) := by decide +kernel
theorem dX9_flitch_65 : decode cX9_flitch 65 = .ok (.bipush 17, 2) := by decide +kernel
theorem dX9_flitch_67 : decode cX9_flitch 67 = .ok (.iaload, 1) := by decide +kernel
theorem dX9_flitch_68 : decode cX9_flitch 68 = .ok (.iconst 1, 1) := by decide +kernel
theorem dX9_flitch_69 : decode cX9_flitch 69 = .ok (.isub, 1) := by decide +kernel
theorem dX9_flitch_70 : decode cX9_flitch 70 = .ok (.ireturn, 1) := by decide +kernel
theorem dX9_addFamily_0 : decode cX9_addFamily 0 = .ok (.aload_n 0, 1) := by decide +kernel
theorem dX9_addFamily_1 : decode cX9_addFamily 1 = .ok (.getfield 7, 3) := by decide +kernel
theorem dX9_addFamily_4 : decode cX9_addFamily 4 = .ok (.bipush 27, 2) := by decide +kernel
theorem dX9_addFamily_6 : decode cX9_addFamily 6 = .ok (.iaload, 1) := by decide +kernel
theorem dX9_addFamily_7 : decode cX9_addFamily 7 = .ok (.istore 5, 2) := by decide +kernel
theorem dX9_addFamily_9 : decode cX9_addFamily 9 = .ok (.aload_n 0, 1) := by decide +kernel
theorem dX9_addFamily_10 : decode cX9_addFamily 10 = .ok (.getfield 7, 3) := by decide +kernel
theorem dX9_addFamily_13 : decode cX9_addFamily 13 = .ok (.bipush 28, 2) := by decide +kernel
theorem dX9_addFamily_15 : decode cX9_addFamily 15 = .ok (.iload 5, 2) := by decide +kernel
theorem dX9_addFamily_17 : decode cX9_addFamily 17 = .ok (.iadd, 1) := by decide +kernel
theorem dX9_addFamily_18 : decode cX9_addFamily 18 = .ok (.iload_n 1, 1) := by decide +kernel
theorem dX9_addFamily_19 : decode cX9_addFamily 19 = .ok (.iastore, 1) := by decide +kernel
theorem dX9_addFamily_20 : decode cX9_addFamily 20 = .ok (.aload_n 0, 1) := by decide +kernel
theorem dX9_addFamily_21 : decode cX9_addFamily 21 = .ok (.getfield 7, 3) := by decide +kernel
theorem dX9_addFamily_24 : decode cX9_addFamily 24 = .ok (.bipush 35, 2) := by decide +kernel
theorem dX9_addFamily_26 : decode cX9_addFamily 26 = .ok (.iload 5, 2) := by decide +kernel
theorem dX9_addFamily_28 : decode cX9_addFamily 28 = .ok (.iadd, 1) := by decide +kernel
theorem dX9_addFamily_29 : decode cX9_addFamily 29 = .ok (.iload_n 2, 1) := by decide +kernel
theorem dX9_addFamily_30 : decode cX9_addFamily 30 = .ok (.iastore, 1) := by decide +kernel
theorem dX9_addFamily_31 : decode cX9_addFamily 31 = .ok (.aload_n 0, 1) := by decide +kernel
theorem dX9_addFamily_32 : decode cX9_addFamily 32 = .ok (.getfield 7, 3) := by decide +kernel
theorem dX9_addFamily_35 : decode cX9_addFamily 35 = .ok (.bipush 8, 2) := by decide +kernel
theorem dX9_addFamily_37 : decode cX9_addFamily 37 = .ok (.iload 5, 2) := by decide +kernel
theorem dX9_addFamily_39 : decode cX9_addFamily 39 = .ok (.iadd, 1) := by decide +kernel
theorem dX9_addFamily_40 : decode cX9_addFamily 40 = .ok (.iload_n 3, 1) := by decide +kernel
theorem dX9_addFamily_41 : decode cX9_addFamily 41 = .ok (.iastore, 1) := by decide +kernel
theorem dX9_addFamily_42 : decode cX9_addFamily 42 = .ok (.aload_n 0, 1) := by decide +kernel
theorem dX9_addFamily_43 : decode cX9_addFamily 43 = .ok (.getfield 7, 3) := by decide +kernel
theorem dX9_addFamily_46 : decode cX9_addFamily 46 = .ok (.iconst 0, 1) := by decide +kernel
theorem dX9_addFamily_47 : decode cX9_addFamily 47 = .ok (.iload 5, 2) := by decide +kernel
theorem dX9_addFamily_49 : decode cX9_addFamily 49 = .ok (.iadd, 1) := by decide +kernel
theorem dX9_addFamily_50 : decode cX9_addFamily 50 = .ok (.iload 4, 2) := by decide +kernel
theorem dX9_addFamily_52 : decode cX9_addFamily 52 = .ok (.iastore, 1) := by decide +kernel
theorem dX9_addFamily_53 : decode cX9_addFamily 53 = .ok (.aload_n 0, 1) := by decide +kernel
theorem dX9_addFamily_54 : decode cX9_addFamily 54 = .ok (.getfield 7, 3) := by decide +kernel
theorem dX9_addFamily_57 : decode cX9_addFamily 57 = .ok (.bipush 27, 2) := by decide +kernel
theorem dX9_addFamily_59 : decode cX9_addFamily 59 = .ok (.dup2, 1) := by decide +kernel
theorem dX9_addFamily_60 : decode cX9_addFamily 60 = .ok (.iaload, 1) := by decide +kernel
theorem dX9_addFamily_61 : decode cX9_addFamily 61 = .ok (.iconst 1, 1) := by decide +kernel
theorem dX9_addFamily_62 : decode cX9_addFamily 62 = .ok (.iadd, 1) := by decide +kernel
theorem dX9_addFamily_63 : decode cX9_addFamily 63 = .ok (.iastore, 1) := by decide +kernel
theorem dX9_addFamily_64 : decode cX9_addFamily 64 = .ok (.aload_n 0, 1) := by decide +kernel
theorem dX9_addFamily_65 : decode cX9_addFamily 65 = .ok (.getfield 7, 3) := by decide +kernel
theorem dX9_addFamily_68 : decode cX9_addFamily 68 = .ok (.bipush 114, 2) := by decide +kernel
theorem dX9_addFamily_70 : decode cX9_addFamily 70 = .ok (.iconst 0, 1) := by decide +kernel
theorem dX9_addFamily_71 : decode cX9_addFamily 71 = .ok (.iastore, 1) := by decide +kernel
theorem dX9_addFamily_72 : decode cX9_addFamily 72 = .ok (.return_, 1) := by decide +kernel
set_option maxRecDepth 20000 in
theorem ggX9_family_X9_in : GoodIn wsX9_family wsX9_in := goodIn_r _ [5] (by decide +kernel) (by decide +kernel)
set_option maxRecDepth 20000 in
theorem gX9_family_X9_in : GoodIn wsX9_family (va_wsS RX9 52 yX9_in wsX9_in) := goodIn_app (goodIn_of _ (by decide +kernel)) ggX9_family_X9_in
set_option maxRecDepth 20000 in
theorem ggX9_family_X9_refuse : GoodIn wsX9_family wsX9_refuse := goodIn_r _ [9, 10, 15, 16, 17, 18, 19, 20, 21, 22, 23, 24, 25, 26, 27, 28, 29, 30, 31, 32] (by decide +kernel) (by decide +kernel)
set_option maxRecDepth 20000 in
theorem gX9_family_X9_refuse : GoodIn wsX9_family (wsV RX9 45 RX9 yX9_refuse wsX9_refuse) := goodIn_app (goodIn_of _ (by decide +kernel)) ggX9_family_X9_refuse
set_option maxRecDepth 20000 in
theorem ggX9_family_X9_addFamily : GoodIn wsX9_family wsX9_addFamily := goodIn_r _ [14, 1, 15, 16, 17, 18, 19, 20, 21, 22, 23, 24, 25, 26, 27, 28, 29, 30, 31, 32] (by decide +kernel) (by decide +kernel)
set_option maxRecDepth 20000 in
theorem gX9_family_X9_addFamily : GoodIn wsX9_family (wsV RX9 60 RX9 yX9_addFamily wsX9_addFamily) := goodIn_app (goodIn_of _ (by decide +kernel)) ggX9_family_X9_addFamily
theorem dX9_family_0 : decode cX9_family 0 = .ok (.iload_n 1, 1) := by decide +kernel
theorem dX9_family_1 : decode cX9_family 1 = .ok (.iconst 0, 1) := by decide +kernel
theorem dX9_family_2 : decode cX9_family 2 = .ok (.iconst 5, 1) := by decide +kernel
theorem dX9_family_3 : decode cX9_family 3 = .ok (.invokestatic 52, 3) := by decide +kernel
theorem dX9_family_6 : decode cX9_family 6 = .ok (.ifCond .eq 33, 3) := by decide +kernel
theorem dX9_family_9 : decode cX9_family 9 = .ok (.iload_n 2, 1) := by decide +kernel
theorem dX9_family_10 : decode cX9_family 10 = .ok (.iconst 0, 1) := by decide +kernel
theorem dX9_family_11 : decode cX9_family 11 = .ok (.iconst 1, 1) := by decide +kernel
theorem dX9_family_12 : decode cX9_family 12 = .ok (.invokestatic 52, 3) := by decide +kernel
theorem dX9_family_15 : decode cX9_family 15 = .ok (.ifCond .eq 24, 3) := by decide +kernel
theorem dX9_family_18 : decode cX9_family 18 = .ok (.iload_n 3, 1) := by decide +kernel
theorem dX9_family_19 : decode cX9_family 19 = .ok (.iconst 0, 1) := by decide +kernel
theorem dX9_family_20 : decode cX9_family 20 = .ok (.bipush 24, 2) := by decide +kernel
theorem dX9_family_22 : decode cX9_family 22 = .ok (.invokestatic 52, 3) := by decide +kernel
theorem dX9_family_25 : decode cX9_family 25 = .ok (.ifCond .eq 14, 3) := by decide +kernel
theorem dX9_family_28 : decode cX9_family 28 = .ok (.iload 4, 2) := by decide +kernel
theorem dX9_family_30 : decode cX9_family 30 = .ok (.iconst 1, 1) := by decide +kernel
theorem dX9_family_31 : decode cX9_family 31 = .ok (.bipush 99, 2) := by decide +kernel
theorem dX9_family_33 : decode cX9_family 33 = .ok (.invokestatic 52, 3) := by decide +kernel
theorem dX9_family_36 : decode cX9_family 36 = .ok (.ifCond .ne 10, 3) := by decide +kernel
theorem dX9_family_39 : decode cX9_family 39 = .ok (.aload_n 0, 1) := by decide +kernel
theorem dX9_family_40 : decode cX9_family 40 = .ok (.bipush (-2), 2) := by decide +kernel
theorem dX9_family_42 : decode cX9_family 42 = .ok (.invokevirtual 45, 3) := by decide +kernel
theorem dX9_family_45 : decode cX9_family 45 = .ok (.ireturn, 1) := by decide +kernel
theorem dX9_family_46 : decode cX9_family 46 = .ok (.aload_n 0, 1) := by decide +kernel
theorem dX9_family_47 : decode cX9_family 47 = .ok (.getfield 7, 3) := by decide +kernel
theorem dX9_family_50 : decode cX9_family 50 = .ok (.bipush 27, 2) := by decide +kernel
theorem dX9_family_52 : decode cX9_family 52 = .ok (.iaload, 1) := by decide +kernel
theorem dX9_family_53 : decode cX9_family 53 = .ok (.bipush 7, 2) := by decide +kernel
theorem dX9_family_55 : decode cX9_family 55 = .ok (.if_icmp .ne 10, 3) := by decide +kernel
theorem dX9_family_58 : decode cX9_family 58 = .ok (.aload_n 0, 1) := by decide +kernel
theorem dX9_family_59 : decode cX9_family 59 = .ok (.bipush (-4), 2) := by decide +kernel
theorem dX9_family_61 : decode cX9_family 61 = .ok (.invokevirtual 45, 3) := by decide +kernel
theorem dX9_family_64 : decode cX9_family 64 = .ok (.ireturn, 1) := by decide +kernel
theorem dX9_family_65 : decode cX9_family 65 = .ok (.aload_n 0, 1) := by decide +kernel
theorem dX9_family_66 : decode cX9_family 66 = .ok (.iload_n 1, 1) := by decide +kernel
theorem dX9_family_67 : decode cX9_family 67 = .ok (.iload_n 2, 1) := by decide +kernel
theorem dX9_family_68 : decode cX9_family 68 = .ok (.iload_n 3, 1) := by decide +kernel
theorem dX9_family_69 : decode cX9_family 69 = .ok (.iload 4, 2) := by decide +kernel
theorem dX9_family_71 : decode cX9_family 71 = .ok (.invokevirtual 60, 3) := by decide +kernel
theorem dX9_family_74 : decode cX9_family 74 = .ok (.aload_n 0, 1) := by decide +kernel
theorem dX9_family_75 : decode cX9_family 75 = .ok (.getfield 7, 3) := by decide +kernel
theorem dX9_family_78 : decode cX9_family 78 = .ok (.bipush 27, 2) := by decide +kernel
theorem dX9_family_80 : decode cX9_family 80 = .ok (.iaload, 1) := by decide +kernel
theorem dX9_family_81 : decode cX9_family 81 = .ok (.iconst 1, 1) := by decide +kernel
theorem dX9_family_82 : decode cX9_family 82 = .ok (.isub, 1) := by decide +kernel
theorem dX9_family_83 : decode cX9_family 83 = .ok (.ireturn, 1) := by decide +kernel
set_option maxRecDepth 20000 in
theorem ggX9_type_X9_in : GoodIn wsX9_type wsX9_in := goodIn_r _ [6] (by decide +kernel) (by decide +kernel)

theorem dX7_takesNumber_35 : decode cX7_takesNumber 35 = .ok (.goto 4, 3) := by decide +kernel
theorem dX7_takesNumber_38 : decode cX7_takesNumber 38 = .ok (.iconst 0, 1) := by decide +kernel
theorem dX7_takesNumber_39 : decode cX7_takesNumber 39 = .ok (.ireturn, 1) := by decide +kernel
set_option maxRecDepth 20000 in
theorem ggX7_endsItem_X7_advance : GoodIn wsX7_endsItem wsX7_advance := goodIn_r _ [6, 7, 8, 9, 10, 11, 1, 12, 13, 5, 14, 15, 16, 17, 18, 19, 20, 21, 22, 23, 24, 25, 26, 27, 28, 29, 30, 31, 32, 33] (by decide +kernel) (by decide +kernel)
set_option maxRecDepth 20000 in
theorem gX7_endsItem_X7_advance : GoodIn wsX7_endsItem (wsV RX7 42 RX7 yX7_advance wsX7_advance) := goodIn_app (goodIn_of _ (by decide +kernel)) ggX7_endsItem_X7_advance
theorem dX7_endsItem_0 : decode cX7_endsItem 0 = .ok (.aload_n 0, 1) := by decide +kernel
theorem dX7_endsItem_1 : decode cX7_endsItem 1 = .ok (.invokevirtual 42, 3) := by decide +kernel
theorem dX7_endsItem_4 : decode cX7_endsItem 4 = .ok (.aload_n 0, 1) := by decide +kernel
theorem dX7_endsItem_5 : decode cX7_endsItem 5 = .ok (.getfield 56, 3) := by decide +kernel
theorem dX7_endsItem_8 : decode cX7_endsItem 8 = .ok (.iconst 1, 1) := by decide +kernel
theorem dX7_endsItem_9 : decode cX7_endsItem 9 = .ok (.if_icmp .ne 7, 3) := by decide +kernel
theorem dX7_endsItem_12 : decode cX7_endsItem 12 = .ok (.iconst 1, 1) := by decide +kernel
theorem dX7_endsItem_13 : decode cX7_endsItem 13 = .ok (.goto 4, 3) := by decide +kernel
theorem dX7_endsItem_16 : decode cX7_endsItem 16 = .ok (.iconst 0, 1) := by decide +kernel
theorem dX7_endsItem_17 : decode cX7_endsItem 17 = .ok (.ireturn, 1) := by decide +kernel
set_option maxRecDepth 20000 in
theorem ggX7_advance_X7_isLetter : GoodIn wsX7_advance wsX7_isLetter := goodIn_r _ [10] (by decide +kernel) (by decide +kernel)
set_option maxRecDepth 20000 in
theorem gX7_advance_X7_isLetter : GoodIn wsX7_advance (va_wsS RX7 97 yX7_isLetter wsX7_isLetter) := goodIn_app (goodIn_of _ (by decide +kernel)) ggX7_advance_X7_isLetter
set_option maxRecDepth 20000 in
theorem ggX7_advance_X7_takeLetters : GoodIn wsX7_advance wsX7_takeLetters := goodIn_r _ [14, 1, 2, 3, 6, 7, 8, 9, 10, 22, 23, 24, 25, 26, 27, 28, 29] (by decide +kernel) (by decide +kernel)
set_option maxRecDepth 20000 in
theorem gX7_advance_X7_takeLetters : GoodIn wsX7_advance (wsV RX7 101 RX7 yX7_takeLetters wsX7_takeLetters) := goodIn_app (goodIn_of _ (by decide +kernel)) ggX7_advance_X7_takeLetters
set_option maxRecDepth 20000 in
theorem ggX7_advance_X7_isFigure : GoodIn wsX7_advance wsX7_isFigure := goodIn_r _ [17] (by decide +kernel) (by decide +kernel)
set_option maxRecDepth 20000 in
theorem gX7_advance_X7_isFigure : GoodIn wsX7_advance (va_wsS RX7 104 yX7_isFigure wsX7_isFigure) := goodIn_app (goodIn_of _ (by decide +kernel)) ggX7_advance_X7_isFigure
set_option maxRecDepth 20000 in
theorem ggX7_advance_X7_takeFigures : GoodIn wsX7_advance wsX7_takeFigures := goodIn_r _ [21, 1, 2, 3, 5, 4, 6, 15, 16, 9, 17, 22, 23, 24, 25, 26, 27, 28, 29] (by decide +kernel) (by decide +kernel)
set_option maxRecDepth 20000 in
theorem gX7_advance_X7_takeFigures : GoodIn wsX7_advance (wsV RX7 107 RX7 yX7_takeFigures wsX7_takeFigures) := goodIn_app (goodIn_of _ (by decide +kernel)) ggX7_advance_X7_takeFigures
theorem dX7_advance_0 : decode cX7_advance 0 = .ok (.aload_n 0, 1) := by decide +kernel
theorem dX7_advance_1 : decode cX7_advance 1 = .ok (.getfield 39, 3) := by decide +kernel
theorem dX7_advance_4 : decode cX7_advance 4 = .ok (.aload_n 0, 1) := by decide +kernel
theorem dX7_advance_5 : decode cX7_advance 5 = .ok (.getfield 35, 3) := by decide +kernel
theorem dX7_advance_8 : decode cX7_advance 8 = .ok (.if_icmp .ge 30, 3) := by decide +kernel
theorem dX7_advance_11 : decode cX7_advance 11 = .ok (.aload_n 0, 1) := by decide +kernel
theorem dX7_advance_12 : decode cX7_advance 12 = .ok (.getfield 22, 3) := by decide +kernel
theorem dX7_advance_15 : decode cX7_advance 15 = .ok (.aload_n 0, 1) := by decide +kernel
theorem dX7_advance_16 : decode cX7_advance 16 = .ok (.getfield 39, 3) := by decide +kernel
theorem dX7_advance_19 : decode cX7_advance 19 = .ok (.baload, 1) := by decide +kernel
theorem dX7_advance_20 : decode cX7_advance 20 = .ok (.bipush 32, 2) := by decide +kernel
theorem dX7_advance_22 : decode cX7_advance 22 = .ok (.if_icmp .ne 16, 3) := by decide +kernel
theorem dX7_advance_25 : decode cX7_advance 25 = .ok (.aload_n 0, 1) := by decide +kernel
theorem dX7_advance_26 : decode cX7_advance 26 = .ok (.dup, 1) := by decide +kernel
theorem dX7_advance_27 : decode cX7_advance 27 = .ok (.getfield 39, 3) := by decide +kernel
theorem dX7_advance_30 : decode cX7_advance 30 = .ok (.iconst 1, 1) := by decide +kernel
theorem dX7_advance_31 : decode cX7_advance 31 = .ok (.iadd, 1) := by decide +kernel
theorem dX7_advance_32 : decode cX7_advance 32 = .ok (.putfield 39, 3) := by decide +kernel
theorem dX7_advance_35 : decode cX7_advance 35 = .ok (.goto (-35), 3) := by decide +kernel
theorem dX7_advance_38 : decode cX7_advance 38 = .ok (.aload_n 0, 1) := by decide +kernel
theorem dX7_advance_39 : decode cX7_advance 39 = .ok (.aload_n 0, 1) := by decide +kernel
theorem dX7_advance_40 : decode cX7_advance 40 = .ok (.getfield 39, 3) := by decide +kernel
theorem dX7_advance_43 : decode cX7_advance 43 = .ok (.putfield 53, 3) := by decide +kernel
theorem dX7_advance_46 : decode cX7_advance 46 = .ok (.aload_n 0, 1) := by decide +kernel
theorem dX7_advance_47 : decode cX7_advance 47 = .ok (.iconst 0, 1) := by decide +kernel
theorem dX7_advance_48 : decode cX7_advance 48 = .ok (.putfield 91, 3) := by decide +kernel
theorem dX7_advance_51 : decode cX7_advance 51 = .ok (.aload_n 0, 1) := by decide +kernel
theorem dX7_advance_52 : decode cX7_advance 52 = .ok (.getfield 39, 3) := by decide +kernel
theorem dX7_advance_55 : decode cX7_advance 55 = .ok (.aload_n 0, 1) := by decide +kernel
theorem dX7_advance_56 : decode cX7_advance 56 = .ok (.getfield 35, 3) := by decide +kernel
theorem dX7_advance_59 : decode cX7_advance 59 = .ok (.if_icmp .lt 11, 3) := by decide +kernel
theorem dX7_advance_62 : decode cX7_advance 62 = .ok (.aload_n 0, 1) := by decide +kernel
theorem dX7_advance_63 : decode cX7_advance 63 = .ok (.iconst 0, 1) := by decide +kernel
theorem dX7_advance_64 : decode cX7_advance 64 = .ok (.putfield 56, 3) := by decide +kernel
theorem dX7_advance_67 : decode cX7_advance 67 = .ok (.goto 80, 3) := by decide +kernel
theorem dX7_advance_70 : decode cX7_advance 70 = .ok (.aload_n 0, 1) := by decide +kernel
theorem dX7_advance_71 : decode cX7_advance 71 = .ok (.getfield 22, 3) := by decide +kernel
theorem dX7_advance_74 : decode cX7_advance 74 = .ok (.aload_n 0, 1) := by decide +kernel
theorem dX7_advance_75 : decode cX7_advance 75 = .ok (.getfield 39, 3) := by decide +kernel
theorem dX7_advance_78 : decode cX7_advance 78 = .ok (.baload, 1) := by decide +kernel
theorem dX7_advance_79 : decode cX7_advance 79 = .ok (.invokestatic 97, 3) := by decide +kernel
theorem dX7_advance_82 : decode cX7_advance 82 = .ok (.ifCond .eq 10, 3) := by decide +kernel
theorem dX7_advance_85 : decode cX7_advance 85 = .ok (.aload_n 0, 1) := by decide +kernel
theorem dX7_advance_86 : decode cX7_advance 86 = .ok (.invokevirtual 101, 3) := by decide +kernel
theorem dX7_advance_89 : decode cX7_advance 89 = .ok (.goto 58, 3) := by decide +kernel
theorem dX7_advance_92 : decode cX7_advance 92 = .ok (.aload_n 0, 1) := by decide +kernel
theorem dX7_advance_93 : decode cX7_advance 93 = .ok (.getfield 22, 3) := by decide +kernel
theorem dX7_advance_96 : decode cX7_advance 96 = .ok (.aload_n 0, 1) := by decide +kernel
theorem dX7_advance_97 : decode cX7_advance 97 = .ok (.getfield 39, 3) := by decide +kernel
theorem dX7_advance_100 : decode cX7_advance 100 = .ok (.baload, 1) := by decide +kernel
theorem dX7_advance_101 : decode cX7_advance 101 = .ok (.invokestatic 104, 3) := by decide +kernel
theorem dX7_advance_104 : decode cX7_advance 104 = .ok (.ifCond .eq 10, 3) := by decide +kernel
theorem dX7_advance_107 : decode cX7_advance 107 = .ok (.aload_n 0, 1) := by decide +kernel
theorem dX7_advance_108 : decode cX7_advance 108 = .ok (.invokevirtual 107, 3) := by decide +kernel
theorem dX7_advance_111 : decode cX7_advance 111 = .ok (.goto 36, 3) := by decide +kernel
theorem dX7_advance_114 : decode cX7_advance 114 = .ok (.aload_n 0, 1) := by decide +kernel
theorem dX7_advance_115 : decode cX7_advance 115 = .ok (.aload_n 0, 1) := by decide +kernel
theorem dX7_advance_116 : decode cX7_advance 116 = .ok (.getfield 22, 3) := by decide +kernel
theorem dX7_advance_119 : decode cX7_advance 119 = .ok (.aload_n 0, 1) := by decide +kernel
theorem dX7_advance_120 : decode cX7_advance 120 = .ok (.getfield 39, 3) := by decide +kernel
theorem dX7_advance_123 : decode cX7_advance 123 = .ok (.baload, 1) := by decide +kernel
theorem dX7_advance_124 : decode cX7_advance 124 = .ok (.bipush 59, 2) := by decide +kernel
theorem dX7_advance_126 : decode cX7_advance 126 = .ok (.if_icmp .ne 7, 3) := by decide +kernel
theorem dX7_advance_129 : decode cX7_advance 129 = .ok (.iconst 1, 1) := by decide +kernel
theorem dX7_advance_130 : decode cX7_advance 130 = .ok (.goto 4, 3) := by decide +kernel
theorem dX7_advance_133 : decode cX7_advance 133 = .ok (.iconst 4, 1) := by decide +kernel
theorem dX7_advance_134 : decode cX7_advance 134 = .ok (.putfield 56, 3) := by decide +kernel
theorem dX7_advance_137 : decode cX7_advance 137 = .ok (.aload_n 0, 1) := by decide +kernel
theorem dX7_advance_138 : decode cX7_advance 138 = .ok (.dup, 1) := by decide +kernel
theorem dX7_advance_139 : decode cX7_advance 139 = .ok (.getfield 39, 3) := by decide +kernel
theorem dX7_advance_142 : decode cX7_advance 142 = .ok (.iconst 1, 1) := by decide +kernel
theorem dX7_advance_143 : decode cX7_advance 143 = .ok (.iadd, 1) := by decide +kernel
theorem dX7_advance_144 : decode cX7_advance 144 = .ok (.putfield 39, 3) := by decide +kernel
theorem dX7_advance_147 : decode cX7_advance 147 = .ok (.return_, 1) := by decide +kernel
set_option maxRecDepth 20000 in
theorem ggX7_takeLetters_X7_isLetter : GoodIn wsX7_takeLetters wsX7_isLetter := goodIn_r _ [8] (by decide +kernel) (by decide +kernel)
set_option maxRecDepth 20000 in
theorem gX7_takeLetters_X7_isLetter : GoodIn wsX7_takeLetters (va_wsS RX7 97 yX7_isLetter wsX7_isLetter) := goodIn_app (goodIn_of _ (by decide +kernel)) ggX7_takeLetters_X7_isLetter
theorem dX7_takeLetters_0 : decode cX7_takeLetters 0 = .ok (.aload_n 0, 1) := by decide +kernel
theorem dX7_takeLetters_1 : decode cX7_takeLetters 1 = .ok (.getfield 39, 3) := by decide +kernel
theorem dX7_takeLetters_4 : decode cX7_takeLetters 4 = .ok (.aload_n 0, 1) := by decide +kernel
theorem dX7_takeLetters_5 : decode cX7_takeLetters 5 = .ok (.getfield 35, 3) := by decide +kernel
theorem dX7_takeLetters_8 : decode cX7_takeLetters 8 = .ok (.if_icmp .ge 31, 3) := by decide +kernel
theorem dX7_takeLetters_11 : decode cX7_takeLetters 11 = .ok (.aload_n 0, 1) := by decide +kernel
theorem dX7_takeLetters_12 : decode cX7_takeLetters 12 = .ok (.getfield 22, 3) := by decide +kernel
theorem dX7_takeLetters_15 : decode cX7_takeLetters 15 = .ok (.aload_n 0, 1) := by decide +kernel
theorem dX7_takeLetters_16 : decode cX7_takeLetters 16 = .ok (.getfield 39, 3) := by decide +kernel
theorem dX7_takeLetters_19 : decode cX7_takeLetters 19 = .ok (.baload, 1) := by decide +kernel
theorem dX7_takeLetters_20 : decode cX7_takeLetters 20 = .ok (.invokestatic 97, 3) := by decide +kernel
theorem dX7_takeLetters_23 : decode cX7_takeLetters 23 = .ok (.ifCond .eq 16, 3) := by decide +kernel
theorem dX7_takeLetters_26 : decode cX7_takeLetters 26 = .ok (.aload_n 0, 1) := by decide +kernel
theorem dX7_takeLetters_27 : decode cX7_takeLetters 27 = .ok (.dup, 1) := by decide +kernel
theorem dX7_takeLetters_28 : decode cX7_takeLetters 28 = .ok (.getfield 39, 3) := by decide +kernel
theorem dX7_takeLetters_31 : decode cX7_takeLetters 31 = .ok (.iconst 1, 1) := by decide +kernel
theorem dX7_takeLetters_32 : decode cX7_takeLetters 32 = .ok (.iadd, 1) := by decide +kernel
theorem dX7_takeLetters_33 : decode cX7_takeLetters 33 = .ok (.putfield 39, 3) := by decide +kernel
theorem dX7_takeLetters_36 : decode cX7_takeLetters 36 = .ok (.goto (-36), 3) := by decide +kernel
theorem dX7_takeLetters_39 : decode cX7_takeLetters 39 = .ok (.aload_n 0, 1) := by decide +kernel
theorem dX7_takeLetters_40 : decode cX7_takeLetters 40 = .ok (.iconst 3, 1) := by decide +kernel
theorem dX7_takeLetters_41 : decode cX7_takeLetters 41 = .ok (.putfield 56, 3) := by decide +kernel
theorem dX7_takeLetters_44 : decode cX7_takeLetters 44 = .ok (.return_, 1) := by decide +kernel
set_option maxRecDepth 20000 in
theorem ggX7_wordHere_X7_wordIs : GoodIn wsX7_wordHere wsX7_wordIs := goodIn_r _ [6, 7, 8, 9, 10, 11, 12, 13, 14, 15, 16, 17, 18, 19, 20, 21, 22, 23, 24, 25, 26, 27, 28, 29, 30, 31, 32, 33, 34, 35, 36, 37, 38, 39, 40, 41, 42, 43, 44, 45, 46, 47, 48, 49, 50, 51, 52, 53, 54, 55, 56, 57, 58, 59, 60, 61, 62, 63, 64, 65, 66] (by decide +kernel) (by decide +kernel)
set_option maxRecDepth 20000 in
theorem gX7_wordHere_X7_wordIs : GoodIn wsX7_wordHere (wsV RX7 112 RX7 yX7_wordIs wsX7_wordIs) := goodIn_app (goodIn_of _ (by decide +kernel)) ggX7_wordHere_X7_wordIs
theorem dX7_wordHere_0 : decode cX7_wordHere 0 = .ok (.aload_n 0, 1) := by decide +kernel
theorem dX7_wordHere_1 : decode cX7_wordHere 1 = .ok (.getfield 56, 3) := by decide +kernel
theorem dX7_wordHere_4 : decode cX7_wordHere 4 = .ok (.iconst 3, 1) := by decide +kernel
theorem dX7_wordHere_5 : decode cX7_wordHere 5 = .ok (.if_icmp .eq 5, 3) := by decide +kernel
theorem dX7_wordHere_8 : decode cX7_wordHere 8 = .ok (.iconst 0, 1) := by decide +kernel
theorem dX7_wordHere_9 : decode cX7_wordHere 9 = .ok (.ireturn, 1) := by decide +kernel
theorem dX7_wordHere_10 : decode cX7_wordHere 10 = .ok (.aload_n 0, 1) := by decide +kernel
theorem dX7_wordHere_11 : decode cX7_wordHere 11 = .ok (.ldc 110, 2) := by decide +kernel
theorem dX7_wordHere_13 : decode cX7_wordHere 13 = .ok (.invokevirtual 112, 3) := by decide +kernel
theorem dX7_wordHere_16 : decode cX7_wordHere 16 = .ok (.ifCond .eq 5, 3) := by decide +kernel
theorem dX7_wordHere_19 : decode cX7_wordHere 19 = .ok (.iconst 1, 1) := by decide +kernel
theorem dX7_wordHere_20 : decode cX7_wordHere 20 = .ok (.ireturn, 1) := by decide +kernel
theorem dX7_wordHere_21 : decode cX7_wordHere 21 = .ok (.aload_n 0, 1) := by decide +kernel
theorem dX7_wordHere_22 : decode cX7_wordHere 22 = .ok (.ldc 116, 2) := by decide +kernel
theorem dX7_wordHere_24 : decode cX7_wordHere 24 = .ok (.invokevirtual 112, 3) := by decide +kernel
theorem dX7_wordHere_27 : decode cX7_wordHere 27 = .ok (.ifCond .eq 5, 3) := by decide +kernel
theorem dX7_wordHere_30 : decode cX7_wordHere 30 = .ok (.iconst 2, 1) := by decide +kernel
theorem dX7_wordHere_31 : decode cX7_wordHere 31 = .ok (.ireturn, 1) := by decide +kernel
theorem dX7_wordHere_32 : decode cX7_wordHere 32 = .ok (.aload_n 0, 1) := by decide +kernel
theorem dX7_wordHere_33 : decode cX7_wordHere 33 = .ok (.ldc 118, 2) := by decide +kernel
theorem dX7_wordHere_35 : decode cX7_wordHere 35 = .ok (.invokevirtual 112, 3) := by decide +kernel
theorem dX7_wordHere_38 : decode cX7_wordHere 38 = .ok (.ifCond .eq 5, 3) := by decide +kernel
theorem dX7_wordHere_41 : decode cX7_wordHere 41 = .ok (.iconst 3, 1) := by decide +kernel
theorem dX7_wordHere_42 : decode cX7_wordHere 42 = .ok (.ireturn, 1) := by decide +kernel
theorem dX7_wordHere_43 : decode cX7_wordHere 43 = .ok (.aload_n 0, 1) := by decide +kernel
theorem dX7_wordHere_44 : decode cX7_wordHere 44 = .ok (.ldc 120, 2) := by decide +kernel
theorem dX7_wordHere_46 : decode cX7_wordHere 46 = .ok (.invokevirtual 112, 3) := by decide +kernel
theorem dX7_wordHere_49 : decode cX7_wordHere 49 = .ok (.ifCond .eq 5, 3) := by decide +kernel
theorem dX7_wordHere_52 : decode cX7_wordHere 52 = .ok (.iconst 4, 1) := by decide +kernel
theorem dX7_wordHere_53 : decode cX7_wordHere 53 = .ok (.ireturn, 1) := by decide +kernel
theorem dX7_wordHere_54 : decode cX7_wordHere 54 = .ok (.aload_n 0, 1) := by decide +kernel
theorem dX7_wordHere_55 : decode cX7_wordHere 55 = .ok (.ldc 122, 2) := by decide +kernel
theorem dX7_wordHere_57 : decode cX7_wordHere 57 = .ok (.invokevirtual 112, 3) := by decide +kernel
theorem dX7_wordHere_60 : decode cX7_wordHere 60 = .ok (.ifCond .eq 7, 3) := by decide +kernel
theorem dX7_wordHere_63 : decode cX7_wordHere 63 = .ok (.iconst 5, 1) := by decide +kernel
theorem dX7_wordHere_64 : decode cX7_wordHere 64 = .ok (.goto 4, 3) := by decide +kernel
theorem dX7_wordHere_67 : decode cX7_wordHere 67 = .ok (.iconst 0, 1) := by decide +kernel
theorem dX7_wordHere_68 : decode cX7_wordHere 68 = .ok (.ireturn, 1) := by decide +kernel
set_option maxRecDepth 20000 in
theorem ggX7_wordIs_J0_length_8abf5 : GoodIn wsX7_wordIs wsJ0_length_8abf5 := goodIn_r _ [8, 9, 10, 11, 12, 7, 13, 14, 15] (by decide +kernel) (by decide +kernel)
set_option maxRecDepth 20000 in
theorem gX7_wordIs_J0_length_8abf5 : GoodIn wsX7_wordIs (wsV RX7 124 RJ0 yJ0_length_8abf5 wsJ0_length_8abf5) := goodIn_app (goodIn_of _ (by decide +kernel)) ggX7_wordIs_J0_length_8abf5
set_option maxRecDepth 20000 in
theorem ggX7_wordIs_J0_charAt_5068e : GoodIn wsX7_wordIs wsJ0_charAt_5068e := goodIn_r _ [19, 9, 20, 21, 22, 7, 23, 14, 15, 24, 25, 26, 27, 28, 29, 30, 31, 32, 33, 34, 35, 36, 37, 38, 39, 40, 41, 42, 43, 44, 45, 46, 47, 48, 49, 50, 51, 52] (by decide +kernel) (by decide +kernel)
set_option maxRecDepth 20000 in
theorem gX7_wordIs_J0_charAt_5068e : GoodIn wsX7_wordIs (wsV RX7 128 RJ0 yJ0_charAt_5068e wsJ0_charAt_5068e) := goodIn_app (goodIn_of _ (by decide +kernel)) ggX7_wordIs_J0_charAt_5068e
theorem dX7_wordIs_0 : decode cX7_wordIs 0 = .ok (.aload_n 0, 1) := by decide +kernel
theorem dX7_wordIs_1 : decode cX7_wordIs 1 = .ok (.getfield 39, 3) := by decide +kernel
theorem dX7_wordIs_4 : decode cX7_wordIs 4 = .ok (.aload_n 0, 1) := by decide +kernel
theorem dX7_wordIs_5 : decode cX7_wordIs 5 = .ok (.getfield 53, 3) := by decide +kernel
theorem dX7_wordIs_8 : decode cX7_wordIs 8 = .ok (.isub, 1) := by decide +kernel
theorem dX7_wordIs_9 : decode cX7_wordIs 9 = .ok (.aload_n 1, 1) := by decide +kernel
theorem dX7_wordIs_10 : decode cX7_wordIs 10 = .ok (.invokevirtual 124, 3) := by decide +kernel
theorem dX7_wordIs_13 : decode cX7_wordIs 13 = .ok (.if_icmp .eq 5, 3) := by decide +kernel
theorem dX7_wordIs_16 : decode cX7_wordIs 16 = .ok (.iconst 0, 1) := by decide +kernel
theorem dX7_wordIs_17 : decode cX7_wordIs 17 = .ok (.ireturn, 1) := by decide +kernel
theorem dX7_wordIs_18 : decode cX7_wordIs 18 = .ok (.iconst 0, 1) := by decide +kernel
theorem dX7_wordIs_19 : decode cX7_wordIs 19 = .ok (.istore_n 2, 1) := by decide +kernel
theorem dX7_wordIs_20 : decode cX7_wordIs 20 = .ok (.iload_n 2, 1) := by decide +kernel
theorem dX7_wordIs_21 : decode cX7_wordIs 21 = .ok (.aload_n 1, 1) := by decide +kernel
theorem dX7_wordIs_22 : decode cX7_wordIs 22 = .ok (.invokevirtual 124, 3) := by decide +kernel
theorem dX7_wordIs_25 : decode cX7_wordIs 25 = .ok (.if_icmp .ge 30, 3) := by decide +kernel
theorem dX7_wordIs_28 : decode cX7_wordIs 28 = .ok (.aload_n 0, 1) := by decide +kernel
theorem dX7_wordIs_29 : decode cX7_wordIs 29 = .ok (.getfield 22, 3) := by decide +kernel
theorem dX7_wordIs_32 : decode cX7_wordIs 32 = .ok (.aload_n 0, 1) := by decide +kernel
theorem dX7_wordIs_33 : decode cX7_wordIs 33 = .ok (.getfield 53, 3) := by decide +kernel
theorem dX7_wordIs_36 : decode cX7_wordIs 36 = .ok (.iload_n 2, 1) := by decide +kernel
theorem dX7_wordIs_37 : decode cX7_wordIs 37 = .ok (.iadd, 1) := by decide +kernel
theorem dX7_wordIs_38 : decode cX7_wordIs 38 = .ok (.baload, 1) := by decide +kernel
theorem dX7_wordIs_39 : decode cX7_wordIs 39 = .ok (.aload_n 1, 1) := by decide +kernel
theorem dX7_wordIs_40 : decode cX7_wordIs 40 = .ok (.iload_n 2, 1) := by decide +kernel
theorem dX7_wordIs_41 : decode cX7_wordIs 41 = .ok (.invokevirtual 128, 3) := by decide +kernel
theorem dX7_wordIs_44 : decode cX7_wordIs 44 = .ok (.if_icmp .eq 5, 3) := by decide +kernel
theorem dX7_wordIs_47 : decode cX7_wordIs 47 = .ok (.iconst 0, 1) := by decide +kernel
theorem dX7_wordIs_48 : decode cX7_wordIs 48 = .ok (.ireturn, 1) := by decide +kernel
theorem dX7_wordIs_49 : decode cX7_wordIs 49 = .ok (.iinc 2 1, 3) := by decide +kernel
theorem dX7_wordIs_52 : decode cX7_wordIs 52 = .ok (.goto (-32), 3) := by decide +kernel
theorem dX7_wordIs_55 : decode cX7_wordIs 55 = .ok (.iconst 1, 1) := by decide +kernel
theorem dX7_wordIs_56 : decode cX7_wordIs 56 = .ok (.ireturn, 1) := by decide +kernel
set_option maxRecDepth 20000 in
theorem ggX7_takeFigures_X7_isFigure : GoodIn wsX7_takeFigures wsX7_isFigure := goodIn_r _ [10] (by decide +kernel) (by decide +kernel)
set_option maxRecDepth 20000 in
theorem gX7_takeFigures_X7_isFigure : GoodIn wsX7_takeFigures (va_wsS RX7 104 yX7_isFigure wsX7_isFigure) := goodIn_app (goodIn_of _ (by decide +kernel)) ggX7_takeFigures_X7_isFigure
theorem dX7_takeFigures_0 : decode cX7_takeFigures 0 = .ok (.aload_n 0, 1) := by decide +kernel
theorem dX7_takeFigures_1 : decode cX7_takeFigures 1 = .ok (.getfield 39, 3) := by decide +kernel
theorem dX7_takeFigures_4 : decode cX7_takeFigures 4 = .ok (.aload_n 0, 1) := by decide +kernel
theorem dX7_takeFigures_5 : decode cX7_takeFigures 5 = .ok (.getfield 35, 3) := by decide +kernel
theorem dX7_takeFigures_8 : decode cX7_takeFigures 8 = .ok (.if_icmp .ge 59, 3) := by decide +kernel
theorem dX7_takeFigures_11 : decode cX7_takeFigures 11 = .ok (.aload_n 0, 1) := by decide +kernel
theorem dX7_takeFigures_12 : decode cX7_takeFigures 12 = .ok (.getfield 22, 3) := by decide +kernel
theorem dX7_takeFigures_15 : decode cX7_takeFigures 15 = .ok (.aload_n 0, 1) := by decide +kernel
theorem dX7_takeFigures_16 : decode cX7_takeFigures 16 = .ok (.getfield 39, 3) := by decide +kernel
theorem dX7_takeFigures_19 : decode cX7_takeFigures 19 = .ok (.baload, 1) := by decide +kernel
theorem dX7_takeFigures_20 : decode cX7_takeFigures 20 = .ok (.invokestatic 104, 3) := by decide +kernel
theorem dX7_takeFigures_23 : decode cX7_takeFigures 23 = .ok (.ifCond .eq 44, 3) := by decide +kernel
theorem dX7_takeFigures_26 : decode cX7_takeFigures 26 = .ok (.aload_n 0, 1) := by decide +kernel
theorem dX7_takeFigures_27 : decode cX7_takeFigures 27 = .ok (.bipush 10, 2) := by decide +kernel
theorem dX7_takeFigures_29 : decode cX7_takeFigures 29 = .ok (.aload_n 0, 1) := by decide +kernel
theorem dX7_takeFigures_30 : decode cX7_takeFigures 30 = .ok (.getfield 91, 3) := by decide +kernel
theorem dX7_takeFigures_33 : decode cX7_takeFigures 33 = .ok (.imul, 1) := by decide +kernel
theorem dX7_takeFigures_34 : decode cX7_takeFigures 34 = .ok (.aload_n 0, 1) := by decide +kernel
theorem dX7_takeFigures_35 : decode cX7_takeFigures 35 = .ok (.getfield 22, 3) := by decide +kernel
theorem dX7_takeFigures_38 : decode cX7_takeFigures 38 = .ok (.aload_n 0, 1) := by decide +kernel
theorem dX7_takeFigures_39 : decode cX7_takeFigures 39 = .ok (.getfield 39, 3) := by decide +kernel
theorem dX7_takeFigures_42 : decode cX7_takeFigures 42 = .ok (.baload, 1) := by decide +kernel
theorem dX7_takeFigures_43 : decode cX7_takeFigures 43 = .ok (.iadd, 1) := by decide +kernel
theorem dX7_takeFigures_44 : decode cX7_takeFigures 44 = .ok (.bipush 48, 2) := by decide +kernel
theorem dX7_takeFigures_46 : decode cX7_takeFigures 46 = .ok (.isub, 1) := by decide +kernel
theorem dX7_takeFigures_47 : decode cX7_takeFigures 47 = .ok (.sipush 1000, 3) := by decide +kernel
theorem dX7_takeFigures_50 : decode cX7_takeFigures 50 = .ok (.irem, 1) := by decide +kernel
theorem dX7_takeFigures_51 : decode cX7_takeFigures 51 = .ok (.putfield 91, 3) := by decide +kernel
theorem dX7_takeFigures_54 : decode cX7_takeFigures 54 = .ok (.aload_n 0, 1) := by decide +kernel
theorem dX7_takeFigures_55 : decode cX7_takeFigures 55 = .ok (.dup, 1) := by decide +kernel
theorem dX7_takeFigures_56 : decode cX7_takeFigures 56 = .ok (.getfield 39, 3) := by decide +kernel
theorem dX7_takeFigures_59 : decode cX7_takeFigures 59 = .ok (.iconst 1, 1) := by decide +kernel
theorem dX7_takeFigures_60 : decode cX7_takeFigures 60 = .ok (.iadd, 1) := by decide +kernel
theorem dX7_takeFigures_61 : decode cX7_takeFigures 61 = .ok (.putfield 39, 3) := by decide +kernel
theorem dX7_takeFigures_64 : decode cX7_takeFigures 64 = .ok (.goto (-64), 3) := by decide +kernel
theorem dX7_takeFigures_67 : decode cX7_takeFigures 67 = .ok (.aload_n 0, 1) := by decide +kernel
theorem dX7_takeFigures_68 : decode cX7_takeFigures 68 = .ok (.aload_n 0, 1) := by decide +kernel
theorem dX7_takeFigures_69 : decode cX7_takeFigures 69 = .ok (.getfield 39, 3) := by decide +kernel
theorem dX7_takeFigures_72 : decode cX7_takeFigures 72 = .ok (.aload_n 0, 1) := by decide +kernel
theorem dX7_takeFigures_73 : decode cX7_takeFigures 73 = .ok (.getfield 53, 3) := by decide +kernel
theorem dX7_takeFigures_76 : decode cX7_takeFigures 76 = .ok (.isub, 1) := by decide +kernel
theorem dX7_takeFigures_77 : decode cX7_takeFigures 77 = .ok (.iconst 2, 1) := by decide +kernel
theorem dX7_takeFigures_78 : decode cX7_takeFigures 78 = .ok (.if_icmp .gt 7, 3) := by decide +kernel
theorem dX7_takeFigures_81 : decode cX7_takeFigures 81 = .ok (.iconst 2, 1) := by decide +kernel
theorem dX7_takeFigures_82 : decode cX7_takeFigures 82 = .ok (.goto 4, 3) := by decide +kernel
theorem dX7_takeFigures_85 : decode cX7_takeFigures 85 = .ok (.iconst 4, 1) := by decide +kernel
theorem dX7_takeFigures_86 : decode cX7_takeFigures 86 = .ok (.putfield 56, 3) := by decide +kernel
theorem dX7_takeFigures_89 : decode cX7_takeFigures 89 = .ok (.return_, 1) := by decide +kernel
theorem dX7_isLetter_0 : decode cX7_isLetter 0 = .ok (.iload_n 0, 1) := by decide +kernel
theorem dX7_isLetter_1 : decode cX7_isLetter 1 = .ok (.bipush 97, 2) := by decide +kernel
theorem dX7_isLetter_3 : decode cX7_isLetter 3 = .ok (.if_icmp .lt 13, 3) := by decide +kernel
theorem dX7_isLetter_6 : decode cX7_isLetter 6 = .ok (.iload_n 0, 1) := by decide +kernel
theorem dX7_isLetter_7 : decode cX7_isLetter 7 = .ok (.bipush 122, 2) := by decide +kernel
theorem dX7_isLetter_9 : decode cX7_isLetter 9 = .ok (.if_icmp .gt 7, 3) := by decide +kernel
theorem dX7_isLetter_12 : decode cX7_isLetter 12 = .ok (.iconst 1, 1) := by decide +kernel
theorem dX7_isLetter_13 : decode cX7_isLetter 13 = .ok (.goto 4, 3) := by decide +kernel
theorem dX7_isLetter_16 : decode cX7_isLetter 16 = .ok (.iconst 0, 1) := by decide +kernel
theorem dX7_isLetter_17 : decode cX7_isLetter 17 = .ok (.ireturn, 1) := by decide +kernel
theorem dX7_isFigure_0 : decode cX7_isFigure 0 = .ok (.iload_n 0, 1) := by decide +kernel
theorem dX7_isFigure_1 : decode cX7_isFigure 1 = .ok (.bipush 48, 2) := by decide +kernel
theorem dX7_isFigure_3 : decode cX7_isFigure 3 = .ok (.if_icmp .lt 13, 3) := by decide +kernel
theorem dX7_isFigure_6 : decode cX7_isFigure 6 = .ok (.iload_n 0, 1) := by decide +kernel
theorem dX7_isFigure_7 : decode cX7_isFigure 7 = .ok (.bipush 57, 2) := by decide +kernel
theorem dX7_isFigure_9 : decode cX7_isFigure 9 = .ok (.if_icmp .gt 7, 3) := by decide +kernel
theorem dX7_isFigure_12 : decode cX7_isFigure 12 = .ok (.iconst 1, 1) := by decide +kernel
theorem dX7_isFigure_13 : decode cX7_isFigure 13 = .ok (.goto 4, 3) := by decide +kernel
theorem dX7_isFigure_16 : decode cX7_isFigure 16 = .ok (.iconst 0, 1) := by decide +kernel
theorem dX7_isFigure_17 : decode cX7_isFigure 17 = .ok (.ireturn, 1) := by decide +kernel
set_option maxRecDepth 20000 in
theorem ggX8_init_X4_init : GoodIn wsX8_init wsX4_init := goodIn_r _ [36, 37, 2, 3, 38, 39, 40, 41, 42, 43, 44, 45, 46, 47, 48, 49, 50, 51, 52, 53, 54, 55, 56, 57, 58, 59, 100, 101, 102, 103, 104, 105, 106, 107, 108, 109, 110, 111, 112, 113, 114, 155, 156, 157, 158] (by decide +kernel) (by decide +kernel)
set_option maxRecDepth 20000 in
theorem gX8_init_X4_init : GoodIn wsX8_init (wsX4_init) := ggX8_init_X4_init
set_option maxRecDepth 20000 in
theorem ggX8_init_X1_init : GoodIn wsX8_init wsX1_init := goodIn_r _ [62, 63, 2, 3, 38, 64, 65, 66, 67, 68, 69, 70, 130, 131, 132, 133, 134, 135, 136] (by decide +kernel) (by decide +kernel)
set_option maxRecDepth 20000 in
theorem gX8_init_X1_init : GoodIn wsX8_init (wsX1_init) := ggX8_init_X1_init
set_option maxRecDepth 20000 in
theorem ggX8_init_X5_init : GoodIn wsX8_init wsX5_init := goodIn_r _ [73, 74, 2, 3, 38, 75, 76, 77, 137, 138, 139, 140] (by decide +kernel) (by decide +kernel)
set_option maxRecDepth 20000 in
theorem gX8_init_X5_init : GoodIn wsX8_init (wsX5_init) := ggX8_init_X5_init
set_option maxRecDepth 20000 in
theorem ggX8_init_X0_init : GoodIn wsX8_init wsX0_init := goodIn_r _ [80, 81, 2, 3, 38, 82, 83, 84, 141, 142, 143, 144] (by decide +kernel) (by decide +kernel)
set_option maxRecDepth 20000 in
theorem gX8_init_X0_init : GoodIn wsX8_init (wsX0_init) := ggX8_init_X0_init
set_option maxRecDepth 20000 in
theorem ggX8_init_X2_init : GoodIn wsX8_init wsX2_init := goodIn_r _ [87, 88, 2, 3, 38, 89, 90, 145, 146] (by decide +kernel) (by decide +kernel)
set_option maxRecDepth 20000 in
theorem gX8_init_X2_init : GoodIn wsX8_init (wsX2_init) := ggX8_init_X2_init
set_option maxRecDepth 20000 in
theorem ggX8_init_X7_init : GoodIn wsX8_init wsX7_init := goodIn_r _ [93, 94, 2, 3, 95, 5, 6, 96, 38, 97, 98, 99, 35, 36, 37, 39, 40, 41, 42, 43, 44, 45, 46, 47, 48, 49, 50, 51, 52, 53, 54, 55, 56, 57, 58, 59, 100, 101, 102, 103, 104, 105, 106, 107, 108, 109, 110, 111, 112, 113, 114, 147, 148, 149, 150, 151, 152, 153, 154, 155, 156, 157, 158] (by decide +kernel) (by decide +kernel)
set_option maxRecDepth 20000 in
theorem gX8_init_X7_init : GoodIn wsX8_init (wsX7_init) := ggX8_init_X7_init
theorem dX8_init_0 : decode cX8_init 0 = .ok (.aload_n 0, 1) := by decide +kernel
theorem dX8_init_1 : decode cX8_init 1 = .ok (.invokespecial 1, 3) := by decide +kernel
theorem dX8_init_4 : decode cX8_init 4 = .ok (.aload_n 0, 1) := by decide +kernel
theorem dX8_init_5 : decode cX8_init 5 = .ok (.new 7, 3) := by decide +kernel
theorem dX8_init_8 : decode cX8_init 8 = .ok (.dup, 1) := by decide +kernel
theorem dX8_init_9 : decode cX8_init 9 = .ok (.invokespecial 9, 3) := by decide +kernel
theorem dX8_init_12 : decode cX8_init 12 = .ok (.putfield 10, 3) := by decide +kernel
theorem dX8_init_15 : decode cX8_init 15 = .ok (.aload_n 0, 1) := by decide +kernel
theorem dX8_init_16 : decode cX8_init 16 = .ok (.iconst 2, 1) := by decide +kernel
theorem dX8_init_17 : decode cX8_init 17 = .ok (.anewarray 7, 3) := by decide +kernel
theorem dX8_init_20 : decode cX8_init 20 = .ok (.dup, 1) := by decide +kernel
theorem dX8_init_21 : decode cX8_init 21 = .ok (.iconst 0, 1) := by decide +kernel
theorem dX8_init_22 : decode cX8_init 22 = .ok (.new 7, 3) := by decide +kernel
theorem dX8_init_25 : decode cX8_init 25 = .ok (.dup, 1) := by decide +kernel
theorem dX8_init_26 : decode cX8_init 26 = .ok (.invokespecial 9, 3) := by decide +kernel
theorem dX8_init_29 : decode cX8_init 29 = .ok (.aastore, 1) := by decide +kernel
theorem dX8_init_30 : decode cX8_init 30 = .ok (.dup, 1) := by decide +kernel
theorem dX8_init_31 : decode cX8_init 31 = .ok (.iconst 1, 1) := by decide +kernel
theorem dX8_init_32 : decode cX8_init 32 = .ok (.new 7, 3) := by decide +kernel
theorem dX8_init_35 : decode cX8_init 35 = .ok (.dup, 1) := by decide +kernel
theorem dX8_init_36 : decode cX8_init 36 = .ok (.invokespecial 9, 3) := by decide +kernel
theorem dX8_init_39 : decode cX8_init 39 = .ok (.aastore, 1) := by decide +kernel
theorem dX8_init_40 : decode cX8_init 40 = .ok (.putfield 16, 3) := by decide +kernel
theorem dX8_init_43 : decode cX8_init 43 = .ok (.aload_n 0, 1) := by decide +kernel
theorem dX8_init_44 : decode cX8_init 44 = .ok (.iconst 2, 1) := by decide +kernel
theorem dX8_init_45 : decode cX8_init 45 = .ok (.newarray .boolean, 2) := by decide +kernel
theorem dX8_init_47 : decode cX8_init 47 = .ok (.putfield 20, 3) := by decide +kernel
theorem dX8_init_50 : decode cX8_init 50 = .ok (.aload_n 0, 1) := by decide +kernel
theorem dX8_init_51 : decode cX8_init 51 = .ok (.sipush 150, 3) := by decide +kernel
theorem dX8_init_54 : decode cX8_init 54 = .ok (.newarray .byte, 2) := by decide +kernel
theorem dX8_init_56 : decode cX8_init 56 = .ok (.putfield 24, 3) := by decide +kernel
theorem dX8_init_59 : decode cX8_init 59 = .ok (.aload_n 0, 1) := by decide +kernel
theorem dX8_init_60 : decode cX8_init 60 = .ok (.new 28, 3) := by decide +kernel
theorem dX8_init_63 : decode cX8_init 63 = .ok (.dup, 1) := by decide +kernel
theorem dX8_init_64 : decode cX8_init 64 = .ok (.aload_n 0, 1) := by decide +kernel
theorem dX8_init_65 : decode cX8_init 65 = .ok (.getfield 10, 3) := by decide +kernel
theorem dX8_init_68 : decode cX8_init 68 = .ok (.invokespecial 30, 3) := by decide +kernel
theorem dX8_init_71 : decode cX8_init 71 = .ok (.putfield 33, 3) := by decide +kernel
theorem dX8_init_74 : decode cX8_init 74 = .ok (.aload_n 0, 1) := by decide +kernel
theorem dX8_init_75 : decode cX8_init 75 = .ok (.new 37, 3) := by decide +kernel
theorem dX8_init_78 : decode cX8_init 78 = .ok (.dup, 1) := by decide +kernel
theorem dX8_init_79 : decode cX8_init 79 = .ok (.aload_n 0, 1) := by decide +kernel
theorem dX8_init_80 : decode cX8_init 80 = .ok (.getfield 10, 3) := by decide +kernel
theorem dX8_init_83 : decode cX8_init 83 = .ok (.invokespecial 39, 3) := by decide +kernel
theorem dX8_init_86 : decode cX8_init 86 = .ok (.putfield 40, 3) := by decide +kernel
theorem dX8_init_89 : decode cX8_init 89 = .ok (.aload_n 0, 1) := by decide +kernel
theorem dX8_init_90 : decode cX8_init 90 = .ok (.new 44, 3) := by decide +kernel
theorem dX8_init_93 : decode cX8_init 93 = .ok (.dup, 1) := by decide +kernel
theorem dX8_init_94 : decode cX8_init 94 = .ok (.aload_n 0, 1) := by decide +kernel
theorem dX8_init_95 : decode cX8_init 95 = .ok (.getfield 10, 3) := by decide +kernel
theorem dX8_init_98 : decode cX8_init 98 = .ok (.invokespecial 46, 3) := by decide +kernel
theorem dX8_init_101 : decode cX8_init 101 = .ok (.putfield 47, 3) := by decide +kernel
theorem dX8_init_104 : decode cX8_init 104 = .ok (.aload_n 0, 1) := by decide +kernel
theorem dX8_init_105 : decode cX8_init 105 = .ok (.new 51, 3) := by decide +kernel
theorem dX8_init_108 : decode cX8_init 108 = .ok (.dup, 1) := by decide +kernel
theorem dX8_init_109 : decode cX8_init 109 = .ok (.aload_n 0, 1) := by decide +kernel
theorem dX8_init_110 : decode cX8_init 110 = .ok (.getfield 10, 3) := by decide +kernel
theorem dX8_init_113 : decode cX8_init 113 = .ok (.invokespecial 53, 3) := by decide +kernel
theorem dX8_init_116 : decode cX8_init 116 = .ok (.putfield 54, 3) := by decide +kernel
theorem dX8_init_119 : decode cX8_init 119 = .ok (.aload_n 0, 1) := by decide +kernel
theorem dX8_init_120 : decode cX8_init 120 = .ok (.new 58, 3) := by decide +kernel
theorem dX8_init_123 : decode cX8_init 123 = .ok (.dup, 1) := by decide +kernel
theorem dX8_init_124 : decode cX8_init 124 = .ok (.aload_n 0, 1) := by decide +kernel
theorem dX8_init_125 : decode cX8_init 125 = .ok (.getfield 24, 3) := by decide +kernel
theorem dX8_init_128 : decode cX8_init 128 = .ok (.invokespecial 60, 3) := by decide +kernel
theorem dX8_init_131 : decode cX8_init 131 = .ok (.putfield 63, 3) := by decide +kernel
theorem dX8_init_134 : decode cX8_init 134 = .ok (.aload_n 0, 1) := by decide +kernel
theorem dX8_init_135 : decode cX8_init 135 = .ok (.lconst 1, 1) := by decide +kernel
theorem dX8_init_136 : decode cX8_init 136 = .ok (.putfield 67, 3) := by decide +kernel
theorem dX8_init_139 : decode cX8_init 139 = .ok (.return_, 1) := by decide +kernel
set_option maxRecDepth 20000 in
theorem ggX8_parish_X4_empty : GoodIn wsX8_parish wsX4_empty := goodIn_r _ [7, 8, 9, 10, 11, 12, 13, 14, 15, 16, 32, 33, 34, 35, 36, 37, 38, 39, 40, 41, 42, 43, 44, 45, 46, 47, 48, 49, 50] (by decide +kernel) (by decide +kernel)
set_option maxRecDepth 20000 in
theorem gX8_parish_X4_empty : GoodIn wsX8_parish (wsV RX8 75 RX4 yX4_empty wsX4_empty) := goodIn_app (goodIn_of _ (by decide +kernel)) ggX8_parish_X4_empty
theorem dX8_parish_0 : decode cX8_parish 0 = .ok (.aload_n 0, 1) := by decide +kernel
theorem dX8_parish_1 : decode cX8_parish 1 = .ok (.getfield 10, 3) := by decide +kernel
theorem dX8_parish_4 : decode cX8_parish 4 = .ok (.getfield 71, 3) := by decide +kernel
theorem dX8_parish_7 : decode cX8_parish 7 = .ok (.istore_n 1, 1) := by decide +kernel
theorem dX8_parish_8 : decode cX8_parish 8 = .ok (.aload_n 0, 1) := by decide +kernel
theorem dX8_parish_9 : decode cX8_parish 9 = .ok (.getfield 10, 3) := by decide +kernel
theorem dX8_parish_12 : decode cX8_parish 12 = .ok (.invokevirtual 75, 3) := by decide +kernel
theorem dX8_parish_15 : decode cX8_parish 15 = .ok (.iload_n 1, 1) := by decide +kernel
theorem dX8_parish_16 : decode cX8_parish 16 = .ok (.ireturn, 1) := by decide +kernel
set_option maxRecDepth 20000 in
theorem ggX8_flitch_X8_within : GoodIn wsX8_flitch wsX8_within := goodIn_r _ [6] (by decide +kernel) (by decide +kernel)
set_option maxRecDepth 20000 in
theorem gX8_flitch_X8_within : GoodIn wsX8_flitch (va_wsS RX8 78 yX8_within wsX8_within) := goodIn_app (goodIn_of _ (by decide +kernel)) ggX8_flitch_X8_within
set_option maxRecDepth 20000 in
theorem ggX8_flitch_X8_isCell : GoodIn wsX8_flitch wsX8_isCell := goodIn_r _ [9, 3, 4, 5, 6] (by decide +kernel) (by decide +kernel)
set_option maxRecDepth 20000 in
theorem gX8_flitch_X8_isCell : GoodIn wsX8_flitch (va_wsS RX8 82 yX8_isCell wsX8_isCell) := goodIn_app (goodIn_of _ (by decide +kernel)) ggX8_flitch_X8_isCell
set_option maxRecDepth 20000 in
theorem ggX8_flitch_X8_bad : GoodIn wsX8_flitch wsX8_bad := goodIn_r _ [13, 14, 32, 33, 34, 35, 36, 37, 38, 39, 40, 41, 42, 43, 44, 45, 46] (by decide +kernel) (by decide +kernel)
set_option maxRecDepth 20000 in
theorem gX8_flitch_X8_bad : GoodIn wsX8_flitch (wsV RX8 86 RX8 yX8_bad wsX8_bad) := goodIn_app (goodIn_of _ (by decide +kernel)) ggX8_flitch_X8_bad
set_option maxRecDepth 20000 in
theorem ggX8_flitch_X8_full : GoodIn wsX8_flitch wsX8_full := goodIn_r _ [18, 19, 32, 33, 34, 35, 36, 37, 38, 39, 40, 41, 42, 43, 44, 45, 46] (by decide +kernel) (by decide +kernel)
set_option maxRecDepth 20000 in
theorem gX8_flitch_X8_full : GoodIn wsX8_flitch (wsV RX8 93 RX8 yX8_full wsX8_full) := goodIn_app (goodIn_of _ (by decide +kernel)) ggX8_flitch_X8_full
set_option maxRecDepth 20000 in
theorem ggX8_flitch_X4_hang : GoodIn wsX8_flitch wsX4_hang := goodIn_r _ [24, 25, 26, 27, 28, 29, 30, 31, 47, 48, 49, 50, 51, 52, 53, 54, 55, 56, 57, 58, 59, 60, 61, 62, 63, 64, 65] (by decide +kernel) (by decide +kernel)
set_option maxRecDepth 20000 in
theorem gX8_flitch_X4_hang : GoodIn wsX8_flitch (wsV RX8 96 RX4 yX4_hang wsX4_hang) := goodIn_app (goodIn_of _ (by decide +kernel)) ggX8_flitch_X4_hang
theorem dX8_flitch_0 : decode cX8_flitch 0 = .ok (.iload_n 1, 1) := by decide +kernel
theorem dX8_flitch_1 : decode cX8_flitch 1 = .ok (.iconst 0, 1) := by decide +kernel
theorem dX8_flitch_2 : decode cX8_flitch 2 = .ok (.iconst 5, 1) := by decide +kernel
theorem dX8_flitch_3 : decode cX8_flitch 3 = .ok (.invokestatic 78, 3) := by decide +kernel
theorem dX8_flitch_6 : decode cX8_flitch 6 = .ok (.ifCond .eq 20, 3) := by decide +kernel
theorem dX8_flitch_9 : decode cX8_flitch 9 = .ok (.iload_n 2, 1) := by decide +kernel
theorem dX8_flitch_10 : decode cX8_flitch 10 = .ok (.invokestatic 82, 3) := by decide +kernel
theorem dX8_flitch_13 : decode cX8_flitch 13 = .ok (.ifCond .eq 13, 3) := by decide +kernel
theorem dX8_flitch_16 : decode cX8_flitch 16 = .ok (.iload_n 3, 1) := by decide +kernel
theorem dX8_flitch_17 : decode cX8_flitch 17 = .ok (.iconst 1, 1) := by decide +kernel
theorem dX8_flitch_18 : decode cX8_flitch 18 = .ok (.bipush 20, 2) := by decide +kernel
theorem dX8_flitch_20 : decode cX8_flitch 20 = .ok (.invokestatic 78, 3) := by decide +kernel
theorem dX8_flitch_23 : decode cX8_flitch 23 = .ok (.ifCond .ne 8, 3) := by decide +kernel
theorem dX8_flitch_26 : decode cX8_flitch 26 = .ok (.aload_n 0, 1) := by decide +kernel
theorem dX8_flitch_27 : decode cX8_flitch 27 = .ok (.invokevirtual 86, 3) := by decide +kernel
theorem dX8_flitch_30 : decode cX8_flitch 30 = .ok (.ireturn, 1) := by decide +kernel
theorem dX8_flitch_31 : decode cX8_flitch 31 = .ok (.aload_n 0, 1) := by decide +kernel
theorem dX8_flitch_32 : decode cX8_flitch 32 = .ok (.getfield 10, 3) := by decide +kernel
theorem dX8_flitch_35 : decode cX8_flitch 35 = .ok (.getfield 90, 3) := by decide +kernel
theorem dX8_flitch_38 : decode cX8_flitch 38 = .ok (.iconst 3, 1) := by decide +kernel
theorem dX8_flitch_39 : decode cX8_flitch 39 = .ok (.if_icmp .lt 8, 3) := by decide +kernel
theorem dX8_flitch_42 : decode cX8_flitch 42 = .ok (.aload_n 0, 1) := by decide +kernel
theorem dX8_flitch_43 : decode cX8_flitch 43 = .ok (.invokevirtual 93, 3) := by decide +kernel
theorem dX8_flitch_46 : decode cX8_flitch 46 = .ok (.ireturn, 1) := by decide +kernel
theorem dX8_flitch_47 : decode cX8_flitch 47 = .ok (.aload_n 0, 1) := by decide +kernel
theorem dX8_flitch_48 : decode cX8_flitch 48 = .ok (.getfield 10, 3) := by decide +kernel
theorem dX8_flitch_51 : decode cX8_flitch 51 = .ok (.iload_n 1, 1) := by decide +kernel
theorem dX8_flitch_52 : decode cX8_flitch 52 = .ok (.iload_n 2, 1) := by decide +kernel
theorem dX8_flitch_53 : decode cX8_flitch 53 = .ok (.iload_n 3, 1) := by decide +kernel
theorem dX8_flitch_54 : decode cX8_flitch 54 = .ok (.invokevirtual 96, 3) := by decide +kernel
theorem dX8_flitch_57 : decode cX8_flitch 57 = .ok (.aload_n 0, 1) := by decide +kernel
theorem dX8_flitch_58 : decode cX8_flitch 58 = .ok (.getfield 10, 3) := by decide +kernel
theorem dX8_flitch_61 : decode cX8_flitch 61 = .ok (.getfield 90, 3) := by decide +kernel
theorem dX8_flitch_64 : decode cX8_flitch 64 = .ok (.iconst 1, 1) := by decide +kernel
theorem dX8_flitch_65 : decode cX8_flitch 65 = .ok (.isub, 1) := by decide +kernel
theorem dX8_flitch_66 : decode cX8_flitch 66 = .ok (.ireturn, 1) := by decide +kernel
set_option maxRecDepth 20000 in
theorem ggX8_family_X8_within : GoodIn wsX8_family wsX8_within := goodIn_r _ [6] (by decide +kernel) (by decide +kernel)
set_option maxRecDepth 20000 in
theorem gX8_family_X8_within : GoodIn wsX8_family (va_wsS RX8 78 yX8_within wsX8_within) := goodIn_app (goodIn_of _ (by decide +kernel)) ggX8_family_X8_within
set_option maxRecDepth 20000 in
theorem ggX8_family_X8_isCell : GoodIn wsX8_family wsX8_isCell := goodIn_r _ [9, 3, 4, 5, 6] (by decide +kernel) (by decide +kernel)
set_option maxRecDepth 20000 in
theorem gX8_family_X8_isCell : GoodIn wsX8_family (va_wsS RX8 82 yX8_isCell wsX8_isCell) := goodIn_app (goodIn_of _ (by decide +kernel)) ggX8_family_X8_isCell
set_option maxRecDepth 20000 in
theorem ggX8_family_X8_bad : GoodIn wsX8_family wsX8_bad := goodIn_r _ [13, 14, 32, 33, 34, 35, 36, 37, 38, 39, 40, 41, 42, 43, 44, 45, 46] (by decide +kernel) (by decide +kernel)
set_option maxRecDepth 20000 in
theorem gX8_family_X8_bad : GoodIn wsX8_family (wsV RX8 86 RX8 yX8_bad wsX8_bad) := goodIn_app (goodIn_of _ (by decide +kernel)) ggX8_family_X8_bad
set_option maxRecDepth 20000 in
theorem ggX8_family_X8_full : GoodIn wsX8_family wsX8_full := goodIn_r _ [18, 19, 32, 33, 34, 35, 36, 37, 38, 39, 40, 41, 42, 43, 44, 45, 46] (by decide +kernel) (by decide +kernel)
set_option maxRecDepth 20000 in
theorem gX8_family_X8_full : GoodIn wsX8_family (wsV RX8 93 RX8 yX8_full wsX8_full) := goodIn_app (goodIn_of _ (by decide +kernel)) ggX8_family_X8_full
set_option maxRecDepth 20000 in
theorem ggX8_family_X4_settle : GoodIn wsX8_family wsX4_settle := goodIn_r _ [24, 25, 26, 27, 28, 29, 30, 31, 47, 48, 49, 50, 51, 52, 53, 54, 55, 56, 57, 58, 59, 60, 61, 62, 63, 64, 65] (by decide +kernel) (by decide +kernel)
set_option maxRecDepth 20000 in
theorem gX8_family_X4_settle : GoodIn wsX8_family (wsV RX8 100 RX4 yX4_settle wsX4_settle) := goodIn_app (goodIn_of _ (by decide +kernel)) ggX8_family_X4_settle
theorem dX8_family_0 : decode cX8_family 0 = .ok (.iload_n 1, 1) := by decide +kernel
theorem dX8_family_1 : decode cX8_family 1 = .ok (.iconst 0, 1) := by decide +kernel
theorem dX8_family_2 : decode cX8_family 2 = .ok (.iconst 5, 1) := by decide +kernel
theorem dX8_family_3 : decode cX8_family 3 = .ok (.invokestatic 78, 3) := by decide +kernel
theorem dX8_family_6 : decode cX8_family 6 = .ok (.ifCond .eq 30, 3) := by decide +kernel
theorem dX8_family_9 : decode cX8_family 9 = .ok (.iload_n 2, 1) := by decide +kernel
theorem dX8_family_10 : decode cX8_family 10 = .ok (.iconst 0, 1) := by decide +kernel
theorem dX8_family_11 : decode cX8_family 11 = .ok (.iconst 1, 1) := by decide +kernel
theorem dX8_family_12 : decode cX8_family 12 = .ok (.invokestatic 78, 3) := by decide +kernel
theorem dX8_family_15 : decode cX8_family 15 = .ok (.ifCond .eq 21, 3) := by decide +kernel
theorem dX8_family_18 : decode cX8_family 18 = .ok (.iload_n 3, 1) := by decide +kernel
theorem dX8_family_19 : decode cX8_family 19 = .ok (.invokestatic 82, 3) := by decide +kernel
theorem dX8_family_22 : decode cX8_family 22 = .ok (.ifCond .eq 14, 3) := by decide +kernel
theorem dX8_family_25 : decode cX8_family 25 = .ok (.iload 4, 2) := by decide +kernel
theorem dX8_family_27 : decode cX8_family 27 = .ok (.iconst 1, 1) := by decide +kernel
theorem dX8_family_28 : decode cX8_family 28 = .ok (.bipush 99, 2) := by decide +kernel
theorem dX8_family_30 : decode cX8_family 30 = .ok (.invokestatic 78, 3) := by decide +kernel
theorem dX8_family_33 : decode cX8_family 33 = .ok (.ifCond .ne 8, 3) := by decide +kernel
theorem dX8_family_36 : decode cX8_family 36 = .ok (.aload_n 0, 1) := by decide +kernel
theorem dX8_family_37 : decode cX8_family 37 = .ok (.invokevirtual 86, 3) := by decide +kernel
theorem dX8_family_40 : decode cX8_family 40 = .ok (.ireturn, 1) := by decide +kernel
theorem dX8_family_41 : decode cX8_family 41 = .ok (.aload_n 0, 1) := by decide +kernel
theorem dX8_family_42 : decode cX8_family 42 = .ok (.getfield 10, 3) := by decide +kernel
theorem dX8_family_45 : decode cX8_family 45 = .ok (.getfield 71, 3) := by decide +kernel
theorem dX8_family_48 : decode cX8_family 48 = .ok (.bipush 7, 2) := by decide +kernel
theorem dX8_family_50 : decode cX8_family 50 = .ok (.if_icmp .lt 8, 3) := by decide +kernel
theorem dX8_family_53 : decode cX8_family 53 = .ok (.aload_n 0, 1) := by decide +kernel
theorem dX8_family_54 : decode cX8_family 54 = .ok (.invokevirtual 93, 3) := by decide +kernel
theorem dX8_family_57 : decode cX8_family 57 = .ok (.ireturn, 1) := by decide +kernel
theorem dX8_family_58 : decode cX8_family 58 = .ok (.aload_n 0, 1) := by decide +kernel
theorem dX8_family_59 : decode cX8_family 59 = .ok (.getfield 10, 3) := by decide +kernel
theorem dX8_family_62 : decode cX8_family 62 = .ok (.iload_n 1, 1) := by decide +kernel
theorem dX8_family_63 : decode cX8_family 63 = .ok (.iload_n 2, 1) := by decide +kernel
theorem dX8_family_64 : decode cX8_family 64 = .ok (.iload_n 3, 1) := by decide +kernel
theorem dX8_family_65 : decode cX8_family 65 = .ok (.iload 4, 2) := by decide +kernel
theorem dX8_family_67 : decode cX8_family 67 = .ok (.invokevirtual 100, 3) := by decide +kernel
theorem dX8_family_70 : decode cX8_family 70 = .ok (.aload_n 0, 1) := by decide +kernel
theorem dX8_family_71 : decode cX8_family 71 = .ok (.getfield 10, 3) := by decide +kernel
theorem dX8_family_74 : decode cX8_family 74 = .ok (.getfield 71, 3) := by decide +kernel
theorem dX8_family_77 : decode cX8_family 77 = .ok (.iconst 1, 1) := by decide +kernel
theorem dX8_family_78 : decode cX8_family 78 = .ok (.isub, 1) := by decide +kernel
theorem dX8_family_79 : decode cX8_family 79 = .ok (.ireturn, 1) := by decide +kernel
set_option maxRecDepth 20000 in
theorem ggX8_type_X8_within : GoodIn wsX8_type wsX8_within := goodIn_r _ [6] (by decide +kernel) (by decide +kernel)
set_option maxRecDepth 20000 in
theorem gX8_type_X8_within : GoodIn wsX8_type (va_wsS RX8 78 yX8_within wsX8_within) := goodIn_app (goodIn_of _ (by decide +kernel)) ggX8_type_X8_within
set_option maxRecDepth 20000 in
theorem ggX8_type_X8_bad : GoodIn wsX8_type wsX8_bad := goodIn_r _ [10, 11, 17, 18, 19, 20, 21, 22, 23, 24, 25, 26, 27, 28, 29, 30, 31] (by decide +kernel) (by decide +kernel)
set_option maxRecDepth 20000 in
theorem gX8_type_X8_bad : GoodIn wsX8_type (wsV RX8 86 RX8 yX8_bad wsX8_bad) := goodIn_app (goodIn_of _ (by decide +kernel)) ggX8_type_X8_bad
set_option maxRecDepth 20000 in
theorem ggX8_type_X8_full : GoodIn wsX8_type wsX8_full := goodIn_r _ [15, 16, 17, 18, 19, 20, 21, 22, 23, 24, 25, 26, 27, 28, 29, 30, 31] (by decide +kernel) (by decide +kernel)
set_option maxRecDepth 20000 in
theorem gX8_type_X8_full : GoodIn wsX8_type (wsV RX8 93 RX8 yX8_full wsX8_full) := goodIn_app (goodIn_of _ (by decide +kernel)) ggX8_type_X8_full
theorem dX8_type_0 : decode cX8_type 0 = .ok (.iload_n 1, 1) := by decide +kernel
theorem dX8_type_1 : decode cX8_type 1 = .ok (.iconst 0, 1) := by decide +kernel
theorem dX8_type_2 : decode cX8_type 2 = .ok (.bipush 127, 2) := by decide +kernel
theorem dX8_type_4 : decode cX8_type 4 = .ok (.invokestatic 78, 3) := by decide +kernel
theorem dX8_type_7 : decode cX8_type 7 = .ok (.ifCond .ne 8, 3) := by decide +kernel
theorem dX8_type_10 : decode cX8_type 10 = .ok (.aload_n 0, 1) := by decide +kernel
theorem dX8_type_11 : decode cX8_type 11 = .ok (.invokevirtual 86, 3) := by decide +kernel
theorem dX8_type_14 : decode cX8_type 14 = .ok (.ireturn, 1) := by decide +kernel
theorem dX8_type_15 : decode cX8_type 15 = .ok (.aload_n 0, 1) := by decide +kernel
theorem dX8_type_16 : decode cX8_type 16 = .ok (.getfield 104, 3) := by decide +kernel
theorem dX8_type_19 : decode cX8_type 19 = .ok (.sipush 150, 3) := by decide +kernel
theorem dX8_type_22 : decode cX8_type 22 = .ok (.if_icmp .lt 8, 3) := by decide +kernel
theorem dX8_type_25 : decode cX8_type 25 = .ok (.aload_n 0, 1) := by decide +kernel
theorem dX8_type_26 : decode cX8_type 26 = .ok (.invokevirtual 93, 3) := by decide +kernel
theorem dX8_type_29 : decode cX8_type 29 = .ok (.ireturn, 1) := by decide +kernel
theorem dX8_type_30 : decode cX8_type 30 = .ok (.aload_n 0, 1) := by decide +kernel
theorem dX8_type_31 : decode cX8_type 31 = .ok (.getfield 24, 3) := by decide +kernel
theorem dX8_type_34 : decode cX8_type 34 = .ok (.aload_n 0, 1) := by decide +kernel
theorem dX8_type_35 : decode cX8_type 35 = .ok (.getfield 104, 3) := by decide +kernel
theorem dX8_type_38 : decode cX8_type 38 = .ok (.iload_n 1, 1) := by decide +kernel
theorem dX8_type_39 : decode cX8_type 39 = .ok (.i2b, 1) := by decide +kernel
theorem dX8_type_40 : decode cX8_type 40 = .ok (.bastore, 1) := by decide +kernel
theorem dX8_type_41 : decode cX8_type 41 = .ok (.aload_n 0, 1) := by decide +kernel
theorem dX8_type_42 : decode cX8_type 42 = .ok (.dup, 1) := by decide +kernel
theorem dX8_type_43 : decode cX8_type 43 = .ok (.getfield 104, 3) := by decide +kernel
theorem dX8_type_46 : decode cX8_type 46 = .ok (.iconst 1, 1) := by decide +kernel
theorem dX8_type_47 : decode cX8_type 47 = .ok (.iadd, 1) := by decide +kernel
theorem dX8_type_48 : decode cX8_type 48 = .ok (.putfield 104, 3) := by decide +kernel
theorem dX8_type_51 : decode cX8_type 51 = .ok (.aload_n 0, 1) := by decide +kernel
theorem dX8_type_52 : decode cX8_type 52 = .ok (.getfield 104, 3) := by decide +kernel
theorem dX8_type_55 : decode cX8_type 55 = .ok (.ireturn, 1) := by decide +kernel
theorem dX8_clear_0 : decode cX8_clear 0 = .ok (.aload_n 0, 1) := by decide +kernel
theorem dX8_clear_1 : decode cX8_clear 1 = .ok (.getfield 104, 3) := by decide +kernel
theorem dX8_clear_4 : decode cX8_clear 4 = .ok (.istore_n 1, 1) := by decide +kernel
theorem dX8_clear_5 : decode cX8_clear 5 = .ok (.aload_n 0, 1) := by decide +kernel
theorem dX8_clear_6 : decode cX8_clear 6 = .ok (.iconst 0, 1) := by decide +kernel
theorem dX8_clear_7 : decode cX8_clear 7 = .ok (.putfield 104, 3) := by decide +kernel
theorem dX8_clear_10 : decode cX8_clear 10 = .ok (.iload_n 1, 1) := by decide +kernel
theorem dX8_clear_11 : decode cX8_clear 11 = .ok (.ireturn, 1) := by decide +kernel
set_option maxRecDepth 20000 in
theorem ggX8_read_X7_tell : GoodIn wsX8_read wsX7_tell := goodIn_r _ [9, 10, 11, 12, 13, 14, 15, 16, 17, 18, 19, 20, 21, 22, 23, 24, 25, 26, 27, 28, 29, 30, 31, 32, 33, 34, 35, 36, 8, 37, 38, 39, 40, 41, 42, 43, 44, 45, 46, 47, 48, 49, 50, 51, 52, 53, 54, 55, 56, 57, 58, 59, 60, 61, 62, 63, 64, 65, 66, 67, 68, 69, 70, 71, 72, 73, 74, 75, 76, 77, 78, 79, 80, 81, 82, 83, 84, 85, 86, 87, 88, 89, 90, 91, 92, 93, 94, 95, 96, 97, 98, 99, 100, 101, 102, 103, 104, 105, 106, 107, 108, 109, 110, 111, 112, 113, 114, 115, 116, 117, 118, 119, 120, 121, 122, 123, 124, 125, 126, 127, 128, 129, 130, 131, 132, 133, 134, 135, 136, 137, 138, 139, 140, 141, 142, 143, 144, 145, 146, 147, 148, 149, 150, 151, 152, 153, 154, 155, 156, 157, 158, 159, 160, 161, 162, 163, 164, 165, 166, 167, 168, 169, 170, 171, 172, 173, 174, 175, 176, 177, 209, 210, 211, 212, 213, 214, 215, 216, 217, 218, 219, 220, 221, 222, 223, 224, 225, 226, 227, 228, 229, 230, 231, 232, 233, 234, 235] (by decide +kernel) (by decide +kernel)
set_option maxRecDepth 20000 in
theorem gX8_read_X7_tell : GoodIn wsX8_read (wsV RX8 107 RX7 yX7_tell wsX7_tell) := goodIn_app (goodIn_of _ (by decide +kernel)) ggX8_read_X7_tell
set_option maxRecDepth 20000 in
theorem ggX8_read_X4_become : GoodIn wsX8_read wsX4_become := goodIn_r _ [181, 136, 182, 183, 184, 185, 137, 138, 143, 144, 145, 146, 29, 31, 32, 33, 25, 26, 27, 28, 186, 187, 188, 189, 190, 191, 192, 193, 217, 218, 219, 220, 221, 222, 223, 224, 225, 226, 227, 228, 229, 230, 231, 232, 233, 234, 235] (by decide +kernel) (by decide +kernel)
set_option maxRecDepth 20000 in
theorem gX8_read_X4_become : GoodIn wsX8_read (wsV RX8 114 RX4 yX4_become wsX4_become) := goodIn_app (goodIn_of _ (by decide +kernel)) ggX8_read_X4_become
theorem dX8_read_0 : decode cX8_read 0 = .ok (.aload_n 0, 1) := by decide +kernel
theorem dX8_read_1 : decode cX8_read 1 = .ok (.getfield 63, 3) := by decide +kernel
theorem dX8_read_4 : decode cX8_read 4 = .ok (.aload_n 0, 1) := by decide +kernel
theorem dX8_read_5 : decode cX8_read 5 = .ok (.getfield 104, 3) := by decide +kernel
theorem dX8_read_8 : decode cX8_read 8 = .ok (.invokevirtual 107, 3) := by decide +kernel
theorem dX8_read_11 : decode cX8_read 11 = .ok (.istore_n 1, 1) := by decide +kernel
theorem dX8_read_12 : decode cX8_read 12 = .ok (.iload_n 1, 1) := by decide +kernel
theorem dX8_read_13 : decode cX8_read 13 = .ok (.ifCond .lt 17, 3) := by decide +kernel
theorem dX8_read_16 : decode cX8_read 16 = .ok (.aload_n 0, 1) := by decide +kernel
theorem dX8_read_17 : decode cX8_read 17 = .ok (.getfield 10, 3) := by decide +kernel
theorem dX8_read_20 : decode cX8_read 20 = .ok (.aload_n 0, 1) := by decide +kernel
theorem dX8_read_21 : decode cX8_read 21 = .ok (.getfield 63, 3) := by decide +kernel
theorem dX8_read_24 : decode cX8_read 24 = .ok (.getfield 111, 3) := by decide +kernel
theorem dX8_read_27 : decode cX8_read 27 = .ok (.invokevirtual 114, 3) := by decide +kernel
theorem dX8_read_30 : decode cX8_read 30 = .ok (.iload_n 1, 1) := by decide +kernel
theorem dX8_read_31 : decode cX8_read 31 = .ok (.ireturn, 1) := by decide +kernel
set_option maxRecDepth 20000 in
theorem ggX8_days_X8_within : GoodIn wsX8_days wsX8_within := goodIn_r _ [5] (by decide +kernel) (by decide +kernel)
set_option maxRecDepth 20000 in
theorem gX8_days_X8_within : GoodIn wsX8_days (va_wsS RX8 78 yX8_within wsX8_within) := goodIn_app (goodIn_of _ (by decide +kernel)) ggX8_days_X8_within
set_option maxRecDepth 20000 in
theorem ggX8_days_X8_bad : GoodIn wsX8_days wsX8_bad := goodIn_r _ [9, 10, 87, 88, 89, 90, 91, 92, 93, 94, 95, 96, 97, 98, 99, 100, 101] (by decide +kernel) (by decide +kernel)
set_option maxRecDepth 20000 in
theorem gX8_days_X8_bad : GoodIn wsX8_days (wsV RX8 86 RX8 yX8_bad wsX8_bad) := goodIn_app (goodIn_of _ (by decide +kernel)) ggX8_days_X8_bad
set_option maxRecDepth 20000 in
theorem ggX8_days_X4_remember : GoodIn wsX8_days wsX4_remember := goodIn_r _ [15, 16, 17, 18, 19, 20, 21, 22, 23, 24, 25, 26, 27, 28, 29, 30, 31, 32, 33, 34, 35, 36, 37, 38, 39, 40, 41, 42, 102, 103, 104, 105, 106, 107, 108, 109, 110, 111, 112, 113, 114, 115, 116, 117, 118, 119, 120] (by decide +kernel) (by decide +kernel)
set_option maxRecDepth 20000 in
theorem gX8_days_X4_remember : GoodIn wsX8_days (wsV RX8 117 RX4 yX4_remember wsX4_remember) := goodIn_app (goodIn_of _ (by decide +kernel)) ggX8_days_X4_remember
set_option maxRecDepth 20000 in
theorem ggX8_days_X4_passDays : GoodIn wsX8_days wsX4_passDays := goodIn_r _ [46, 18, 21, 20, 47, 48, 49, 14, 50, 51, 52, 19, 53, 54, 55, 56, 57, 58, 59, 60, 61, 62, 63, 64, 65, 66, 67, 68, 69, 70, 71, 72, 73, 74, 75, 76, 77, 78, 102, 103, 104, 105, 106, 107, 108, 109, 110, 111, 112, 113, 114, 115, 116] (by decide +kernel) (by decide +kernel)
set_option maxRecDepth 20000 in
theorem gX8_days_X4_passDays : GoodIn wsX8_days (wsV RX8 120 RX4 yX4_passDays wsX4_passDays) := goodIn_app (goodIn_of _ (by decide +kernel)) ggX8_days_X4_passDays
set_option maxRecDepth 20000 in
theorem ggX8_days_X4_lapsedCount : GoodIn wsX8_days wsX4_lapsedCount := goodIn_r _ [82, 20, 83, 84, 85, 14, 86, 51, 102, 103, 104, 105, 106, 107, 108, 109, 110, 111, 112, 113, 114, 115, 116] (by decide +kernel) (by decide +kernel)
set_option maxRecDepth 20000 in
theorem gX8_days_X4_lapsedCount : GoodIn wsX8_days (wsV RX8 124 RX4 yX4_lapsedCount wsX4_lapsedCount) := goodIn_app (goodIn_of _ (by decide +kernel)) ggX8_days_X4_lapsedCount
theorem dX8_days_0 : decode cX8_days 0 = .ok (.iload_n 1, 1) := by decide +kernel
theorem dX8_days_1 : decode cX8_days 1 = .ok (.iconst 1, 1) := by decide +kernel
theorem dX8_days_2 : decode cX8_days 2 = .ok (.bipush 60, 2) := by decide +kernel
theorem dX8_days_4 : decode cX8_days 4 = .ok (.invokestatic 78, 3) := by decide +kernel
theorem dX8_days_7 : decode cX8_days 7 = .ok (.ifCond .ne 8, 3) := by decide +kernel
theorem dX8_days_10 : decode cX8_days 10 = .ok (.aload_n 0, 1) := by decide +kernel
theorem dX8_days_11 : decode cX8_days 11 = .ok (.invokevirtual 86, 3) := by decide +kernel
theorem dX8_days_14 : decode cX8_days 14 = .ok (.ireturn, 1) := by decide +kernel
theorem dX8_days_15 : decode cX8_days 15 = .ok (.aload_n 0, 1) := by decide +kernel
theorem dX8_days_16 : decode cX8_days 16 = .ok (.getfield 10, 3) := by decide +kernel
theorem dX8_days_19 : decode cX8_days 19 = .ok (.invokevirtual 117, 3) := by decide +kernel
theorem dX8_days_22 : decode cX8_days 22 = .ok (.aload_n 0, 1) := by decide +kernel
theorem dX8_days_23 : decode cX8_days 23 = .ok (.getfield 10, 3) := by decide +kernel
theorem dX8_days_26 : decode cX8_days 26 = .ok (.iload_n 1, 1) := by decide +kernel
theorem dX8_days_27 : decode cX8_days 27 = .ok (.invokevirtual 120, 3) := by decide +kernel
theorem dX8_days_30 : decode cX8_days 30 = .ok (.aload_n 0, 1) := by decide +kernel
theorem dX8_days_31 : decode cX8_days 31 = .ok (.getfield 10, 3) := by decide +kernel
theorem dX8_days_34 : decode cX8_days 34 = .ok (.invokevirtual 124, 3) := by decide +kernel
theorem dX8_days_37 : decode cX8_days 37 = .ok (.ireturn, 1) := by decide +kernel
set_option maxRecDepth 20000 in
theorem ggX8_goes_X8_isFamily : GoodIn wsX8_goes wsX8_isFamily := goodIn_r _ [7, 1, 8, 9, 10, 6, 11, 57, 58, 59, 60, 61, 62, 63, 64, 65, 66, 67, 68, 69, 70, 71, 72, 73, 74, 75, 76, 77, 78, 79, 80, 81, 82, 83, 84, 85, 86] (by decide +kernel) (by decide +kernel)
set_option maxRecDepth 20000 in
theorem gX8_goes_X8_isFamily : GoodIn wsX8_goes (wsV RX8 127 RX8 yX8_isFamily wsX8_isFamily) := goodIn_app (goodIn_of _ (by decide +kernel)) ggX8_goes_X8_isFamily
set_option maxRecDepth 20000 in
theorem ggX8_goes_X8_isCell : GoodIn wsX8_goes wsX8_isCell := goodIn_r _ [14, 9, 10, 6, 11] (by decide +kernel) (by decide +kernel)
set_option maxRecDepth 20000 in
theorem gX8_goes_X8_isCell : GoodIn wsX8_goes (va_wsS RX8 82 yX8_isCell wsX8_isCell) := goodIn_app (goodIn_of _ (by decide +kernel)) ggX8_goes_X8_isCell
set_option maxRecDepth 20000 in
theorem ggX8_goes_X8_bad : GoodIn wsX8_goes wsX8_bad := goodIn_r _ [18, 19, 57, 58, 59, 60, 61, 62, 63, 64, 65, 66, 67, 68, 69, 70, 71] (by decide +kernel) (by decide +kernel)
set_option maxRecDepth 20000 in
theorem gX8_goes_X8_bad : GoodIn wsX8_goes (wsV RX8 86 RX8 yX8_bad wsX8_bad) := goodIn_app (goodIn_of _ (by decide +kernel)) ggX8_goes_X8_bad
set_option maxRecDepth 20000 in
theorem ggX8_goes_X8_no : GoodIn wsX8_goes wsX8_no := goodIn_r _ [23, 24, 57, 58, 59, 60, 61, 62, 63, 64, 65, 66, 67, 68, 69, 70, 71] (by decide +kernel) (by decide +kernel)
set_option maxRecDepth 20000 in
theorem gX8_goes_X8_no : GoodIn wsX8_goes (wsV RX8 134 RX8 yX8_no wsX8_no) := goodIn_app (goodIn_of _ (by decide +kernel)) ggX8_goes_X8_no
set_option maxRecDepth 20000 in
theorem ggX8_goes_X4_remember : GoodIn wsX8_goes wsX4_remember := goodIn_r _ [29, 30, 31, 32, 33, 34, 35, 36, 37, 38, 39, 40, 41, 42, 43, 44, 45, 46, 47, 48, 49, 50, 51, 52, 53, 54, 55, 56, 72, 73, 74, 75, 76, 77, 78, 79, 80, 81, 82, 83, 84, 85, 86, 87, 88, 89, 90] (by decide +kernel) (by decide +kernel)
set_option maxRecDepth 20000 in
theorem gX8_goes_X4_remember : GoodIn wsX8_goes (wsV RX8 117 RX4 yX4_remember wsX4_remember) := goodIn_app (goodIn_of _ (by decide +kernel)) ggX8_goes_X4_remember
theorem dX8_goes_0 : decode cX8_goes 0 = .ok (.aload_n 0, 1) := by decide +kernel
theorem dX8_goes_1 : decode cX8_goes 1 = .ok (.iload_n 1, 1) := by decide +kernel
theorem dX8_goes_2 : decode cX8_goes 2 = .ok (.invokevirtual 127, 3) := by decide +kernel
theorem dX8_goes_5 : decode cX8_goes 5 = .ok (.ifCond .eq 10, 3) := by decide +kernel
theorem dX8_goes_8 : decode cX8_goes 8 = .ok (.iload_n 2, 1) := by decide +kernel
theorem dX8_goes_9 : decode cX8_goes 9 = .ok (.invokestatic 82, 3) := by decide +kernel
theorem dX8_goes_12 : decode cX8_goes 12 = .ok (.ifCond .ne 8, 3) := by decide +kernel
theorem dX8_goes_15 : decode cX8_goes 15 = .ok (.aload_n 0, 1) := by decide +kernel
theorem dX8_goes_16 : decode cX8_goes 16 = .ok (.invokevirtual 86, 3) := by decide +kernel
theorem dX8_goes_19 : decode cX8_goes 19 = .ok (.ireturn, 1) := by decide +kernel
theorem dX8_goes_20 : decode cX8_goes 20 = .ok (.aload_n 0, 1) := by decide +kernel
theorem dX8_goes_21 : decode cX8_goes 21 = .ok (.getfield 10, 3) := by decide +kernel
theorem dX8_goes_24 : decode cX8_goes 24 = .ok (.getfield 130, 3) := by decide +kernel
theorem dX8_goes_27 : decode cX8_goes 27 = .ok (.iload_n 1, 1) := by decide +kernel
theorem dX8_goes_28 : decode cX8_goes 28 = .ok (.iaload, 1) := by decide +kernel
theorem dX8_goes_29 : decode cX8_goes 29 = .ok (.istore_n 3, 1) := by decide +kernel
theorem dX8_goes_30 : decode cX8_goes 30 = .ok (.iload_n 3, 1) := by decide +kernel
theorem dX8_goes_31 : decode cX8_goes 31 = .ok (.iload_n 2, 1) := by decide +kernel
theorem dX8_goes_32 : decode cX8_goes 32 = .ok (.if_icmp .ne 8, 3) := by decide +kernel
theorem dX8_goes_35 : decode cX8_goes 35 = .ok (.aload_n 0, 1) := by decide +kernel
theorem dX8_goes_36 : decode cX8_goes 36 = .ok (.invokevirtual 134, 3) := by decide +kernel
theorem dX8_goes_39 : decode cX8_goes 39 = .ok (.ireturn, 1) := by decide +kernel
theorem dX8_goes_40 : decode cX8_goes 40 = .ok (.aload_n 0, 1) := by decide +kernel
theorem dX8_goes_41 : decode cX8_goes 41 = .ok (.getfield 10, 3) := by decide +kernel
theorem dX8_goes_44 : decode cX8_goes 44 = .ok (.invokevirtual 117, 3) := by decide +kernel
theorem dX8_goes_47 : decode cX8_goes 47 = .ok (.aload_n 0, 1) := by decide +kernel
theorem dX8_goes_48 : decode cX8_goes 48 = .ok (.getfield 10, 3) := by decide +kernel
theorem dX8_goes_51 : decode cX8_goes 51 = .ok (.getfield 130, 3) := by decide +kernel
theorem dX8_goes_54 : decode cX8_goes 54 = .ok (.iload_n 1, 1) := by decide +kernel
theorem dX8_goes_55 : decode cX8_goes 55 = .ok (.iload_n 2, 1) := by decide +kernel
theorem dX8_goes_56 : decode cX8_goes 56 = .ok (.iastore, 1) := by decide +kernel
theorem dX8_goes_57 : decode cX8_goes 57 = .ok (.iload_n 3, 1) := by decide +kernel
theorem dX8_goes_58 : decode cX8_goes 58 = .ok (.ireturn, 1) := by decide +kernel
set_option maxRecDepth 20000 in
theorem ggX8_turnip_X8_isFamily : GoodIn wsX8_turnip wsX8_isFamily := goodIn_r _ [11, 1, 12, 13, 14, 10, 15, 62, 63, 64, 65, 66, 67, 68, 69, 70, 71, 72, 73, 74, 75, 76, 77, 78, 79, 80, 81, 82, 83, 84, 85, 86, 87, 88, 89, 90, 91] (by decide +kernel) (by decide +kernel)
set_option maxRecDepth 20000 in
theorem gX8_turnip_X8_isFamily : GoodIn wsX8_turnip (wsV RX8 127 RX8 yX8_isFamily wsX8_isFamily) := goodIn_app (goodIn_of _ (by decide +kernel)) ggX8_turnip_X8_isFamily
set_option maxRecDepth 20000 in
theorem ggX8_turnip_X8_bad : GoodIn wsX8_turnip wsX8_bad := goodIn_r _ [19, 20, 62, 63, 64, 65, 66, 67, 68, 69, 70, 71, 72, 73, 74, 75, 76] (by decide +kernel) (by decide +kernel)
set_option maxRecDepth 20000 in
theorem gX8_turnip_X8_bad : GoodIn wsX8_turnip (wsV RX8 86 RX8 yX8_bad wsX8_bad) := goodIn_app (goodIn_of _ (by decide +kernel)) ggX8_turnip_X8_bad
set_option maxRecDepth 20000 in
theorem ggX8_turnip_X4_hasLapsed : GoodIn wsX8_turnip wsX4_hasLapsed := goodIn_r _ [25, 26, 77, 78, 79, 80, 81, 82, 83, 84, 85, 86, 87, 88, 89, 90, 91] (by decide +kernel) (by decide +kernel)
set_option maxRecDepth 20000 in
theorem gX8_turnip_X4_hasLapsed : GoodIn wsX8_turnip (wsV RX8 137 RX4 yX4_hasLapsed wsX4_hasLapsed) := goodIn_app (goodIn_of _ (by decide +kernel)) ggX8_turnip_X4_hasLapsed
set_option maxRecDepth 20000 in
theorem ggX8_turnip_X8_no : GoodIn wsX8_turnip wsX8_no := goodIn_r _ [30, 31, 62, 63, 64, 65, 66, 67, 68, 69, 70, 71, 72, 73, 74, 75, 76] (by decide +kernel) (by decide +kernel)
set_option maxRecDepth 20000 in
theorem gX8_turnip_X8_no : GoodIn wsX8_turnip (wsV RX8 134 RX8 yX8_no wsX8_no) := goodIn_app (goodIn_of _ (by decide +kernel)) ggX8_turnip_X8_no
set_option maxRecDepth 20000 in
theorem ggX8_turnip_X4_remember : GoodIn wsX8_turnip wsX4_remember := goodIn_r _ [35, 36, 37, 38, 39, 26, 40, 41, 42, 43, 44, 45, 46, 47, 48, 49, 50, 51, 52, 53, 54, 55, 56, 57, 58, 59, 60, 61, 77, 78, 79, 80, 81, 82, 83, 84, 85, 86, 87, 88, 89, 90, 91, 92, 93, 94, 95] (by decide +kernel) (by decide +kernel)
set_option maxRecDepth 20000 in
theorem gX8_turnip_X4_remember : GoodIn wsX8_turnip (wsV RX8 117 RX4 yX4_remember wsX4_remember) := goodIn_app (goodIn_of _ (by decide +kernel)) ggX8_turnip_X4_remember
theorem dX8_turnip_0 : decode cX8_turnip 0 = .ok (.aload_n 0, 1) := by decide +kernel
theorem dX8_turnip_1 : decode cX8_turnip 1 = .ok (.iload_n 1, 1) := by decide +kernel
theorem dX8_turnip_2 : decode cX8_turnip 2 = .ok (.invokevirtual 127, 3) := by decide +kernel
theorem dX8_turnip_5 : decode cX8_turnip 5 = .ok (.ifCond .ne 8, 3) := by decide +kernel
theorem dX8_turnip_8 : decode cX8_turnip 8 = .ok (.aload_n 0, 1) := by decide +kernel
theorem dX8_turnip_9 : decode cX8_turnip 9 = .ok (.invokevirtual 86, 3) := by decide +kernel
theorem dX8_turnip_12 : decode cX8_turnip 12 = .ok (.ireturn, 1) := by decide +kernel
theorem dX8_turnip_13 : decode cX8_turnip 13 = .ok (.aload_n 0, 1) := by decide +kernel
theorem dX8_turnip_14 : decode cX8_turnip 14 = .ok (.getfield 10, 3) := by decide +kernel
theorem dX8_turnip_17 : decode cX8_turnip 17 = .ok (.iload_n 1, 1) := by decide +kernel
theorem dX8_turnip_18 : decode cX8_turnip 18 = .ok (.invokevirtual 137, 3) := by decide +kernel
theorem dX8_turnip_21 : decode cX8_turnip 21 = .ok (.ifCond .eq 8, 3) := by decide +kernel
theorem dX8_turnip_24 : decode cX8_turnip 24 = .ok (.aload_n 0, 1) := by decide +kernel
theorem dX8_turnip_25 : decode cX8_turnip 25 = .ok (.invokevirtual 134, 3) := by decide +kernel
theorem dX8_turnip_28 : decode cX8_turnip 28 = .ok (.ireturn, 1) := by decide +kernel
theorem dX8_turnip_29 : decode cX8_turnip 29 = .ok (.aload_n 0, 1) := by decide +kernel
theorem dX8_turnip_30 : decode cX8_turnip 30 = .ok (.getfield 10, 3) := by decide +kernel
theorem dX8_turnip_33 : decode cX8_turnip 33 = .ok (.invokevirtual 117, 3) := by decide +kernel
theorem dX8_turnip_36 : decode cX8_turnip 36 = .ok (.aload_n 0, 1) := by decide +kernel
theorem dX8_turnip_37 : decode cX8_turnip 37 = .ok (.getfield 10, 3) := by decide +kernel
theorem dX8_turnip_40 : decode cX8_turnip 40 = .ok (.getfield 140, 3) := by decide +kernel
theorem dX8_turnip_43 : decode cX8_turnip 43 = .ok (.iload_n 1, 1) := by decide +kernel
theorem dX8_turnip_44 : decode cX8_turnip 44 = .ok (.bipush 99, 2) := by decide +kernel
theorem dX8_turnip_46 : decode cX8_turnip 46 = .ok (.aload_n 0, 1) := by decide +kernel
theorem dX8_turnip_47 : decode cX8_turnip 47 = .ok (.getfield 10, 3) := by decide +kernel
theorem dX8_turnip_50 : decode cX8_turnip 50 = .ok (.getfield 140, 3) := by decide +kernel
theorem dX8_turnip_53 : decode cX8_turnip 53 = .ok (.iload_n 1, 1) := by decide +kernel
theorem dX8_turnip_54 : decode cX8_turnip 54 = .ok (.iaload, 1) := by decide +kernel
theorem dX8_turnip_55 : decode cX8_turnip 55 = .ok (.iconst 3, 1) := by decide +kernel
theorem dX8_turnip_56 : decode cX8_turnip 56 = .ok (.iadd, 1) := by decide +kernel
theorem dX8_turnip_57 : decode cX8_turnip 57 = .ok (.invokestatic 143, 3) := by decide +kernel
theorem dX8_turnip_60 : decode cX8_turnip 60 = .ok (.iastore, 1) := by decide +kernel
theorem dX8_turnip_61 : decode cX8_turnip 61 = .ok (.aload_n 0, 1) := by decide +kernel
theorem dX8_turnip_62 : decode cX8_turnip 62 = .ok (.getfield 10, 3) := by decide +kernel
theorem dX8_turnip_65 : decode cX8_turnip 65 = .ok (.getfield 140, 3) := by decide +kernel
theorem dX8_turnip_68 : decode cX8_turnip 68 = .ok (.iload_n 1, 1) := by decide +kernel
theorem dX8_turnip_69 : decode cX8_turnip 69 = .ok (.iaload, 1) := by decide +kernel
theorem dX8_turnip_70 : decode cX8_turnip 70 = .ok (.ireturn, 1) := by decide +kernel
set_option maxRecDepth 20000 in
theorem ggX8_outs_X8_isFlitch : GoodIn wsX8_outs wsX8_isFlitch := goodIn_r _ [6, 1, 7, 8, 9, 5, 10, 56, 57, 58, 59, 60, 61, 62, 63, 64, 65, 66, 67, 68, 69, 70, 71, 72, 73, 74, 75, 76, 77, 78, 79, 80, 81, 82, 83, 84, 85] (by decide +kernel) (by decide +kernel)
set_option maxRecDepth 20000 in
theorem gX8_outs_X8_isFlitch : GoodIn wsX8_outs (wsV RX8 149 RX8 yX8_isFlitch wsX8_isFlitch) := goodIn_app (goodIn_of _ (by decide +kernel)) ggX8_outs_X8_isFlitch
set_option maxRecDepth 20000 in
theorem ggX8_outs_X8_bad : GoodIn wsX8_outs wsX8_bad := goodIn_r _ [14, 15, 56, 57, 58, 59, 60, 61, 62, 63, 64, 65, 66, 67, 68, 69, 70] (by decide +kernel) (by decide +kernel)
set_option maxRecDepth 20000 in
theorem gX8_outs_X8_bad : GoodIn wsX8_outs (wsV RX8 86 RX8 yX8_bad wsX8_bad) := goodIn_app (goodIn_of _ (by decide +kernel)) ggX8_outs_X8_bad
set_option maxRecDepth 20000 in
theorem ggX8_outs_X4_remember : GoodIn wsX8_outs wsX4_remember := goodIn_r _ [20, 21, 22, 23, 24, 25, 26, 27, 28, 29, 30, 31, 32, 33, 34, 35, 36, 37, 38, 39, 40, 41, 42, 43, 44, 45, 46, 47, 71, 72, 73, 74, 75, 76, 77, 78, 79, 80, 81, 82, 83, 84, 85, 86, 87, 88, 89] (by decide +kernel) (by decide +kernel)
set_option maxRecDepth 20000 in
theorem gX8_outs_X4_remember : GoodIn wsX8_outs (wsV RX8 117 RX4 yX4_remember wsX4_remember) := goodIn_app (goodIn_of _ (by decide +kernel)) ggX8_outs_X4_remember
set_option maxRecDepth 20000 in
theorem ggX8_outs_X4_turn : GoodIn wsX8_outs wsX4_turn := goodIn_r _ [51, 24, 71, 72, 73, 74, 75, 76, 77, 78, 79, 80, 81, 82, 83, 84, 85] (by decide +kernel) (by decide +kernel)
set_option maxRecDepth 20000 in
theorem gX8_outs_X4_turn : GoodIn wsX8_outs (wsV RX8 152 RX4 yX4_turn wsX4_turn) := goodIn_app (goodIn_of _ (by decide +kernel)) ggX8_outs_X4_turn
set_option maxRecDepth 20000 in
theorem ggX8_outs_X4_hungBit : GoodIn wsX8_outs wsX4_hungBit := goodIn_r _ [55, 24, 71, 72, 73, 74, 75, 76, 77, 78, 79, 80, 81, 82, 83, 84, 85] (by decide +kernel) (by decide +kernel)
set_option maxRecDepth 20000 in
theorem gX8_outs_X4_hungBit : GoodIn wsX8_outs (wsV RX8 155 RX4 yX4_hungBit wsX4_hungBit) := goodIn_app (goodIn_of _ (by decide +kernel)) ggX8_outs_X4_hungBit
theorem dX8_outs_0 : decode cX8_outs 0 = .ok (.aload_n 0, 1) := by decide +kernel
theorem dX8_outs_1 : decode cX8_outs 1 = .ok (.iload_n 1, 1) := by decide +kernel
theorem dX8_outs_2 : decode cX8_outs 2 = .ok (.invokevirtual 149, 3) := by decide +kernel
theorem dX8_outs_5 : decode cX8_outs 5 = .ok (.ifCond .ne 8, 3) := by decide +kernel
theorem dX8_outs_8 : decode cX8_outs 8 = .ok (.aload_n 0, 1) := by decide +kernel
theorem dX8_outs_9 : decode cX8_outs 9 = .ok (.invokevirtual 86, 3) := by decide +kernel
theorem dX8_outs_12 : decode cX8_outs 12 = .ok (.ireturn, 1) := by decide +kernel
theorem dX8_outs_13 : decode cX8_outs 13 = .ok (.aload_n 0, 1) := by decide +kernel
theorem dX8_outs_14 : decode cX8_outs 14 = .ok (.getfield 10, 3) := by decide +kernel
theorem dX8_outs_17 : decode cX8_outs 17 = .ok (.invokevirtual 117, 3) := by decide +kernel
theorem dX8_outs_20 : decode cX8_outs 20 = .ok (.aload_n 0, 1) := by decide +kernel
theorem dX8_outs_21 : decode cX8_outs 21 = .ok (.getfield 10, 3) := by decide +kernel
theorem dX8_outs_24 : decode cX8_outs 24 = .ok (.iload_n 1, 1) := by decide +kernel
theorem dX8_outs_25 : decode cX8_outs 25 = .ok (.invokevirtual 152, 3) := by decide +kernel
theorem dX8_outs_28 : decode cX8_outs 28 = .ok (.aload_n 0, 1) := by decide +kernel
theorem dX8_outs_29 : decode cX8_outs 29 = .ok (.getfield 10, 3) := by decide +kernel
theorem dX8_outs_32 : decode cX8_outs 32 = .ok (.iload_n 1, 1) := by decide +kernel
theorem dX8_outs_33 : decode cX8_outs 33 = .ok (.invokevirtual 155, 3) := by decide +kernel
theorem dX8_outs_36 : decode cX8_outs 36 = .ok (.ireturn, 1) := by decide +kernel
set_option maxRecDepth 20000 in
theorem ggX8_undo_X4_goBack : GoodIn wsX8_undo wsX4_goBack := goodIn_r _ [7, 8, 9, 10, 11, 12, 13, 14, 15, 16, 17, 18, 19, 20, 42, 43, 44, 45, 46, 47, 48, 49, 50, 51, 52, 53, 54, 55, 56, 57, 58, 59, 60] (by decide +kernel) (by decide +kernel)
set_option maxRecDepth 20000 in
theorem gX8_undo_X4_goBack : GoodIn wsX8_undo (wsV RX8 158 RX4 yX4_goBack wsX4_goBack) := goodIn_app (goodIn_of _ (by decide +kernel)) ggX8_undo_X4_goBack
set_option maxRecDepth 20000 in
theorem ggX8_undo_X8_no : GoodIn wsX8_undo wsX8_no := goodIn_r _ [25, 26, 27, 28, 29, 30, 31, 32, 33, 34, 35, 36, 37, 38, 39, 40, 41] (by decide +kernel) (by decide +kernel)
set_option maxRecDepth 20000 in
theorem gX8_undo_X8_no : GoodIn wsX8_undo (wsV RX8 134 RX8 yX8_no wsX8_no) := goodIn_app (goodIn_of _ (by decide +kernel)) ggX8_undo_X8_no
theorem dX8_undo_0 : decode cX8_undo 0 = .ok (.aload_n 0, 1) := by decide +kernel
theorem dX8_undo_1 : decode cX8_undo 1 = .ok (.getfield 10, 3) := by decide +kernel
theorem dX8_undo_4 : decode cX8_undo 4 = .ok (.invokevirtual 158, 3) := by decide +kernel
theorem dX8_undo_7 : decode cX8_undo 7 = .ok (.ifCond .ne 8, 3) := by decide +kernel
theorem dX8_undo_10 : decode cX8_undo 10 = .ok (.aload_n 0, 1) := by decide +kernel
theorem dX8_undo_11 : decode cX8_undo 11 = .ok (.invokevirtual 134, 3) := by decide +kernel
theorem dX8_undo_14 : decode cX8_undo 14 = .ok (.ireturn, 1) := by decide +kernel
theorem dX8_undo_15 : decode cX8_undo 15 = .ok (.aload_n 0, 1) := by decide +kernel
theorem dX8_undo_16 : decode cX8_undo 16 = .ok (.getfield 10, 3) := by decide +kernel
theorem dX8_undo_19 : decode cX8_undo 19 = .ok (.getfield 162, 3) := by decide +kernel
theorem dX8_undo_22 : decode cX8_undo 22 = .ok (.ireturn, 1) := by decide +kernel
set_option maxRecDepth 20000 in
theorem ggX8_of_X8_isFamily : GoodIn wsX8_of wsX8_isFamily := goodIn_r _ [6, 1, 7, 8, 9, 5, 10, 60, 61, 62, 63, 64, 65, 66, 67, 68, 69, 70, 71, 72, 73, 74, 75, 76, 77, 78, 79, 80, 81, 82, 83, 84, 85, 86, 87, 88, 89] (by decide +kernel) (by decide +kernel)
set_option maxRecDepth 20000 in
theorem gX8_of_X8_isFamily : GoodIn wsX8_of (wsV RX8 127 RX8 yX8_isFamily wsX8_isFamily) := goodIn_app (goodIn_of _ (by decide +kernel)) ggX8_of_X8_isFamily
set_option maxRecDepth 20000 in
theorem ggX8_of_X8_within : GoodIn wsX8_of wsX8_within := goodIn_r _ [10] (by decide +kernel) (by decide +kernel)
set_option maxRecDepth 20000 in
theorem gX8_of_X8_within : GoodIn wsX8_of (va_wsS RX8 78 yX8_within wsX8_within) := goodIn_app (goodIn_of _ (by decide +kernel)) ggX8_of_X8_within
set_option maxRecDepth 20000 in
theorem ggX8_of_X8_bad : GoodIn wsX8_of wsX8_bad := goodIn_r _ [14, 15, 60, 61, 62, 63, 64, 65, 66, 67, 68, 69, 70, 71, 72, 73, 74] (by decide +kernel) (by decide +kernel)
set_option maxRecDepth 20000 in
theorem gX8_of_X8_bad : GoodIn wsX8_of (wsV RX8 86 RX8 yX8_bad wsX8_bad) := goodIn_app (goodIn_of _ (by decide +kernel)) ggX8_of_X8_bad
set_option maxRecDepth 20000 in
theorem ggX8_of_X4_takenToday : GoodIn wsX8_of wsX4_takenToday := goodIn_r _ [20, 21, 22, 23, 24, 25, 26, 27, 19, 28, 29, 30, 31, 32, 33, 34, 35, 36, 37, 38, 39, 40, 41, 42, 43, 44, 45, 46, 47, 48, 49, 50, 51, 52, 53, 54, 75, 76, 77, 78, 79, 80, 81, 82, 83, 84, 85, 86, 87, 88, 89] (by decide +kernel) (by decide +kernel)
set_option maxRecDepth 20000 in
theorem gX8_of_X4_takenToday : GoodIn wsX8_of (wsV RX8 165 RX4 yX4_takenToday wsX4_takenToday) := goodIn_app (goodIn_of _ (by decide +kernel)) ggX8_of_X4_takenToday
set_option maxRecDepth 20000 in
theorem ggX8_of_X4_familyFact : GoodIn wsX8_of wsX4_familyFact := goodIn_r _ [58, 21, 59, 22, 29, 25, 26, 27, 19, 28, 75, 76, 77, 78, 79, 80, 81, 82, 83, 84, 85, 86, 87, 88, 89] (by decide +kernel) (by decide +kernel)
set_option maxRecDepth 20000 in
theorem gX8_of_X4_familyFact : GoodIn wsX8_of (wsV RX8 168 RX4 yX4_familyFact wsX4_familyFact) := goodIn_app (goodIn_of _ (by decide +kernel)) ggX8_of_X4_familyFact
theorem dX8_of_0 : decode cX8_of 0 = .ok (.aload_n 0, 1) := by decide +kernel
theorem dX8_of_1 : decode cX8_of 1 = .ok (.iload_n 1, 1) := by decide +kernel
theorem dX8_of_2 : decode cX8_of 2 = .ok (.invokevirtual 127, 3) := by decide +kernel
theorem dX8_of_5 : decode cX8_of 5 = .ok (.ifCond .eq 12, 3) := by decide +kernel
theorem dX8_of_8 : decode cX8_of 8 = .ok (.iload_n 2, 1) := by decide +kernel
theorem dX8_of_9 : decode cX8_of 9 = .ok (.iconst 0, 1) := by decide +kernel
theorem dX8_of_10 : decode cX8_of 10 = .ok (.iconst 5, 1) := by decide +kernel
theorem dX8_of_11 : decode cX8_of 11 = .ok (.invokestatic 78, 3) := by decide +kernel
theorem dX8_of_14 : decode cX8_of 14 = .ok (.ifCond .ne 8, 3) := by decide +kernel
theorem dX8_of_17 : decode cX8_of 17 = .ok (.aload_n 0, 1) := by decide +kernel
theorem dX8_of_18 : decode cX8_of 18 = .ok (.invokevirtual 86, 3) := by decide +kernel
theorem dX8_of_21 : decode cX8_of 21 = .ok (.ireturn, 1) := by decide +kernel
theorem dX8_of_22 : decode cX8_of 22 = .ok (.iload_n 2, 1) := by decide +kernel
theorem dX8_of_23 : decode cX8_of 23 = .ok (.iconst 5, 1) := by decide +kernel
theorem dX8_of_24 : decode cX8_of 24 = .ok (.if_icmp .ne 14, 3) := by decide +kernel
theorem dX8_of_27 : decode cX8_of 27 = .ok (.aload_n 0, 1) := by decide +kernel
theorem dX8_of_28 : decode cX8_of 28 = .ok (.getfield 10, 3) := by decide +kernel
theorem dX8_of_31 : decode cX8_of 31 = .ok (.iload_n 1, 1) := by decide +kernel
theorem dX8_of_32 : decode cX8_of 32 = .ok (.invokevirtual 165, 3) := by decide +kernel
theorem dX8_of_35 : decode cX8_of 35 = .ok (.goto 12, 3) := by decide +kernel
theorem dX8_of_38 : decode cX8_of 38 = .ok (.aload_n 0, 1) := by decide +kernel
theorem dX8_of_39 : decode cX8_of 39 = .ok (.getfield 10, 3) := by decide +kernel
theorem dX8_of_42 : decode cX8_of 42 = .ok (.iload_n 1, 1) := by decide +kernel
theorem dX8_of_43 : decode cX8_of 43 = .ok (.iload_n 2, 1) := by decide +kernel
theorem dX8_of_44 : decode cX8_of 44 = .ok (.invokevirtual 168, 3) := by decide +kernel
theorem dX8_of_47 : decode cX8_of 47 = .ok (.ireturn, 1) := by decide +kernel
set_option maxRecDepth 20000 in
theorem ggX8_about_X8_isFlitch : GoodIn wsX8_about wsX8_isFlitch := goodIn_r _ [6, 1, 7, 8, 9, 5, 10, 29, 30, 31, 32, 33, 34, 35, 36, 37, 38, 39, 40, 41, 42, 43, 44, 45, 46, 47, 48, 49, 50, 51, 52, 53, 54, 55, 56, 57, 58] (by decide +kernel) (by decide +kernel)
set_option maxRecDepth 20000 in
theorem gX8_about_X8_isFlitch : GoodIn wsX8_about (wsV RX8 149 RX8 yX8_isFlitch wsX8_isFlitch) := goodIn_app (goodIn_of _ (by decide +kernel)) ggX8_about_X8_isFlitch
set_option maxRecDepth 20000 in
theorem ggX8_about_X8_within : GoodIn wsX8_about wsX8_within := goodIn_r _ [10] (by decide +kernel) (by decide +kernel)
set_option maxRecDepth 20000 in
theorem gX8_about_X8_within : GoodIn wsX8_about (va_wsS RX8 78 yX8_within wsX8_within) := goodIn_app (goodIn_of _ (by decide +kernel)) ggX8_about_X8_within
set_option maxRecDepth 20000 in
theorem ggX8_about_X8_bad : GoodIn wsX8_about wsX8_bad := goodIn_r _ [14, 15, 29, 30, 31, 32, 33, 34, 35, 36, 37, 38, 39, 40, 41, 42, 43] (by decide +kernel) (by decide +kernel)
set_option maxRecDepth 20000 in
theorem gX8_about_X8_bad : GoodIn wsX8_about (wsV RX8 86 RX8 yX8_bad wsX8_bad) := goodIn_app (goodIn_of _ (by decide +kernel)) ggX8_about_X8_bad
set_option maxRecDepth 20000 in
theorem ggX8_about_X4_flitchFact : GoodIn wsX8_about wsX4_flitchFact := goodIn_r _ [20, 21, 22, 23, 24, 25, 26, 19, 27, 28, 44, 45, 46, 47, 48, 49, 50, 51, 52, 53, 54, 55, 56, 57, 58] (by decide +kernel) (by decide +kernel)
set_option maxRecDepth 20000 in
theorem gX8_about_X4_flitchFact : GoodIn wsX8_about (wsV RX8 171 RX4 yX4_flitchFact wsX4_flitchFact) := goodIn_app (goodIn_of _ (by decide +kernel)) ggX8_about_X4_flitchFact
theorem dX8_about_0 : decode cX8_about 0 = .ok (.aload_n 0, 1) := by decide +kernel
theorem dX8_about_1 : decode cX8_about 1 = .ok (.iload_n 1, 1) := by decide +kernel
theorem dX8_about_2 : decode cX8_about 2 = .ok (.invokevirtual 149, 3) := by decide +kernel
theorem dX8_about_5 : decode cX8_about 5 = .ok (.ifCond .eq 12, 3) := by decide +kernel
theorem dX8_about_8 : decode cX8_about 8 = .ok (.iload_n 2, 1) := by decide +kernel
theorem dX8_about_9 : decode cX8_about 9 = .ok (.iconst 0, 1) := by decide +kernel
theorem dX8_about_10 : decode cX8_about 10 = .ok (.iconst 3, 1) := by decide +kernel
theorem dX8_about_11 : decode cX8_about 11 = .ok (.invokestatic 78, 3) := by decide +kernel
theorem dX8_about_14 : decode cX8_about 14 = .ok (.ifCond .ne 8, 3) := by decide +kernel
theorem dX8_about_17 : decode cX8_about 17 = .ok (.aload_n 0, 1) := by decide +kernel
theorem dX8_about_18 : decode cX8_about 18 = .ok (.invokevirtual 86, 3) := by decide +kernel
theorem dX8_about_21 : decode cX8_about 21 = .ok (.ireturn, 1) := by decide +kernel
theorem dX8_about_22 : decode cX8_about 22 = .ok (.aload_n 0, 1) := by decide +kernel
theorem dX8_about_23 : decode cX8_about 23 = .ok (.getfield 10, 3) := by decide +kernel
theorem dX8_about_26 : decode cX8_about 26 = .ok (.iload_n 1, 1) := by decide +kernel
theorem dX8_about_27 : decode cX8_about 27 = .ok (.iload_n 2, 1) := by decide +kernel
theorem dX8_about_28 : decode cX8_about 28 = .ok (.invokevirtual 171, 3) := by decide +kernel
theorem dX8_about_31 : decode cX8_about 31 = .ok (.ireturn, 1) := by decide +kernel
set_option maxRecDepth 20000 in
theorem ggX8_smell_X8_isCell : GoodIn wsX8_smell wsX8_isCell := goodIn_r _ [7, 8, 9, 6, 10] (by decide +kernel) (by decide +kernel)
set_option maxRecDepth 20000 in
theorem gX8_smell_X8_isCell : GoodIn wsX8_smell (va_wsS RX8 82 yX8_isCell wsX8_isCell) := goodIn_app (goodIn_of _ (by decide +kernel)) ggX8_smell_X8_isCell
set_option maxRecDepth 20000 in
theorem ggX8_smell_X8_within : GoodIn wsX8_smell wsX8_within := goodIn_r _ [10] (by decide +kernel) (by decide +kernel)
set_option maxRecDepth 20000 in
theorem gX8_smell_X8_within : GoodIn wsX8_smell (va_wsS RX8 78 yX8_within wsX8_within) := goodIn_app (goodIn_of _ (by decide +kernel)) ggX8_smell_X8_within
set_option maxRecDepth 20000 in
theorem ggX8_smell_X8_bad : GoodIn wsX8_smell wsX8_bad := goodIn_r _ [14, 15, 33, 34, 35, 36, 37, 38, 39, 40, 41, 42, 43, 44, 45, 46, 47] (by decide +kernel) (by decide +kernel)
set_option maxRecDepth 20000 in
theorem gX8_smell_X8_bad : GoodIn wsX8_smell (wsV RX8 86 RX8 yX8_bad wsX8_bad) := goodIn_app (goodIn_of _ (by decide +kernel)) ggX8_smell_X8_bad
set_option maxRecDepth 20000 in
theorem ggX8_smell_X4_scentAt : GoodIn wsX8_smell wsX4_scentAt := goodIn_r _ [20, 21, 22, 23, 24, 25, 26, 27, 28, 29, 30, 31, 32, 48, 49, 50, 51, 52, 53, 54, 55, 56, 57, 58, 59, 60, 61, 62] (by decide +kernel) (by decide +kernel)
set_option maxRecDepth 20000 in
theorem gX8_smell_X4_scentAt : GoodIn wsX8_smell (wsV RX8 177 RX4 yX4_scentAt wsX4_scentAt) := goodIn_app (goodIn_of _ (by decide +kernel)) ggX8_smell_X4_scentAt
theorem dX8_smell_0 : decode cX8_smell 0 = .ok (.iload_n 1, 1) := by decide +kernel
theorem dX8_smell_1 : decode cX8_smell 1 = .ok (.invokestatic 82, 3) := by decide +kernel
theorem dX8_smell_4 : decode cX8_smell 4 = .ok (.ifCond .eq 13, 3) := by decide +kernel
theorem dX8_smell_7 : decode cX8_smell 7 = .ok (.iload_n 2, 1) := by decide +kernel
theorem dX8_smell_8 : decode cX8_smell 8 = .ok (.iconst 0, 1) := by decide +kernel
theorem dX8_smell_9 : decode cX8_smell 9 = .ok (.bipush 60, 2) := by decide +kernel
theorem dX8_smell_11 : decode cX8_smell 11 = .ok (.invokestatic 78, 3) := by decide +kernel
theorem dX8_smell_14 : decode cX8_smell 14 = .ok (.ifCond .ne 8, 3) := by decide +kernel
theorem dX8_smell_17 : decode cX8_smell 17 = .ok (.aload_n 0, 1) := by decide +kernel
theorem dX8_smell_18 : decode cX8_smell 18 = .ok (.invokevirtual 86, 3) := by decide +kernel
theorem dX8_smell_21 : decode cX8_smell 21 = .ok (.ireturn, 1) := by decide +kernel
theorem dX8_smell_22 : decode cX8_smell 22 = .ok (.aload_n 0, 1) := by decide +kernel
theorem dX8_smell_23 : decode cX8_smell 23 = .ok (.getfield 10, 3) := by decide +kernel
theorem dX8_smell_26 : decode cX8_smell 26 = .ok (.iload_n 1, 1) := by decide +kernel
theorem dX8_smell_27 : decode cX8_smell 27 = .ok (.aload_n 0, 1) := by decide +kernel
theorem dX8_smell_28 : decode cX8_smell 28 = .ok (.getfield 10, 3) := by decide +kernel
theorem dX8_smell_31 : decode cX8_smell 31 = .ok (.getfield 162, 3) := by decide +kernel
theorem dX8_smell_34 : decode cX8_smell 34 = .ok (.iload_n 2, 1) := by decide +kernel
theorem dX8_smell_35 : decode cX8_smell 35 = .ok (.iadd, 1) := by decide +kernel
theorem dX8_smell_36 : decode cX8_smell 36 = .ok (.aload_n 0, 1) := by decide +kernel
theorem dX8_smell_37 : decode cX8_smell 37 = .ok (.getfield 10, 3) := by decide +kernel
theorem dX8_smell_40 : decode cX8_smell 40 = .ok (.getfield 174, 3) := by decide +kernel
theorem dX8_smell_43 : decode cX8_smell 43 = .ok (.invokevirtual 177, 3) := by decide +kernel
theorem dX8_smell_46 : decode cX8_smell 46 = .ok (.ireturn, 1) := by decide +kernel
set_option maxRecDepth 20000 in
theorem ggX8_then_X8_isFamily : GoodIn wsX8_then wsX8_isFamily := goodIn_r _ [6, 7, 8, 9, 10, 5, 11, 60, 61, 62, 63, 64, 65, 66, 67, 68, 69, 70, 71, 72, 73, 74, 75, 76, 77, 78, 79, 80, 81, 82, 83, 84, 85, 86, 87, 88, 89] (by decide +kernel) (by decide +kernel)
set_option maxRecDepth 20000 in
theorem gX8_then_X8_isFamily : GoodIn wsX8_then (wsV RX8 127 RX8 yX8_isFamily wsX8_isFamily) := goodIn_app (goodIn_of _ (by decide +kernel)) ggX8_then_X8_isFamily
set_option maxRecDepth 20000 in
theorem ggX8_then_X8_within : GoodIn wsX8_then wsX8_within := goodIn_r _ [11] (by decide +kernel) (by decide +kernel)
set_option maxRecDepth 20000 in
theorem gX8_then_X8_within : GoodIn wsX8_then (va_wsS RX8 78 yX8_within wsX8_within) := goodIn_app (goodIn_of _ (by decide +kernel)) ggX8_then_X8_within
set_option maxRecDepth 20000 in
theorem ggX8_then_X8_bad : GoodIn wsX8_then wsX8_bad := goodIn_r _ [15, 16, 60, 61, 62, 63, 64, 65, 66, 67, 68, 69, 70, 71, 72, 73, 74] (by decide +kernel) (by decide +kernel)
set_option maxRecDepth 20000 in
theorem gX8_then_X8_bad : GoodIn wsX8_then (wsV RX8 86 RX8 yX8_bad wsX8_bad) := goodIn_app (goodIn_of _ (by decide +kernel)) ggX8_then_X8_bad
set_option maxRecDepth 20000 in
theorem ggX8_then_X1_willAfter : GoodIn wsX8_then wsX1_willAfter := goodIn_r _ [21, 22, 23, 24, 25, 26, 27, 28, 29, 30, 31, 32, 33, 34, 20, 35, 36, 37, 38, 39, 40, 41, 42, 43, 44, 45, 46, 47, 48, 49, 50, 51, 52, 53, 54, 55, 56, 57, 58, 59, 90, 91, 92, 93, 94, 95, 96, 75, 76, 77, 78, 79, 80, 81, 82, 83, 84, 85, 86, 87, 88, 89] (by decide +kernel) (by decide +kernel)
set_option maxRecDepth 20000 in
theorem gX8_then_X1_willAfter : GoodIn wsX8_then (wsV RX8 181 RX1 yX1_willAfter wsX1_willAfter) := goodIn_app (goodIn_of _ (by decide +kernel)) ggX8_then_X1_willAfter
theorem dX8_then_0 : decode cX8_then 0 = .ok (.aload_n 0, 1) := by decide +kernel
theorem dX8_then_1 : decode cX8_then 1 = .ok (.iload_n 1, 1) := by decide +kernel
theorem dX8_then_2 : decode cX8_then 2 = .ok (.invokevirtual 127, 3) := by decide +kernel
theorem dX8_then_5 : decode cX8_then 5 = .ok (.ifCond .eq 13, 3) := by decide +kernel
theorem dX8_then_8 : decode cX8_then 8 = .ok (.iload_n 2, 1) := by decide +kernel
theorem dX8_then_9 : decode cX8_then 9 = .ok (.iconst 0, 1) := by decide +kernel
theorem dX8_then_10 : decode cX8_then 10 = .ok (.bipush 60, 2) := by decide +kernel
theorem dX8_then_12 : decode cX8_then 12 = .ok (.invokestatic 78, 3) := by decide +kernel
theorem dX8_then_15 : decode cX8_then 15 = .ok (.ifCond .ne 8, 3) := by decide +kernel
theorem dX8_then_18 : decode cX8_then 18 = .ok (.aload_n 0, 1) := by decide +kernel
theorem dX8_then_19 : decode cX8_then 19 = .ok (.invokevirtual 86, 3) := by decide +kernel
theorem dX8_then_22 : decode cX8_then 22 = .ok (.ireturn, 1) := by decide +kernel
theorem dX8_then_23 : decode cX8_then 23 = .ok (.aload_n 0, 1) := by decide +kernel
theorem dX8_then_24 : decode cX8_then 24 = .ok (.getfield 33, 3) := by decide +kernel
theorem dX8_then_27 : decode cX8_then 27 = .ok (.iload_n 1, 1) := by decide +kernel
theorem dX8_then_28 : decode cX8_then 28 = .ok (.iload_n 2, 1) := by decide +kernel
theorem dX8_then_29 : decode cX8_then 29 = .ok (.invokevirtual 181, 3) := by decide +kernel
theorem dX8_then_32 : decode cX8_then 32 = .ok (.ireturn, 1) := by decide +kernel
set_option maxRecDepth 20000 in
theorem ggX8_when_X8_isFamily : GoodIn wsX8_when wsX8_isFamily := goodIn_r _ [8, 2, 9, 10, 11, 7, 12, 63, 64, 65, 66, 67, 68, 69, 70, 71, 72, 73, 74, 75, 76, 77, 78, 79, 80, 81, 82, 83, 84, 85, 86, 87, 88, 89, 90, 91, 92] (by decide +kernel) (by decide +kernel)
set_option maxRecDepth 20000 in
theorem gX8_when_X8_isFamily : GoodIn wsX8_when (wsV RX8 127 RX8 yX8_isFamily wsX8_isFamily) := goodIn_app (goodIn_of _ (by decide +kernel)) ggX8_when_X8_isFamily
set_option maxRecDepth 20000 in
theorem ggX8_when_X8_bad : GoodIn wsX8_when wsX8_bad := goodIn_r _ [16, 17, 63, 64, 65, 66, 67, 68, 69, 70, 71, 72, 73, 74, 75, 76, 77] (by decide +kernel) (by decide +kernel)
set_option maxRecDepth 20000 in
theorem gX8_when_X8_bad : GoodIn wsX8_when (wsV RX8 86 RX8 yX8_bad wsX8_bad) := goodIn_app (goodIn_of _ (by decide +kernel)) ggX8_when_X8_bad
set_option maxRecDepth 20000 in
theorem ggX8_when_X1_lapseWithin : GoodIn wsX8_when wsX1_lapseWithin := goodIn_r _ [22, 23, 24, 25, 26, 27, 28, 29, 21, 30, 31, 32, 33, 34, 35, 36, 37, 38, 39, 40, 41, 42, 43, 44, 45, 46, 47, 48, 49, 50, 51, 52, 53, 54, 55, 56, 57, 58, 59, 60, 61, 62, 93, 94, 95, 96, 97, 98, 99, 78, 79, 80, 81, 82, 83, 84, 85, 86, 87, 88, 89, 90, 91, 92] (by decide +kernel) (by decide +kernel)
set_option maxRecDepth 20000 in
theorem gX8_when_X1_lapseWithin : GoodIn wsX8_when (wsV RX8 184 RX1 yX1_lapseWithin wsX1_lapseWithin) := goodIn_app (goodIn_of _ (by decide +kernel)) ggX8_when_X1_lapseWithin
theorem dX8_when_0 : decode cX8_when 0 = .ok (.aload_n 0, 1) := by decide +kernel
theorem dX8_when_1 : decode cX8_when 1 = .ok (.iload_n 1, 1) := by decide +kernel
theorem dX8_when_2 : decode cX8_when 2 = .ok (.invokevirtual 127, 3) := by decide +kernel
theorem dX8_when_5 : decode cX8_when 5 = .ok (.ifCond .ne 8, 3) := by decide +kernel
theorem dX8_when_8 : decode cX8_when 8 = .ok (.aload_n 0, 1) := by decide +kernel
theorem dX8_when_9 : decode cX8_when 9 = .ok (.invokevirtual 86, 3) := by decide +kernel
theorem dX8_when_12 : decode cX8_when 12 = .ok (.ireturn, 1) := by decide +kernel
theorem dX8_when_13 : decode cX8_when 13 = .ok (.aload_n 0, 1) := by decide +kernel
theorem dX8_when_14 : decode cX8_when 14 = .ok (.getfield 33, 3) := by decide +kernel
theorem dX8_when_17 : decode cX8_when 17 = .ok (.iload_n 1, 1) := by decide +kernel
theorem dX8_when_18 : decode cX8_when 18 = .ok (.aload_n 0, 1) := by decide +kernel
theorem dX8_when_19 : decode cX8_when 19 = .ok (.getfield 10, 3) := by decide +kernel
theorem dX8_when_22 : decode cX8_when 22 = .ok (.getfield 130, 3) := by decide +kernel
theorem dX8_when_25 : decode cX8_when 25 = .ok (.iload_n 1, 1) := by decide +kernel
theorem dX8_when_26 : decode cX8_when 26 = .ok (.iaload, 1) := by decide +kernel
theorem dX8_when_27 : decode cX8_when 27 = .ok (.bipush 60, 2) := by decide +kernel
theorem dX8_when_29 : decode cX8_when 29 = .ok (.invokevirtual 184, 3) := by decide +kernel
theorem dX8_when_32 : decode cX8_when 32 = .ok (.ireturn, 1) := by decide +kernel
set_option maxRecDepth 20000 in
theorem ggX8_right_X1_rightAfter : GoodIn wsX8_right wsX1_rightAfter := goodIn_r _ [6, 7, 8, 9, 5, 10, 11, 12, 13, 14, 15, 16, 17, 18, 19, 20, 21, 22, 23, 24, 25, 26, 27, 28, 29, 30, 31, 32, 33, 34, 35, 36, 37, 38, 39, 40, 41, 42, 43, 44, 45, 46, 47, 48, 49, 50, 51, 52, 53, 54, 55, 56, 57, 58, 74, 75, 76, 77, 78, 79, 80, 81, 82, 83, 84, 85, 86, 87, 88, 89, 90, 91, 92, 93, 94, 95] (by decide +kernel) (by decide +kernel)
set_option maxRecDepth 20000 in
theorem gX8_right_X1_rightAfter : GoodIn wsX8_right (wsV RX8 187 RX1 yX1_rightAfter wsX1_rightAfter) := goodIn_app (goodIn_of _ (by decide +kernel)) ggX8_right_X1_rightAfter
theorem dX8_right_0 : decode cX8_right 0 = .ok (.aload_n 0, 1) := by decide +kernel
theorem dX8_right_1 : decode cX8_right 1 = .ok (.getfield 33, 3) := by decide +kernel
theorem dX8_right_4 : decode cX8_right 4 = .ok (.iconst 0, 1) := by decide +kernel
theorem dX8_right_5 : decode cX8_right 5 = .ok (.invokevirtual 187, 3) := by decide +kernel
theorem dX8_right_8 : decode cX8_right 8 = .ok (.ireturn, 1) := by decide +kernel
set_option maxRecDepth 20000 in
theorem ggX8_ends_X8_within : GoodIn wsX8_ends wsX8_within := goodIn_r _ [5] (by decide +kernel) (by decide +kernel)
set_option maxRecDepth 20000 in
theorem gX8_ends_X8_within : GoodIn wsX8_ends (va_wsS RX8 78 yX8_within wsX8_within) := goodIn_app (goodIn_of _ (by decide +kernel)) ggX8_ends_X8_within
set_option maxRecDepth 20000 in
theorem ggX8_ends_X8_bad : GoodIn wsX8_ends wsX8_bad := goodIn_r _ [9, 10, 72, 73, 74, 75, 76, 77, 78, 79, 80, 81, 82, 83, 84, 85, 86] (by decide +kernel) (by decide +kernel)
set_option maxRecDepth 20000 in
theorem gX8_ends_X8_bad : GoodIn wsX8_ends (wsV RX8 86 RX8 yX8_bad wsX8_bad) := goodIn_app (goodIn_of _ (by decide +kernel)) ggX8_ends_X8_bad
set_option maxRecDepth 20000 in
theorem ggX8_ends_X1_endOfCase : GoodIn wsX8_ends wsX1_endOfCase := goodIn_r _ [15, 16, 17, 18, 14, 19, 20, 21, 22, 23, 24, 25, 26, 27, 28, 29, 30, 31, 32, 33, 34, 35, 36, 37, 38, 39, 40, 41, 42, 43, 44, 45, 46, 47, 48, 49, 50, 51, 52, 53, 54, 55, 56, 57, 58, 59, 60, 61, 62, 63, 64, 65, 66, 67, 87, 88, 89, 90, 91, 92, 93, 94, 95, 96, 97, 98, 99, 100, 101, 102, 103, 104, 105, 106, 107, 108] (by decide +kernel) (by decide +kernel)
set_option maxRecDepth 20000 in
theorem gX8_ends_X1_endOfCase : GoodIn wsX8_ends (wsV RX8 190 RX1 yX1_endOfCase wsX1_endOfCase) := goodIn_app (goodIn_of _ (by decide +kernel)) ggX8_ends_X1_endOfCase
set_option maxRecDepth 20000 in
theorem ggX8_ends_X1_rightAfter : GoodIn wsX8_ends wsX1_rightAfter := goodIn_r _ [71, 16, 17, 18, 14, 19, 20, 21, 22, 23, 24, 25, 26, 27, 28, 29, 30, 31, 32, 33, 34, 35, 36, 37, 38, 39, 40, 41, 42, 43, 44, 45, 46, 47, 48, 49, 50, 51, 52, 53, 54, 55, 56, 57, 58, 59, 60, 61, 62, 63, 64, 65, 66, 67, 87, 88, 89, 90, 91, 92, 93, 94, 95, 96, 97, 98, 99, 100, 101, 102, 103, 104, 105, 106, 107, 108] (by decide +kernel) (by decide +kernel)
set_option maxRecDepth 20000 in
theorem gX8_ends_X1_rightAfter : GoodIn wsX8_ends (wsV RX8 187 RX1 yX1_rightAfter wsX1_rightAfter) := goodIn_app (goodIn_of _ (by decide +kernel)) ggX8_ends_X1_rightAfter
theorem dX8_ends_0 : decode cX8_ends 0 = .ok (.iload_n 1, 1) := by decide +kernel
theorem dX8_ends_1 : decode cX8_ends 1 = .ok (.iconst 0, 1) := by decide +kernel
theorem dX8_ends_2 : decode cX8_ends 2 = .ok (.iconst 1, 1) := by decide +kernel
theorem dX8_ends_3 : decode cX8_ends 3 = .ok (.invokestatic 78, 3) := by decide +kernel
theorem dX8_ends_6 : decode cX8_ends 6 = .ok (.ifCond .ne 8, 3) := by decide +kernel
theorem dX8_ends_9 : decode cX8_ends 9 = .ok (.aload_n 0, 1) := by decide +kernel
theorem dX8_ends_10 : decode cX8_ends 10 = .ok (.invokevirtual 86, 3) := by decide +kernel
theorem dX8_ends_13 : decode cX8_ends 13 = .ok (.ireturn, 1) := by decide +kernel
theorem dX8_ends_14 : decode cX8_ends 14 = .ok (.aload_n 0, 1) := by decide +kernel
theorem dX8_ends_15 : decode cX8_ends 15 = .ok (.getfield 33, 3) := by decide +kernel
theorem dX8_ends_18 : decode cX8_ends 18 = .ok (.invokevirtual 190, 3) := by decide +kernel
theorem dX8_ends_21 : decode cX8_ends 21 = .ok (.istore_n 2, 1) := by decide +kernel
theorem dX8_ends_22 : decode cX8_ends 22 = .ok (.iload_n 1, 1) := by decide +kernel
theorem dX8_ends_23 : decode cX8_ends 23 = .ok (.ifCond .eq 8, 3) := by decide +kernel
theorem dX8_ends_26 : decode cX8_ends 26 = .ok (.iload_n 2, 1) := by decide +kernel
theorem dX8_ends_27 : decode cX8_ends 27 = .ok (.iconst (-1), 1) := by decide +kernel
theorem dX8_ends_28 : decode cX8_ends 28 = .ok (.if_icmp .ne 5, 3) := by decide +kernel
theorem dX8_ends_31 : decode cX8_ends 31 = .ok (.iload_n 2, 1) := by decide +kernel
theorem dX8_ends_32 : decode cX8_ends 32 = .ok (.ireturn, 1) := by decide +kernel
theorem dX8_ends_33 : decode cX8_ends 33 = .ok (.aload_n 0, 1) := by decide +kernel
theorem dX8_ends_34 : decode cX8_ends 34 = .ok (.getfield 33, 3) := by decide +kernel
theorem dX8_ends_37 : decode cX8_ends 37 = .ok (.iload_n 2, 1) := by decide +kernel
theorem dX8_ends_38 : decode cX8_ends 38 = .ok (.invokevirtual 187, 3) := by decide +kernel
theorem dX8_ends_41 : decode cX8_ends 41 = .ok (.ireturn, 1) := by decide +kernel
set_option maxRecDepth 20000 in
theorem ggX8_way_X8_isCell : GoodIn wsX8_way wsX8_isCell := goodIn_r _ [5, 6, 7, 4, 8] (by decide +kernel) (by decide +kernel)
set_option maxRecDepth 20000 in
theorem gX8_way_X8_isCell : GoodIn wsX8_way (va_wsS RX8 82 yX8_isCell wsX8_isCell) := goodIn_app (goodIn_of _ (by decide +kernel)) ggX8_way_X8_isCell
set_option maxRecDepth 20000 in
theorem ggX8_way_X8_badApart : GoodIn wsX8_way wsX8_badApart := goodIn_r _ [12, 13, 66, 67, 68, 69, 70, 71, 72, 73, 74, 75, 76, 77, 78, 79, 80] (by decide +kernel) (by decide +kernel)
set_option maxRecDepth 20000 in
theorem gX8_way_X8_badApart : GoodIn wsX8_way (wsV RX8 193 RX8 yX8_badApart wsX8_badApart) := goodIn_app (goodIn_of _ (by decide +kernel)) ggX8_way_X8_badApart
set_option maxRecDepth 20000 in
theorem ggX8_way_X5_leadTo : GoodIn wsX8_way wsX5_leadTo := goodIn_r _ [18, 19, 20, 21, 22, 23, 24, 25, 26, 27, 28, 29, 30, 31, 32, 33, 34, 35, 36, 37, 38, 39, 40, 41, 42, 43, 44, 45, 17, 46, 47, 48, 49, 81, 82, 83, 84, 85, 86, 87, 88, 89, 90, 91, 92, 93, 94, 95, 96, 97, 98, 99] (by decide +kernel) (by decide +kernel)
set_option maxRecDepth 20000 in
theorem gX8_way_X5_leadTo : GoodIn wsX8_way (wsV RX8 196 RX5 yX5_leadTo wsX5_leadTo) := goodIn_app (goodIn_of _ (by decide +kernel)) ggX8_way_X5_leadTo
set_option maxRecDepth 20000 in
theorem ggX8_way_X5_smellFrom : GoodIn wsX8_way wsX5_smellFrom := goodIn_r _ [53, 24, 81, 82, 83, 84] (by decide +kernel) (by decide +kernel)
set_option maxRecDepth 20000 in
theorem gX8_way_X5_smellFrom : GoodIn wsX8_way (wsV RX8 199 RX5 yX5_smellFrom wsX5_smellFrom) := goodIn_app (goodIn_of _ (by decide +kernel)) ggX8_way_X5_smellFrom
set_option maxRecDepth 20000 in
theorem ggX8_way_X5_stepsFrom : GoodIn wsX8_way wsX5_stepsFrom := goodIn_r _ [57, 24, 81, 82, 83, 84] (by decide +kernel) (by decide +kernel)
set_option maxRecDepth 20000 in
theorem gX8_way_X5_stepsFrom : GoodIn wsX8_way (wsV RX8 202 RX5 yX5_stepsFrom wsX5_stepsFrom) := goodIn_app (goodIn_of _ (by decide +kernel)) ggX8_way_X5_stepsFrom
set_option maxRecDepth 20000 in
theorem ggX8_way_X5_cellOfStep : GoodIn wsX8_way wsX5_cellOfStep := goodIn_r _ [61, 19, 62, 63, 64, 17, 65, 24, 20, 47, 48, 49, 81, 82, 83, 84] (by decide +kernel) (by decide +kernel)
set_option maxRecDepth 20000 in
theorem gX8_way_X5_cellOfStep : GoodIn wsX8_way (wsV RX8 205 RX5 yX5_cellOfStep wsX5_cellOfStep) := goodIn_app (goodIn_of _ (by decide +kernel)) ggX8_way_X5_cellOfStep
theorem dX8_way_0 : decode cX8_way 0 = .ok (.iload_n 1, 1) := by decide +kernel
theorem dX8_way_1 : decode cX8_way 1 = .ok (.invokestatic 82, 3) := by decide +kernel
theorem dX8_way_4 : decode cX8_way 4 = .ok (.ifCond .eq 21, 3) := by decide +kernel
theorem dX8_way_7 : decode cX8_way 7 = .ok (.iload_n 2, 1) := by decide +kernel
theorem dX8_way_8 : decode cX8_way 8 = .ok (.invokestatic 82, 3) := by decide +kernel
theorem dX8_way_11 : decode cX8_way 11 = .ok (.ifCond .eq 14, 3) := by decide +kernel
theorem dX8_way_14 : decode cX8_way 14 = .ok (.iload_n 3, 1) := by decide +kernel
theorem dX8_way_15 : decode cX8_way 15 = .ok (.bipush (-3), 2) := by decide +kernel
theorem dX8_way_17 : decode cX8_way 17 = .ok (.if_icmp .lt 8, 3) := by decide +kernel
theorem dX8_way_20 : decode cX8_way 20 = .ok (.iload_n 3, 1) := by decide +kernel
theorem dX8_way_21 : decode cX8_way 21 = .ok (.iconst (-1), 1) := by decide +kernel
theorem dX8_way_22 : decode cX8_way 22 = .ok (.if_icmp .ne 8, 3) := by decide +kernel
theorem dX8_way_25 : decode cX8_way 25 = .ok (.aload_n 0, 1) := by decide +kernel
theorem dX8_way_26 : decode cX8_way 26 = .ok (.invokevirtual 193, 3) := by decide +kernel
theorem dX8_way_29 : decode cX8_way 29 = .ok (.ireturn, 1) := by decide +kernel
theorem dX8_way_30 : decode cX8_way 30 = .ok (.aload_n 0, 1) := by decide +kernel
theorem dX8_way_31 : decode cX8_way 31 = .ok (.getfield 40, 3) := by decide +kernel
theorem dX8_way_34 : decode cX8_way 34 = .ok (.iload_n 2, 1) := by decide +kernel
theorem dX8_way_35 : decode cX8_way 35 = .ok (.invokevirtual 196, 3) := by decide +kernel
theorem dX8_way_38 : decode cX8_way 38 = .ok (.iload_n 3, 1) := by decide +kernel
theorem dX8_way_39 : decode cX8_way 39 = .ok (.bipush (-2), 2) := by decide +kernel
theorem dX8_way_41 : decode cX8_way 41 = .ok (.if_icmp .ne 12, 3) := by decide +kernel
theorem dX8_way_44 : decode cX8_way 44 = .ok (.aload_n 0, 1) := by decide +kernel
theorem dX8_way_45 : decode cX8_way 45 = .ok (.getfield 40, 3) := by decide +kernel
theorem dX8_way_48 : decode cX8_way 48 = .ok (.iload_n 1, 1) := by decide +kernel
theorem dX8_way_49 : decode cX8_way 49 = .ok (.invokevirtual 199, 3) := by decide +kernel
theorem dX8_way_52 : decode cX8_way 52 = .ok (.ireturn, 1) := by decide +kernel
theorem dX8_way_53 : decode cX8_way 53 = .ok (.iload_n 3, 1) := by decide +kernel
theorem dX8_way_54 : decode cX8_way 54 = .ok (.bipush (-3), 2) := by decide +kernel
theorem dX8_way_56 : decode cX8_way 56 = .ok (.if_icmp .ne 12, 3) := by decide +kernel
theorem dX8_way_59 : decode cX8_way 59 = .ok (.aload_n 0, 1) := by decide +kernel
theorem dX8_way_60 : decode cX8_way 60 = .ok (.getfield 40, 3) := by decide +kernel
theorem dX8_way_63 : decode cX8_way 63 = .ok (.iload_n 1, 1) := by decide +kernel
theorem dX8_way_64 : decode cX8_way 64 = .ok (.invokevirtual 202, 3) := by decide +kernel
theorem dX8_way_67 : decode cX8_way 67 = .ok (.ireturn, 1) := by decide +kernel
theorem dX8_way_68 : decode cX8_way 68 = .ok (.iload_n 3, 1) := by decide +kernel
theorem dX8_way_69 : decode cX8_way 69 = .ok (.aload_n 0, 1) := by decide +kernel
theorem dX8_way_70 : decode cX8_way 70 = .ok (.getfield 40, 3) := by decide +kernel
theorem dX8_way_73 : decode cX8_way 73 = .ok (.iload_n 1, 1) := by decide +kernel
theorem dX8_way_74 : decode cX8_way 74 = .ok (.invokevirtual 202, 3) := by decide +kernel
theorem dX8_way_77 : decode cX8_way 77 = .ok (.if_icmp .ge 15, 3) := by decide +kernel
theorem dX8_way_80 : decode cX8_way 80 = .ok (.aload_n 0, 1) := by decide +kernel
theorem dX8_way_81 : decode cX8_way 81 = .ok (.getfield 40, 3) := by decide +kernel
theorem dX8_way_84 : decode cX8_way 84 = .ok (.iload_n 1, 1) := by decide +kernel
theorem dX8_way_85 : decode cX8_way 85 = .ok (.iload_n 3, 1) := by decide +kernel
theorem dX8_way_86 : decode cX8_way 86 = .ok (.invokevirtual 205, 3) := by decide +kernel
theorem dX8_way_89 : decode cX8_way 89 = .ok (.goto 5, 3) := by decide +kernel
theorem dX8_way_92 : decode cX8_way 92 = .ok (.bipush (-5), 2) := by decide +kernel
theorem dX8_way_94 : decode cX8_way 94 = .ok (.ireturn, 1) := by decide +kernel
set_option maxRecDepth 20000 in
theorem ggX8_home_X8_isFamily : GoodIn wsX8_home wsX8_isFamily := goodIn_r _ [6, 7, 8, 9, 10, 5, 11, 66, 67, 68, 69, 70, 71, 72, 73, 74, 75, 76, 77, 78, 79, 80, 81, 82, 83, 84, 85, 86, 87, 88, 89, 90, 91, 92, 93, 94, 95] (by decide +kernel) (by decide +kernel)
set_option maxRecDepth 20000 in
theorem gX8_home_X8_isFamily : GoodIn wsX8_home (wsV RX8 127 RX8 yX8_isFamily wsX8_isFamily) := goodIn_app (goodIn_of _ (by decide +kernel)) ggX8_home_X8_isFamily
set_option maxRecDepth 20000 in
theorem ggX8_home_X8_bad : GoodIn wsX8_home wsX8_bad := goodIn_r _ [15, 16, 66, 67, 68, 69, 70, 71, 72, 73, 74, 75, 76, 77, 78, 79, 80] (by decide +kernel) (by decide +kernel)
set_option maxRecDepth 20000 in
theorem gX8_home_X8_bad : GoodIn wsX8_home (wsV RX8 86 RX8 yX8_bad wsX8_bad) := goodIn_app (goodIn_of _ (by decide +kernel)) ggX8_home_X8_bad
set_option maxRecDepth 20000 in
theorem ggX8_home_X1_bestCell : GoodIn wsX8_home wsX1_bestCell := goodIn_r _ [21, 22, 23, 24, 20, 25, 26, 27, 28, 29, 30, 31, 32, 33, 34, 35, 36, 37, 38, 39, 40, 41, 42, 43, 44, 45, 46, 47, 48, 49, 50, 51, 52, 53, 54, 55, 56, 57, 58, 59, 60, 61, 62, 63, 64, 65, 96, 97, 98, 99, 100, 101, 102, 81, 82, 83, 84, 85, 86, 87, 88, 89, 90, 91, 92, 93, 94, 95] (by decide +kernel) (by decide +kernel)
set_option maxRecDepth 20000 in
theorem gX8_home_X1_bestCell : GoodIn wsX8_home (wsV RX8 208 RX1 yX1_bestCell wsX1_bestCell) := goodIn_app (goodIn_of _ (by decide +kernel)) ggX8_home_X1_bestCell
theorem dX8_home_0 : decode cX8_home 0 = .ok (.aload_n 0, 1) := by decide +kernel
theorem dX8_home_1 : decode cX8_home 1 = .ok (.iload_n 1, 1) := by decide +kernel
theorem dX8_home_2 : decode cX8_home 2 = .ok (.invokevirtual 127, 3) := by decide +kernel
theorem dX8_home_5 : decode cX8_home 5 = .ok (.ifCond .ne 8, 3) := by decide +kernel
theorem dX8_home_8 : decode cX8_home 8 = .ok (.aload_n 0, 1) := by decide +kernel
theorem dX8_home_9 : decode cX8_home 9 = .ok (.invokevirtual 86, 3) := by decide +kernel
theorem dX8_home_12 : decode cX8_home 12 = .ok (.ireturn, 1) := by decide +kernel
theorem dX8_home_13 : decode cX8_home 13 = .ok (.aload_n 0, 1) := by decide +kernel
theorem dX8_home_14 : decode cX8_home 14 = .ok (.getfield 33, 3) := by decide +kernel
theorem dX8_home_17 : decode cX8_home 17 = .ok (.iload_n 1, 1) := by decide +kernel
theorem dX8_home_18 : decode cX8_home 18 = .ok (.invokevirtual 208, 3) := by decide +kernel
theorem dX8_home_21 : decode cX8_home 21 = .ok (.ireturn, 1) := by decide +kernel
set_option maxRecDepth 20000 in
theorem ggX8_quiet_X8_within : GoodIn wsX8_quiet wsX8_within := goodIn_r _ [5] (by decide +kernel) (by decide +kernel)
set_option maxRecDepth 20000 in
theorem gX8_quiet_X8_within : GoodIn wsX8_quiet (va_wsS RX8 78 yX8_within wsX8_within) := goodIn_app (goodIn_of _ (by decide +kernel)) ggX8_quiet_X8_within
set_option maxRecDepth 20000 in
theorem ggX8_quiet_X8_bad : GoodIn wsX8_quiet wsX8_bad := goodIn_r _ [9, 10, 70, 71, 72, 73, 74, 75, 76, 77, 78, 79, 80, 81, 82, 83, 84] (by decide +kernel) (by decide +kernel)
set_option maxRecDepth 20000 in
theorem gX8_quiet_X8_bad : GoodIn wsX8_quiet (wsV RX8 86 RX8 yX8_bad wsX8_bad) := goodIn_app (goodIn_of _ (by decide +kernel)) ggX8_quiet_X8_bad
set_option maxRecDepth 20000 in
theorem ggX8_quiet_X1_fewestOut : GoodIn wsX8_quiet wsX1_fewestOut := goodIn_r _ [15, 16, 17, 18, 19, 20, 21, 22, 23, 24, 25, 26, 27, 14, 28, 29, 30, 31, 32, 33, 34, 35, 36, 37, 38, 39, 40, 41, 42, 43, 44, 45, 46, 47, 48, 49, 50, 51, 52, 53, 54, 55, 56, 57, 58, 59, 60, 61, 62, 63, 64, 65, 66, 67, 68, 69, 85, 86, 87, 88, 89, 90, 91, 92, 93, 94, 95, 96, 97, 98, 99, 100, 101, 102, 103, 104, 105, 106] (by decide +kernel) (by decide +kernel)
set_option maxRecDepth 20000 in
theorem gX8_quiet_X1_fewestOut : GoodIn wsX8_quiet (wsV RX8 211 RX1 yX1_fewestOut wsX1_fewestOut) := goodIn_app (goodIn_of _ (by decide +kernel)) ggX8_quiet_X1_fewestOut
theorem dX8_quiet_0 : decode cX8_quiet 0 = .ok (.iload_n 1, 1) := by decide +kernel
theorem dX8_quiet_1 : decode cX8_quiet 1 = .ok (.iconst 1, 1) := by decide +kernel
theorem dX8_quiet_2 : decode cX8_quiet 2 = .ok (.bipush 60, 2) := by decide +kernel
theorem dX8_quiet_4 : decode cX8_quiet 4 = .ok (.invokestatic 78, 3) := by decide +kernel
theorem dX8_quiet_7 : decode cX8_quiet 7 = .ok (.ifCond .ne 8, 3) := by decide +kernel
theorem dX8_quiet_10 : decode cX8_quiet 10 = .ok (.aload_n 0, 1) := by decide +kernel
theorem dX8_quiet_11 : decode cX8_quiet 11 = .ok (.invokevirtual 86, 3) := by decide +kernel
theorem dX8_quiet_14 : decode cX8_quiet 14 = .ok (.ireturn, 1) := by decide +kernel
theorem dX8_quiet_15 : decode cX8_quiet 15 = .ok (.aload_n 0, 1) := by decide +kernel
theorem dX8_quiet_16 : decode cX8_quiet 16 = .ok (.getfield 33, 3) := by decide +kernel
theorem dX8_quiet_19 : decode cX8_quiet 19 = .ok (.iload_n 1, 1) := by decide +kernel
theorem dX8_quiet_20 : decode cX8_quiet 20 = .ok (.invokevirtual 211, 3) := by decide +kernel
theorem dX8_quiet_23 : decode cX8_quiet 23 = .ok (.ireturn, 1) := by decide +kernel
set_option maxRecDepth 20000 in
theorem ggX8_marry_X8_isFamily : GoodIn wsX8_marry wsX8_isFamily := goodIn_r _ [8, 9, 10, 11, 12, 7, 13, 50, 51, 52, 53, 54, 55, 56, 57, 58, 59, 60, 61, 62, 63, 64, 69, 70, 71, 72, 73, 74, 75, 76, 77, 78, 79, 80, 81, 82, 83] (by decide +kernel) (by decide +kernel)
set_option maxRecDepth 20000 in
theorem gX8_marry_X8_isFamily : GoodIn wsX8_marry (wsV RX8 127 RX8 yX8_isFamily wsX8_isFamily) := goodIn_app (goodIn_of _ (by decide +kernel)) ggX8_marry_X8_isFamily
set_option maxRecDepth 20000 in
theorem ggX8_marry_X8_badApart : GoodIn wsX8_marry wsX8_badApart := goodIn_r _ [17, 18, 50, 51, 52, 53, 54, 55, 56, 57, 58, 59, 60, 61, 62, 63, 64] (by decide +kernel) (by decide +kernel)
set_option maxRecDepth 20000 in
theorem gX8_marry_X8_badApart : GoodIn wsX8_marry (wsV RX8 193 RX8 yX8_badApart wsX8_badApart) := goodIn_app (goodIn_of _ (by decide +kernel)) ggX8_marry_X8_badApart
set_option maxRecDepth 20000 in
theorem ggX8_marry_X0_pairAll : GoodIn wsX8_marry wsX0_pairAll := goodIn_r _ [23, 24, 25, 26, 27, 22, 28, 29, 30, 31, 32, 33, 34, 35, 36, 37, 38, 39, 40, 41, 42, 43, 44, 45, 46, 47, 48, 49, 65, 66, 67, 68, 69, 70, 71, 72, 73, 74, 75, 76, 77, 78, 79, 80, 81, 82, 83] (by decide +kernel) (by decide +kernel)
set_option maxRecDepth 20000 in
theorem gX8_marry_X0_pairAll : GoodIn wsX8_marry (wsV RX8 214 RX0 yX0_pairAll wsX0_pairAll) := goodIn_app (goodIn_of _ (by decide +kernel)) ggX8_marry_X0_pairAll
theorem dX8_marry_0 : decode cX8_marry 0 = .ok (.iload_n 1, 1) := by decide +kernel
theorem dX8_marry_1 : decode cX8_marry 1 = .ok (.iconst (-1), 1) := by decide +kernel
theorem dX8_marry_2 : decode cX8_marry 2 = .ok (.if_icmp .eq 16, 3) := by decide +kernel
theorem dX8_marry_5 : decode cX8_marry 5 = .ok (.aload_n 0, 1) := by decide +kernel
theorem dX8_marry_6 : decode cX8_marry 6 = .ok (.iload_n 1, 1) := by decide +kernel
theorem dX8_marry_7 : decode cX8_marry 7 = .ok (.invokevirtual 127, 3) := by decide +kernel
theorem dX8_marry_10 : decode cX8_marry 10 = .ok (.ifCond .ne 8, 3) := by decide +kernel
theorem dX8_marry_13 : decode cX8_marry 13 = .ok (.aload_n 0, 1) := by decide +kernel
theorem dX8_marry_14 : decode cX8_marry 14 = .ok (.invokevirtual 193, 3) := by decide +kernel
theorem dX8_marry_17 : decode cX8_marry 17 = .ok (.ireturn, 1) := by decide +kernel
theorem dX8_marry_18 : decode cX8_marry 18 = .ok (.aload_n 0, 1) := by decide +kernel
theorem dX8_marry_19 : decode cX8_marry 19 = .ok (.getfield 47, 3) := by decide +kernel
theorem dX8_marry_22 : decode cX8_marry 22 = .ok (.invokevirtual 214, 3) := by decide +kernel
theorem dX8_marry_25 : decode cX8_marry 25 = .ok (.iload_n 1, 1) := by decide +kernel
theorem dX8_marry_26 : decode cX8_marry 26 = .ok (.iconst (-1), 1) := by decide +kernel
theorem dX8_marry_27 : decode cX8_marry 27 = .ok (.if_icmp .ne 13, 3) := by decide +kernel
theorem dX8_marry_30 : decode cX8_marry 30 = .ok (.aload_n 0, 1) := by decide +kernel
theorem dX8_marry_31 : decode cX8_marry 31 = .ok (.getfield 47, 3) := by decide +kernel
theorem dX8_marry_34 : decode cX8_marry 34 = .ok (.getfield 217, 3) := by decide +kernel
theorem dX8_marry_37 : decode cX8_marry 37 = .ok (.goto 12, 3) := by decide +kernel
theorem dX8_marry_40 : decode cX8_marry 40 = .ok (.aload_n 0, 1) := by decide +kernel
theorem dX8_marry_41 : decode cX8_marry 41 = .ok (.getfield 47, 3) := by decide +kernel
theorem dX8_marry_44 : decode cX8_marry 44 = .ok (.getfield 220, 3) := by decide +kernel
theorem dX8_marry_47 : decode cX8_marry 47 = .ok (.iload_n 1, 1) := by decide +kernel
theorem dX8_marry_48 : decode cX8_marry 48 = .ok (.iaload, 1) := by decide +kernel
theorem dX8_marry_49 : decode cX8_marry 49 = .ok (.ireturn, 1) := by decide +kernel
set_option maxRecDepth 20000 in
theorem ggX8_seen_X8_isFamily : GoodIn wsX8_seen wsX8_isFamily := goodIn_r _ [7, 1, 8, 9, 10, 6, 11, 44, 45, 46, 47, 48, 49, 50, 51, 52, 53, 54, 55, 56, 57, 58, 59, 60, 61, 62, 63, 64, 65, 66, 67, 68, 69, 70, 71, 72, 73] (by decide +kernel) (by decide +kernel)
set_option maxRecDepth 20000 in
theorem gX8_seen_X8_isFamily : GoodIn wsX8_seen (wsV RX8 127 RX8 yX8_isFamily wsX8_isFamily) := goodIn_app (goodIn_of _ (by decide +kernel)) ggX8_seen_X8_isFamily
set_option maxRecDepth 20000 in
theorem ggX8_seen_X8_within : GoodIn wsX8_seen wsX8_within := goodIn_r _ [11] (by decide +kernel) (by decide +kernel)
set_option maxRecDepth 20000 in
theorem gX8_seen_X8_within : GoodIn wsX8_seen (va_wsS RX8 78 yX8_within wsX8_within) := goodIn_app (goodIn_of _ (by decide +kernel)) ggX8_seen_X8_within
set_option maxRecDepth 20000 in
theorem ggX8_seen_X8_bad : GoodIn wsX8_seen wsX8_bad := goodIn_r _ [15, 16, 44, 45, 46, 47, 48, 49, 50, 51, 52, 53, 54, 55, 56, 57, 58] (by decide +kernel) (by decide +kernel)
set_option maxRecDepth 20000 in
theorem gX8_seen_X8_bad : GoodIn wsX8_seen (wsV RX8 86 RX8 yX8_bad wsX8_bad) := goodIn_app (goodIn_of _ (by decide +kernel)) ggX8_seen_X8_bad
set_option maxRecDepth 20000 in
theorem ggX8_seen_X8_entered : GoodIn wsX8_seen wsX8_entered := goodIn_r _ [20, 21, 22, 23, 24, 25, 26, 27, 28, 29, 30, 31, 6, 32, 33, 34, 35, 36, 37, 38, 39, 40, 41, 42, 43, 74, 75, 76, 77, 44, 45, 46, 47, 48, 49, 50, 51, 52, 53, 54, 55, 56, 57, 58] (by decide +kernel) (by decide +kernel)
set_option maxRecDepth 20000 in
theorem gX8_seen_X8_entered : GoodIn wsX8_seen (wsV RX8 227 RX8 yX8_entered wsX8_entered) := goodIn_app (goodIn_of _ (by decide +kernel)) ggX8_seen_X8_entered
theorem dX8_seen_0 : decode cX8_seen 0 = .ok (.aload_n 0, 1) := by decide +kernel
theorem dX8_seen_1 : decode cX8_seen 1 = .ok (.iload_n 1, 1) := by decide +kernel
theorem dX8_seen_2 : decode cX8_seen 2 = .ok (.invokevirtual 127, 3) := by decide +kernel
theorem dX8_seen_5 : decode cX8_seen 5 = .ok (.ifCond .eq 22, 3) := by decide +kernel
theorem dX8_seen_8 : decode cX8_seen 8 = .ok (.iload_n 2, 1) := by decide +kernel
theorem dX8_seen_9 : decode cX8_seen 9 = .ok (.iconst 0, 1) := by decide +kernel
theorem dX8_seen_10 : decode cX8_seen 10 = .ok (.bipush 60, 2) := by decide +kernel
theorem dX8_seen_12 : decode cX8_seen 12 = .ok (.invokestatic 78, 3) := by decide +kernel
theorem dX8_seen_15 : decode cX8_seen 15 = .ok (.ifCond .eq 12, 3) := by decide +kernel
theorem dX8_seen_18 : decode cX8_seen 18 = .ok (.iload_n 3, 1) := by decide +kernel
theorem dX8_seen_19 : decode cX8_seen 19 = .ok (.iconst 0, 1) := by decide +kernel
theorem dX8_seen_20 : decode cX8_seen 20 = .ok (.iconst 1, 1) := by decide +kernel
theorem dX8_seen_21 : decode cX8_seen 21 = .ok (.invokestatic 78, 3) := by decide +kernel
theorem dX8_seen_24 : decode cX8_seen 24 = .ok (.ifCond .ne 8, 3) := by decide +kernel
theorem dX8_seen_27 : decode cX8_seen 27 = .ok (.aload_n 0, 1) := by decide +kernel
theorem dX8_seen_28 : decode cX8_seen 28 = .ok (.invokevirtual 86, 3) := by decide +kernel
theorem dX8_seen_31 : decode cX8_seen 31 = .ok (.ireturn, 1) := by decide +kernel
theorem dX8_seen_32 : decode cX8_seen 32 = .ok (.aload_n 0, 1) := by decide +kernel
theorem dX8_seen_33 : decode cX8_seen 33 = .ok (.aload_n 0, 1) := by decide +kernel
theorem dX8_seen_34 : decode cX8_seen 34 = .ok (.getfield 10, 3) := by decide +kernel
theorem dX8_seen_37 : decode cX8_seen 37 = .ok (.getfield 223, 3) := by decide +kernel
theorem dX8_seen_40 : decode cX8_seen 40 = .ok (.iload_n 1, 1) := by decide +kernel
theorem dX8_seen_41 : decode cX8_seen 41 = .ok (.iload_n 2, 1) := by decide +kernel
theorem dX8_seen_42 : decode cX8_seen 42 = .ok (.iload_n 3, 1) := by decide +kernel
theorem dX8_seen_43 : decode cX8_seen 43 = .ok (.iconst 0, 1) := by decide +kernel
theorem dX8_seen_44 : decode cX8_seen 44 = .ok (.iconst 0, 1) := by decide +kernel
theorem dX8_seen_45 : decode cX8_seen 45 = .ok (.invokevirtual 227, 3) := by decide +kernel
theorem dX8_seen_48 : decode cX8_seen 48 = .ok (.ireturn, 1) := by decide +kernel
set_option maxRecDepth 20000 in
theorem ggX8_wills_X8_isFamily : GoodIn wsX8_wills wsX8_isFamily := goodIn_r _ [6, 7, 8, 9, 10, 5, 11, 71, 72, 73, 74, 75, 76, 77, 78, 79, 80, 81, 82, 83, 84, 85, 86, 87, 88, 89, 90, 91, 92, 93, 94, 95, 96, 97, 98, 99, 100] (by decide +kernel) (by decide +kernel)
set_option maxRecDepth 20000 in
theorem gX8_wills_X8_isFamily : GoodIn wsX8_wills (wsV RX8 127 RX8 yX8_isFamily wsX8_isFamily) := goodIn_app (goodIn_of _ (by decide +kernel)) ggX8_wills_X8_isFamily
set_option maxRecDepth 20000 in
theorem ggX8_wills_X8_within : GoodIn wsX8_wills wsX8_within := goodIn_r _ [11] (by decide +kernel) (by decide +kernel)
set_option maxRecDepth 20000 in
theorem gX8_wills_X8_within : GoodIn wsX8_wills (va_wsS RX8 78 yX8_within wsX8_within) := goodIn_app (goodIn_of _ (by decide +kernel)) ggX8_wills_X8_within
set_option maxRecDepth 20000 in
theorem ggX8_wills_X8_bad : GoodIn wsX8_wills wsX8_bad := goodIn_r _ [15, 16, 71, 72, 73, 74, 75, 76, 77, 78, 79, 80, 81, 82, 83, 84, 85] (by decide +kernel) (by decide +kernel)
set_option maxRecDepth 20000 in
theorem gX8_wills_X8_bad : GoodIn wsX8_wills (wsV RX8 86 RX8 yX8_bad wsX8_bad) := goodIn_app (goodIn_of _ (by decide +kernel)) ggX8_wills_X8_bad
set_option maxRecDepth 20000 in
theorem ggX8_wills_X1_fittingWills : GoodIn wsX8_wills wsX1_fittingWills := goodIn_r _ [21, 22, 23, 24, 25, 26, 27, 28, 20, 29, 30, 31, 32, 33, 34, 35, 36, 37, 38, 39, 40, 41, 42, 43, 44, 45, 46, 47, 48, 49, 50, 51, 52, 53, 54, 55, 56, 57, 58, 59, 60, 61, 62, 63, 64, 65, 66, 67, 68, 69, 70, 101, 102, 103, 104, 105, 106, 107, 86, 87, 88, 89, 90, 91, 92, 93, 94, 95, 96, 97, 98, 99, 100, 108, 109, 110, 111] (by decide +kernel) (by decide +kernel)
set_option maxRecDepth 20000 in
theorem gX8_wills_X1_fittingWills : GoodIn wsX8_wills (wsV RX8 231 RX1 yX1_fittingWills wsX1_fittingWills) := goodIn_app (goodIn_of _ (by decide +kernel)) ggX8_wills_X1_fittingWills
theorem dX8_wills_0 : decode cX8_wills 0 = .ok (.aload_n 0, 1) := by decide +kernel
theorem dX8_wills_1 : decode cX8_wills 1 = .ok (.iload_n 1, 1) := by decide +kernel
theorem dX8_wills_2 : decode cX8_wills 2 = .ok (.invokevirtual 127, 3) := by decide +kernel
theorem dX8_wills_5 : decode cX8_wills 5 = .ok (.ifCond .eq 12, 3) := by decide +kernel
theorem dX8_wills_8 : decode cX8_wills 8 = .ok (.iload_n 2, 1) := by decide +kernel
theorem dX8_wills_9 : decode cX8_wills 9 = .ok (.iconst 0, 1) := by decide +kernel
theorem dX8_wills_10 : decode cX8_wills 10 = .ok (.iconst 2, 1) := by decide +kernel
theorem dX8_wills_11 : decode cX8_wills 11 = .ok (.invokestatic 78, 3) := by decide +kernel
theorem dX8_wills_14 : decode cX8_wills 14 = .ok (.ifCond .ne 8, 3) := by decide +kernel
theorem dX8_wills_17 : decode cX8_wills 17 = .ok (.aload_n 0, 1) := by decide +kernel
theorem dX8_wills_18 : decode cX8_wills 18 = .ok (.invokevirtual 86, 3) := by decide +kernel
theorem dX8_wills_21 : decode cX8_wills 21 = .ok (.ireturn, 1) := by decide +kernel
theorem dX8_wills_22 : decode cX8_wills 22 = .ok (.aload_n 0, 1) := by decide +kernel
theorem dX8_wills_23 : decode cX8_wills 23 = .ok (.getfield 33, 3) := by decide +kernel
theorem dX8_wills_26 : decode cX8_wills 26 = .ok (.iload_n 1, 1) := by decide +kernel
theorem dX8_wills_27 : decode cX8_wills 27 = .ok (.iload_n 2, 1) := by decide +kernel
theorem dX8_wills_28 : decode cX8_wills 28 = .ok (.invokevirtual 231, 3) := by decide +kernel
theorem dX8_wills_31 : decode cX8_wills 31 = .ok (.ireturn, 1) := by decide +kernel

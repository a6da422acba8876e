set_option maxRecDepth 20000 in
theorem gX9_type_X9_in : GoodIn wsX9_type (va_wsS RX9 52 yX9_in wsX9_in) := goodIn_app (goodIn_of _ (by decide +kernel)) ggX9_type_X9_in
set_option maxRecDepth 20000 in
theorem ggX9_type_X9_refuse : GoodIn wsX9_type wsX9_refuse := goodIn_r _ [10, 11, 12, 13, 14, 15, 16, 17, 18, 19, 20, 21, 22, 23, 24, 25, 26, 27, 28, 29] (by decide +kernel) (by decide +kernel)
set_option maxRecDepth 20000 in
theorem gX9_type_X9_refuse : GoodIn wsX9_type (wsV RX9 45 RX9 yX9_refuse wsX9_refuse) := goodIn_app (goodIn_of _ (by decide +kernel)) ggX9_type_X9_refuse
theorem dX9_type_0 : decode cX9_type 0 = .ok (.iload_n 1, 1) := by decide +kernel
theorem dX9_type_1 : decode cX9_type 1 = .ok (.iconst 0, 1) := by decide +kernel
theorem dX9_type_2 : decode cX9_type 2 = .ok (.bipush 127, 2) := by decide +kernel
theorem dX9_type_4 : decode cX9_type 4 = .ok (.invokestatic 52, 3) := by decide +kernel
theorem dX9_type_7 : decode cX9_type 7 = .ok (.ifCond .ne 10, 3) := by decide +kernel
theorem dX9_type_10 : decode cX9_type 10 = .ok (.aload_n 0, 1) := by decide +kernel
theorem dX9_type_11 : decode cX9_type 11 = .ok (.bipush (-2), 2) := by decide +kernel
theorem dX9_type_13 : decode cX9_type 13 = .ok (.invokevirtual 45, 3) := by decide +kernel
theorem dX9_type_16 : decode cX9_type 16 = .ok (.ireturn, 1) := by decide +kernel
theorem dX9_type_17 : decode cX9_type 17 = .ok (.aload_n 0, 1) := by decide +kernel
theorem dX9_type_18 : decode cX9_type 18 = .ok (.getfield 64, 3) := by decide +kernel
theorem dX9_type_21 : decode cX9_type 21 = .ok (.sipush 150, 3) := by decide +kernel
theorem dX9_type_24 : decode cX9_type 24 = .ok (.if_icmp .ne 10, 3) := by decide +kernel
theorem dX9_type_27 : decode cX9_type 27 = .ok (.aload_n 0, 1) := by decide +kernel
theorem dX9_type_28 : decode cX9_type 28 = .ok (.bipush (-4), 2) := by decide +kernel
theorem dX9_type_30 : decode cX9_type 30 = .ok (.invokevirtual 45, 3) := by decide +kernel
theorem dX9_type_33 : decode cX9_type 33 = .ok (.ireturn, 1) := by decide +kernel
theorem dX9_type_34 : decode cX9_type 34 = .ok (.aload_n 0, 1) := by decide +kernel
theorem dX9_type_35 : decode cX9_type 35 = .ok (.getfield 24, 3) := by decide +kernel
theorem dX9_type_38 : decode cX9_type 38 = .ok (.aload_n 0, 1) := by decide +kernel
theorem dX9_type_39 : decode cX9_type 39 = .ok (.getfield 64, 3) := by decide +kernel
theorem dX9_type_42 : decode cX9_type 42 = .ok (.iload_n 1, 1) := by decide +kernel
theorem dX9_type_43 : decode cX9_type 43 = .ok (.iastore, 1) := by decide +kernel
theorem dX9_type_44 : decode cX9_type 44 = .ok (.aload_n 0, 1) := by decide +kernel
theorem dX9_type_45 : decode cX9_type 45 = .ok (.dup, 1) := by decide +kernel
theorem dX9_type_46 : decode cX9_type 46 = .ok (.getfield 64, 3) := by decide +kernel
theorem dX9_type_49 : decode cX9_type 49 = .ok (.iconst 1, 1) := by decide +kernel
theorem dX9_type_50 : decode cX9_type 50 = .ok (.iadd, 1) := by decide +kernel
theorem dX9_type_51 : decode cX9_type 51 = .ok (.putfield 64, 3) := by decide +kernel
theorem dX9_type_54 : decode cX9_type 54 = .ok (.aload_n 0, 1) := by decide +kernel
theorem dX9_type_55 : decode cX9_type 55 = .ok (.getfield 64, 3) := by decide +kernel
theorem dX9_type_58 : decode cX9_type 58 = .ok (.ireturn, 1) := by decide +kernel
theorem dX9_clear_0 : decode cX9_clear 0 = .ok (.aload_n 0, 1) := by decide +kernel
theorem dX9_clear_1 : decode cX9_clear 1 = .ok (.getfield 64, 3) := by decide +kernel
theorem dX9_clear_4 : decode cX9_clear 4 = .ok (.istore_n 1, 1) := by decide +kernel
theorem dX9_clear_5 : decode cX9_clear 5 = .ok (.aload_n 0, 1) := by decide +kernel
theorem dX9_clear_6 : decode cX9_clear 6 = .ok (.iconst 0, 1) := by decide +kernel
theorem dX9_clear_7 : decode cX9_clear 7 = .ok (.putfield 64, 3) := by decide +kernel
theorem dX9_clear_10 : decode cX9_clear 10 = .ok (.iload_n 1, 1) := by decide +kernel
theorem dX9_clear_11 : decode cX9_clear 11 = .ok (.ireturn, 1) := by decide +kernel
set_option maxRecDepth 20000 in
theorem ggX9_isLetter_X9_in : GoodIn wsX9_isLetter wsX9_in := goodIn_r _ [6] (by decide +kernel) (by decide +kernel)
set_option maxRecDepth 20000 in
theorem gX9_isLetter_X9_in : GoodIn wsX9_isLetter (va_wsS RX9 52 yX9_in wsX9_in) := goodIn_app (goodIn_of _ (by decide +kernel)) ggX9_isLetter_X9_in
theorem dX9_isLetter_0 : decode cX9_isLetter 0 = .ok (.iload_n 1, 1) := by decide +kernel
theorem dX9_isLetter_1 : decode cX9_isLetter 1 = .ok (.aload_n 0, 1) := by decide +kernel
theorem dX9_isLetter_2 : decode cX9_isLetter 2 = .ok (.getfield 64, 3) := by decide +kernel
theorem dX9_isLetter_5 : decode cX9_isLetter 5 = .ok (.if_icmp .ge 23, 3) := by decide +kernel
theorem dX9_isLetter_8 : decode cX9_isLetter 8 = .ok (.aload_n 0, 1) := by decide +kernel
theorem dX9_isLetter_9 : decode cX9_isLetter 9 = .ok (.getfield 24, 3) := by decide +kernel
theorem dX9_isLetter_12 : decode cX9_isLetter 12 = .ok (.iload_n 1, 1) := by decide +kernel
theorem dX9_isLetter_13 : decode cX9_isLetter 13 = .ok (.iaload, 1) := by decide +kernel
theorem dX9_isLetter_14 : decode cX9_isLetter 14 = .ok (.bipush 97, 2) := by decide +kernel
theorem dX9_isLetter_16 : decode cX9_isLetter 16 = .ok (.bipush 122, 2) := by decide +kernel
theorem dX9_isLetter_18 : decode cX9_isLetter 18 = .ok (.invokestatic 52, 3) := by decide +kernel
theorem dX9_isLetter_21 : decode cX9_isLetter 21 = .ok (.ifCond .eq 7, 3) := by decide +kernel
theorem dX9_isLetter_24 : decode cX9_isLetter 24 = .ok (.iconst 1, 1) := by decide +kernel
theorem dX9_isLetter_25 : decode cX9_isLetter 25 = .ok (.goto 4, 3) := by decide +kernel
theorem dX9_isLetter_28 : decode cX9_isLetter 28 = .ok (.iconst 0, 1) := by decide +kernel
theorem dX9_isLetter_29 : decode cX9_isLetter 29 = .ok (.ireturn, 1) := by decide +kernel
set_option maxRecDepth 20000 in
theorem ggX9_isFigure_X9_in : GoodIn wsX9_isFigure wsX9_in := goodIn_r _ [6] (by decide +kernel) (by decide +kernel)
set_option maxRecDepth 20000 in
theorem gX9_isFigure_X9_in : GoodIn wsX9_isFigure (va_wsS RX9 52 yX9_in wsX9_in) := goodIn_app (goodIn_of _ (by decide +kernel)) ggX9_isFigure_X9_in
theorem dX9_isFigure_0 : decode cX9_isFigure 0 = .ok (.iload_n 1, 1) := by decide +kernel
theorem dX9_isFigure_1 : decode cX9_isFigure 1 = .ok (.aload_n 0, 1) := by decide +kernel
theorem dX9_isFigure_2 : decode cX9_isFigure 2 = .ok (.getfield 64, 3) := by decide +kernel
theorem dX9_isFigure_5 : decode cX9_isFigure 5 = .ok (.if_icmp .ge 23, 3) := by decide +kernel
theorem dX9_isFigure_8 : decode cX9_isFigure 8 = .ok (.aload_n 0, 1) := by decide +kernel
theorem dX9_isFigure_9 : decode cX9_isFigure 9 = .ok (.getfield 24, 3) := by decide +kernel
theorem dX9_isFigure_12 : decode cX9_isFigure 12 = .ok (.iload_n 1, 1) := by decide +kernel
theorem dX9_isFigure_13 : decode cX9_isFigure 13 = .ok (.iaload, 1) := by decide +kernel
theorem dX9_isFigure_14 : decode cX9_isFigure 14 = .ok (.bipush 48, 2) := by decide +kernel
theorem dX9_isFigure_16 : decode cX9_isFigure 16 = .ok (.bipush 57, 2) := by decide +kernel
theorem dX9_isFigure_18 : decode cX9_isFigure 18 = .ok (.invokestatic 52, 3) := by decide +kernel
theorem dX9_isFigure_21 : decode cX9_isFigure 21 = .ok (.ifCond .eq 7, 3) := by decide +kernel
theorem dX9_isFigure_24 : decode cX9_isFigure 24 = .ok (.iconst 1, 1) := by decide +kernel
theorem dX9_isFigure_25 : decode cX9_isFigure 25 = .ok (.goto 4, 3) := by decide +kernel
theorem dX9_isFigure_28 : decode cX9_isFigure 28 = .ok (.iconst 0, 1) := by decide +kernel
theorem dX9_isFigure_29 : decode cX9_isFigure 29 = .ok (.ireturn, 1) := by decide +kernel
set_option maxRecDepth 20000 in
theorem ggX9_next_X9_isLetter : GoodIn wsX9_next wsX9_isLetter := goodIn_r _ [9, 3, 4, 10, 11, 8, 12, 17, 18, 19, 20, 21, 22, 23, 24, 25, 26, 27, 28, 29, 30, 31, 32, 33, 34] (by decide +kernel) (by decide +kernel)
set_option maxRecDepth 20000 in
theorem gX9_next_X9_isLetter : GoodIn wsX9_next (wsV RX9 74 RX9 yX9_isLetter wsX9_isLetter) := goodIn_app (goodIn_of _ (by decide +kernel)) ggX9_next_X9_isLetter
set_option maxRecDepth 20000 in
theorem ggX9_next_X9_isFigure : GoodIn wsX9_next wsX9_isFigure := goodIn_r _ [16, 3, 4, 10, 11, 8, 12, 17, 18, 19, 20, 21, 22, 23, 24, 25, 26, 27, 28, 29, 30, 31, 32, 33, 34] (by decide +kernel) (by decide +kernel)
set_option maxRecDepth 20000 in
theorem gX9_next_X9_isFigure : GoodIn wsX9_next (wsV RX9 78 RX9 yX9_isFigure wsX9_isFigure) := goodIn_app (goodIn_of _ (by decide +kernel)) ggX9_next_X9_isFigure
theorem dX9_next_0 : decode cX9_next 0 = .ok (.aload_n 0, 1) := by decide +kernel
theorem dX9_next_1 : decode cX9_next 1 = .ok (.aload_n 0, 1) := by decide +kernel
theorem dX9_next_2 : decode cX9_next 2 = .ok (.getfield 68, 3) := by decide +kernel
theorem dX9_next_5 : decode cX9_next 5 = .ok (.putfield 71, 3) := by decide +kernel
theorem dX9_next_8 : decode cX9_next 8 = .ok (.aload_n 0, 1) := by decide +kernel
theorem dX9_next_9 : decode cX9_next 9 = .ok (.getfield 71, 3) := by decide +kernel
theorem dX9_next_12 : decode cX9_next 12 = .ok (.aload_n 0, 1) := by decide +kernel
theorem dX9_next_13 : decode cX9_next 13 = .ok (.getfield 64, 3) := by decide +kernel
theorem dX9_next_16 : decode cX9_next 16 = .ok (.if_icmp .ge 30, 3) := by decide +kernel
theorem dX9_next_19 : decode cX9_next 19 = .ok (.aload_n 0, 1) := by decide +kernel
theorem dX9_next_20 : decode cX9_next 20 = .ok (.getfield 24, 3) := by decide +kernel
theorem dX9_next_23 : decode cX9_next 23 = .ok (.aload_n 0, 1) := by decide +kernel
theorem dX9_next_24 : decode cX9_next 24 = .ok (.getfield 71, 3) := by decide +kernel
theorem dX9_next_27 : decode cX9_next 27 = .ok (.iaload, 1) := by decide +kernel
theorem dX9_next_28 : decode cX9_next 28 = .ok (.bipush 32, 2) := by decide +kernel
theorem dX9_next_30 : decode cX9_next 30 = .ok (.if_icmp .ne 16, 3) := by decide +kernel
theorem dX9_next_33 : decode cX9_next 33 = .ok (.aload_n 0, 1) := by decide +kernel
theorem dX9_next_34 : decode cX9_next 34 = .ok (.dup, 1) := by decide +kernel
theorem dX9_next_35 : decode cX9_next 35 = .ok (.getfield 71, 3) := by decide +kernel
theorem dX9_next_38 : decode cX9_next 38 = .ok (.iconst 1, 1) := by decide +kernel
theorem dX9_next_39 : decode cX9_next 39 = .ok (.iadd, 1) := by decide +kernel
theorem dX9_next_40 : decode cX9_next 40 = .ok (.putfield 71, 3) := by decide +kernel
theorem dX9_next_43 : decode cX9_next 43 = .ok (.goto (-35), 3) := by decide +kernel
theorem dX9_next_46 : decode cX9_next 46 = .ok (.aload_n 0, 1) := by decide +kernel
theorem dX9_next_47 : decode cX9_next 47 = .ok (.aload_n 0, 1) := by decide +kernel
theorem dX9_next_48 : decode cX9_next 48 = .ok (.getfield 71, 3) := by decide +kernel
theorem dX9_next_51 : decode cX9_next 51 = .ok (.aload_n 0, 1) := by decide +kernel
theorem dX9_next_52 : decode cX9_next 52 = .ok (.getfield 64, 3) := by decide +kernel
theorem dX9_next_55 : decode cX9_next 55 = .ok (.if_icmp .ge 12, 3) := by decide +kernel
theorem dX9_next_58 : decode cX9_next 58 = .ok (.aload_n 0, 1) := by decide +kernel
theorem dX9_next_59 : decode cX9_next 59 = .ok (.getfield 71, 3) := by decide +kernel
theorem dX9_next_62 : decode cX9_next 62 = .ok (.iconst 1, 1) := by decide +kernel
theorem dX9_next_63 : decode cX9_next 63 = .ok (.iadd, 1) := by decide +kernel
theorem dX9_next_64 : decode cX9_next 64 = .ok (.goto 7, 3) := by decide +kernel
theorem dX9_next_67 : decode cX9_next 67 = .ok (.aload_n 0, 1) := by decide +kernel
theorem dX9_next_68 : decode cX9_next 68 = .ok (.getfield 71, 3) := by decide +kernel
theorem dX9_next_71 : decode cX9_next 71 = .ok (.putfield 68, 3) := by decide +kernel
theorem dX9_next_74 : decode cX9_next 74 = .ok (.aload_n 0, 1) := by decide +kernel
theorem dX9_next_75 : decode cX9_next 75 = .ok (.aload_n 0, 1) := by decide +kernel
theorem dX9_next_76 : decode cX9_next 76 = .ok (.getfield 71, 3) := by decide +kernel
theorem dX9_next_79 : decode cX9_next 79 = .ok (.invokevirtual 74, 3) := by decide +kernel
theorem dX9_next_82 : decode cX9_next 82 = .ok (.ifCond .eq 27, 3) := by decide +kernel
theorem dX9_next_85 : decode cX9_next 85 = .ok (.aload_n 0, 1) := by decide +kernel
theorem dX9_next_86 : decode cX9_next 86 = .ok (.aload_n 0, 1) := by decide +kernel
theorem dX9_next_87 : decode cX9_next 87 = .ok (.getfield 68, 3) := by decide +kernel
theorem dX9_next_90 : decode cX9_next 90 = .ok (.invokevirtual 74, 3) := by decide +kernel
theorem dX9_next_93 : decode cX9_next 93 = .ok (.ifCond .eq 16, 3) := by decide +kernel
theorem dX9_next_96 : decode cX9_next 96 = .ok (.aload_n 0, 1) := by decide +kernel
theorem dX9_next_97 : decode cX9_next 97 = .ok (.dup, 1) := by decide +kernel
theorem dX9_next_98 : decode cX9_next 98 = .ok (.getfield 68, 3) := by decide +kernel
theorem dX9_next_101 : decode cX9_next 101 = .ok (.iconst 1, 1) := by decide +kernel
theorem dX9_next_102 : decode cX9_next 102 = .ok (.iadd, 1) := by decide +kernel
theorem dX9_next_103 : decode cX9_next 103 = .ok (.putfield 68, 3) := by decide +kernel
theorem dX9_next_106 : decode cX9_next 106 = .ok (.goto (-32), 3) := by decide +kernel
theorem dX9_next_109 : decode cX9_next 109 = .ok (.aload_n 0, 1) := by decide +kernel
theorem dX9_next_110 : decode cX9_next 110 = .ok (.aload_n 0, 1) := by decide +kernel
theorem dX9_next_111 : decode cX9_next 111 = .ok (.getfield 71, 3) := by decide +kernel
theorem dX9_next_114 : decode cX9_next 114 = .ok (.invokevirtual 78, 3) := by decide +kernel
theorem dX9_next_117 : decode cX9_next 117 = .ok (.ifCond .eq 27, 3) := by decide +kernel
theorem dX9_next_120 : decode cX9_next 120 = .ok (.aload_n 0, 1) := by decide +kernel
theorem dX9_next_121 : decode cX9_next 121 = .ok (.aload_n 0, 1) := by decide +kernel
theorem dX9_next_122 : decode cX9_next 122 = .ok (.getfield 68, 3) := by decide +kernel
theorem dX9_next_125 : decode cX9_next 125 = .ok (.invokevirtual 78, 3) := by decide +kernel
theorem dX9_next_128 : decode cX9_next 128 = .ok (.ifCond .eq 16, 3) := by decide +kernel
theorem dX9_next_131 : decode cX9_next 131 = .ok (.aload_n 0, 1) := by decide +kernel
theorem dX9_next_132 : decode cX9_next 132 = .ok (.dup, 1) := by decide +kernel
theorem dX9_next_133 : decode cX9_next 133 = .ok (.getfield 68, 3) := by decide +kernel
theorem dX9_next_136 : decode cX9_next 136 = .ok (.iconst 1, 1) := by decide +kernel
theorem dX9_next_137 : decode cX9_next 137 = .ok (.iadd, 1) := by decide +kernel
theorem dX9_next_138 : decode cX9_next 138 = .ok (.putfield 68, 3) := by decide +kernel
theorem dX9_next_141 : decode cX9_next 141 = .ok (.goto (-32), 3) := by decide +kernel
theorem dX9_next_144 : decode cX9_next 144 = .ok (.return_, 1) := by decide +kernel
theorem dX9_isWord_0 : decode cX9_isWord 0 = .ok (.aload_n 0, 1) := by decide +kernel
theorem dX9_isWord_1 : decode cX9_isWord 1 = .ok (.getfield 68, 3) := by decide +kernel
theorem dX9_isWord_4 : decode cX9_isWord 4 = .ok (.aload_n 0, 1) := by decide +kernel
theorem dX9_isWord_5 : decode cX9_isWord 5 = .ok (.getfield 71, 3) := by decide +kernel
theorem dX9_isWord_8 : decode cX9_isWord 8 = .ok (.isub, 1) := by decide +kernel
theorem dX9_isWord_9 : decode cX9_isWord 9 = .ok (.bipush 6, 2) := by decide +kernel
theorem dX9_isWord_11 : decode cX9_isWord 11 = .ok (.if_icmp .gt 7, 3) := by decide +kernel
theorem dX9_isWord_14 : decode cX9_isWord 14 = .ok (.iconst 1, 1) := by decide +kernel
theorem dX9_isWord_15 : decode cX9_isWord 15 = .ok (.goto 4, 3) := by decide +kernel
theorem dX9_isWord_18 : decode cX9_isWord 18 = .ok (.iconst 0, 1) := by decide +kernel
theorem dX9_isWord_19 : decode cX9_isWord 19 = .ok (.istore_n 2, 1) := by decide +kernel
theorem dX9_isWord_20 : decode cX9_isWord 20 = .ok (.iconst 0, 1) := by decide +kernel
theorem dX9_isWord_21 : decode cX9_isWord 21 = .ok (.istore_n 3, 1) := by decide +kernel
theorem dX9_isWord_22 : decode cX9_isWord 22 = .ok (.iload_n 3, 1) := by decide +kernel
theorem dX9_isWord_23 : decode cX9_isWord 23 = .ok (.bipush 6, 2) := by decide +kernel
theorem dX9_isWord_25 : decode cX9_isWord 25 = .ok (.if_icmp .ge 65, 3) := by decide +kernel
theorem dX9_isWord_28 : decode cX9_isWord 28 = .ok (.iload_n 2, 1) := by decide +kernel
theorem dX9_isWord_29 : decode cX9_isWord 29 = .ok (.ifCond .eq 61, 3) := by decide +kernel
theorem dX9_isWord_32 : decode cX9_isWord 32 = .ok (.aload_n 0, 1) := by decide +kernel
theorem dX9_isWord_33 : decode cX9_isWord 33 = .ok (.getfield 71, 3) := by decide +kernel
theorem dX9_isWord_36 : decode cX9_isWord 36 = .ok (.iload_n 3, 1) := by decide +kernel
theorem dX9_isWord_37 : decode cX9_isWord 37 = .ok (.iadd, 1) := by decide +kernel
theorem dX9_isWord_38 : decode cX9_isWord 38 = .ok (.aload_n 0, 1) := by decide +kernel
theorem dX9_isWord_39 : decode cX9_isWord 39 = .ok (.getfield 68, 3) := by decide +kernel
theorem dX9_isWord_42 : decode cX9_isWord 42 = .ok (.if_icmp .ge 17, 3) := by decide +kernel
theorem dX9_isWord_45 : decode cX9_isWord 45 = .ok (.aload_n 0, 1) := by decide +kernel
theorem dX9_isWord_46 : decode cX9_isWord 46 = .ok (.getfield 24, 3) := by decide +kernel
theorem dX9_isWord_49 : decode cX9_isWord 49 = .ok (.aload_n 0, 1) := by decide +kernel
theorem dX9_isWord_50 : decode cX9_isWord 50 = .ok (.getfield 71, 3) := by decide +kernel
theorem dX9_isWord_53 : decode cX9_isWord 53 = .ok (.iload_n 3, 1) := by decide +kernel
theorem dX9_isWord_54 : decode cX9_isWord 54 = .ok (.iadd, 1) := by decide +kernel
theorem dX9_isWord_55 : decode cX9_isWord 55 = .ok (.iaload, 1) := by decide +kernel
theorem dX9_isWord_56 : decode cX9_isWord 56 = .ok (.goto 4, 3) := by decide +kernel
theorem dX9_isWord_59 : decode cX9_isWord 59 = .ok (.iconst 0, 1) := by decide +kernel
theorem dX9_isWord_60 : decode cX9_isWord 60 = .ok (.istore 4, 2) := by decide +kernel
theorem dX9_isWord_62 : decode cX9_isWord 62 = .ok (.iload 4, 2) := by decide +kernel
theorem dX9_isWord_64 : decode cX9_isWord 64 = .ok (.aload_n 0, 1) := by decide +kernel
theorem dX9_isWord_65 : decode cX9_isWord 65 = .ok (.getfield 27, 3) := by decide +kernel
theorem dX9_isWord_68 : decode cX9_isWord 68 = .ok (.bipush 6, 2) := by decide +kernel
theorem dX9_isWord_70 : decode cX9_isWord 70 = .ok (.iload_n 1, 1) := by decide +kernel
theorem dX9_isWord_71 : decode cX9_isWord 71 = .ok (.imul, 1) := by decide +kernel
theorem dX9_isWord_72 : decode cX9_isWord 72 = .ok (.iload_n 3, 1) := by decide +kernel
theorem dX9_isWord_73 : decode cX9_isWord 73 = .ok (.iadd, 1) := by decide +kernel
theorem dX9_isWord_74 : decode cX9_isWord 74 = .ok (.iaload, 1) := by decide +kernel
theorem dX9_isWord_75 : decode cX9_isWord 75 = .ok (.if_icmp .ne 7, 3) := by decide +kernel
theorem dX9_isWord_78 : decode cX9_isWord 78 = .ok (.iconst 1, 1) := by decide +kernel
theorem dX9_isWord_79 : decode cX9_isWord 79 = .ok (.goto 4, 3) := by decide +kernel
theorem dX9_isWord_82 : decode cX9_isWord 82 = .ok (.iconst 0, 1) := by decide +kernel
theorem dX9_isWord_83 : decode cX9_isWord 83 = .ok (.istore_n 2, 1) := by decide +kernel
theorem dX9_isWord_84 : decode cX9_isWord 84 = .ok (.iinc 3 1, 3) := by decide +kernel
theorem dX9_isWord_87 : decode cX9_isWord 87 = .ok (.goto (-65), 3) := by decide +kernel
theorem dX9_isWord_90 : decode cX9_isWord 90 = .ok (.iload_n 2, 1) := by decide +kernel
theorem dX9_isWord_91 : decode cX9_isWord 91 = .ok (.ireturn, 1) := by decide +kernel
set_option maxRecDepth 20000 in
theorem ggX9_wordHere_X9_isLetter : GoodIn wsX9_wordHere wsX9_isLetter := goodIn_r _ [6, 7, 8, 9, 10, 5, 11, 18, 19, 20, 21, 22, 23, 24, 25, 26, 27, 28, 29, 30, 31, 32, 33, 34, 35] (by decide +kernel) (by decide +kernel)
set_option maxRecDepth 20000 in
theorem gX9_wordHere_X9_isLetter : GoodIn wsX9_wordHere (wsV RX9 74 RX9 yX9_isLetter wsX9_isLetter) := goodIn_app (goodIn_of _ (by decide +kernel)) ggX9_wordHere_X9_isLetter
set_option maxRecDepth 20000 in
theorem ggX9_wordHere_X9_isWord : GoodIn wsX9_wordHere wsX9_isWord := goodIn_r _ [15, 16, 1, 8, 17, 18, 19, 20, 21, 22, 23, 24, 25, 26, 27, 28, 29, 30, 31, 32, 33, 34, 35] (by decide +kernel) (by decide +kernel)
set_option maxRecDepth 20000 in
theorem gX9_wordHere_X9_isWord : GoodIn wsX9_wordHere (wsV RX9 81 RX9 yX9_isWord wsX9_isWord) := goodIn_app (goodIn_of _ (by decide +kernel)) ggX9_wordHere_X9_isWord
theorem dX9_wordHere_0 : decode cX9_wordHere 0 = .ok (.iconst 0, 1) := by decide +kernel
theorem dX9_wordHere_1 : decode cX9_wordHere 1 = .ok (.istore_n 1, 1) := by decide +kernel
theorem dX9_wordHere_2 : decode cX9_wordHere 2 = .ok (.iload_n 1, 1) := by decide +kernel
theorem dX9_wordHere_3 : decode cX9_wordHere 3 = .ok (.iconst 5, 1) := by decide +kernel
theorem dX9_wordHere_4 : decode cX9_wordHere 4 = .ok (.if_icmp .ge 30, 3) := by decide +kernel
theorem dX9_wordHere_7 : decode cX9_wordHere 7 = .ok (.aload_n 0, 1) := by decide +kernel
theorem dX9_wordHere_8 : decode cX9_wordHere 8 = .ok (.aload_n 0, 1) := by decide +kernel
theorem dX9_wordHere_9 : decode cX9_wordHere 9 = .ok (.getfield 71, 3) := by decide +kernel
theorem dX9_wordHere_12 : decode cX9_wordHere 12 = .ok (.invokevirtual 74, 3) := by decide +kernel
theorem dX9_wordHere_15 : decode cX9_wordHere 15 = .ok (.ifCond .eq 13, 3) := by decide +kernel
theorem dX9_wordHere_18 : decode cX9_wordHere 18 = .ok (.aload_n 0, 1) := by decide +kernel
theorem dX9_wordHere_19 : decode cX9_wordHere 19 = .ok (.iload_n 1, 1) := by decide +kernel
theorem dX9_wordHere_20 : decode cX9_wordHere 20 = .ok (.invokevirtual 81, 3) := by decide +kernel
theorem dX9_wordHere_23 : decode cX9_wordHere 23 = .ok (.ifCond .eq 5, 3) := by decide +kernel
theorem dX9_wordHere_26 : decode cX9_wordHere 26 = .ok (.iload_n 1, 1) := by decide +kernel
theorem dX9_wordHere_27 : decode cX9_wordHere 27 = .ok (.ireturn, 1) := by decide +kernel
theorem dX9_wordHere_28 : decode cX9_wordHere 28 = .ok (.iinc 1 1, 3) := by decide +kernel
theorem dX9_wordHere_31 : decode cX9_wordHere 31 = .ok (.goto (-29), 3) := by decide +kernel
theorem dX9_wordHere_34 : decode cX9_wordHere 34 = .ok (.iconst (-1), 1) := by decide +kernel
theorem dX9_wordHere_35 : decode cX9_wordHere 35 = .ok (.ireturn, 1) := by decide +kernel
set_option maxRecDepth 20000 in
theorem ggX9_number_X9_next : GoodIn wsX9_number wsX9_next := goodIn_r _ [8, 2, 1, 9, 3, 10, 11, 12, 7, 13, 14, 15, 16, 17, 18, 19, 20, 21, 22, 23, 24, 25, 26, 27, 28, 29, 30, 31, 32, 33, 34, 35, 36, 37, 38] (by decide +kernel) (by decide +kernel)
set_option maxRecDepth 20000 in
theorem gX9_number_X9_next : GoodIn wsX9_number (wsV RX9 84 RX9 yX9_next wsX9_next) := goodIn_app (goodIn_of _ (by decide +kernel)) ggX9_number_X9_next
set_option maxRecDepth 20000 in
theorem ggX9_number_X9_isFigure : GoodIn wsX9_number wsX9_isFigure := goodIn_r _ [20, 9, 3, 14, 15, 7, 16, 21, 22, 23, 24, 25, 26, 27, 28, 29, 30, 31, 32, 33, 34, 35, 36, 37, 38] (by decide +kernel) (by decide +kernel)
set_option maxRecDepth 20000 in
theorem gX9_number_X9_isFigure : GoodIn wsX9_number (wsV RX9 78 RX9 yX9_isFigure wsX9_isFigure) := goodIn_app (goodIn_of _ (by decide +kernel)) ggX9_number_X9_isFigure
set_option maxRecDepth 20000 in
theorem ggX9_number_X9_in : GoodIn wsX9_number wsX9_in := goodIn_r _ [16] (by decide +kernel) (by decide +kernel)
set_option maxRecDepth 20000 in
theorem gX9_number_X9_in : GoodIn wsX9_number (va_wsS RX9 52 yX9_in wsX9_in) := goodIn_app (goodIn_of _ (by decide +kernel)) ggX9_number_X9_in
theorem dX9_number_0 : decode cX9_number 0 = .ok (.aload_n 0, 1) := by decide +kernel
theorem dX9_number_1 : decode cX9_number 1 = .ok (.invokevirtual 84, 3) := by decide +kernel
theorem dX9_number_4 : decode cX9_number 4 = .ok (.aload_n 0, 1) := by decide +kernel
theorem dX9_number_5 : decode cX9_number 5 = .ok (.aload_n 0, 1) := by decide +kernel
theorem dX9_number_6 : decode cX9_number 6 = .ok (.getfield 71, 3) := by decide +kernel
theorem dX9_number_9 : decode cX9_number 9 = .ok (.invokevirtual 78, 3) := by decide +kernel
theorem dX9_number_12 : decode cX9_number 12 = .ok (.ifCond .eq 16, 3) := by decide +kernel
theorem dX9_number_15 : decode cX9_number 15 = .ok (.aload_n 0, 1) := by decide +kernel
theorem dX9_number_16 : decode cX9_number 16 = .ok (.getfield 68, 3) := by decide +kernel
theorem dX9_number_19 : decode cX9_number 19 = .ok (.aload_n 0, 1) := by decide +kernel
theorem dX9_number_20 : decode cX9_number 20 = .ok (.getfield 71, 3) := by decide +kernel
theorem dX9_number_23 : decode cX9_number 23 = .ok (.isub, 1) := by decide +kernel
theorem dX9_number_24 : decode cX9_number 24 = .ok (.iconst 2, 1) := by decide +kernel
theorem dX9_number_25 : decode cX9_number 25 = .ok (.if_icmp .le 5, 3) := by decide +kernel
theorem dX9_number_28 : decode cX9_number 28 = .ok (.iconst (-1), 1) := by decide +kernel
theorem dX9_number_29 : decode cX9_number 29 = .ok (.ireturn, 1) := by decide +kernel
theorem dX9_number_30 : decode cX9_number 30 = .ok (.aload_n 0, 1) := by decide +kernel
theorem dX9_number_31 : decode cX9_number 31 = .ok (.getfield 24, 3) := by decide +kernel
theorem dX9_number_34 : decode cX9_number 34 = .ok (.aload_n 0, 1) := by decide +kernel
theorem dX9_number_35 : decode cX9_number 35 = .ok (.getfield 71, 3) := by decide +kernel
theorem dX9_number_38 : decode cX9_number 38 = .ok (.iaload, 1) := by decide +kernel
theorem dX9_number_39 : decode cX9_number 39 = .ok (.bipush 48, 2) := by decide +kernel
theorem dX9_number_41 : decode cX9_number 41 = .ok (.isub, 1) := by decide +kernel
theorem dX9_number_42 : decode cX9_number 42 = .ok (.istore_n 3, 1) := by decide +kernel
theorem dX9_number_43 : decode cX9_number 43 = .ok (.aload_n 0, 1) := by decide +kernel
theorem dX9_number_44 : decode cX9_number 44 = .ok (.getfield 68, 3) := by decide +kernel
theorem dX9_number_47 : decode cX9_number 47 = .ok (.aload_n 0, 1) := by decide +kernel
theorem dX9_number_48 : decode cX9_number 48 = .ok (.getfield 71, 3) := by decide +kernel
theorem dX9_number_51 : decode cX9_number 51 = .ok (.isub, 1) := by decide +kernel
theorem dX9_number_52 : decode cX9_number 52 = .ok (.iconst 2, 1) := by decide +kernel
theorem dX9_number_53 : decode cX9_number 53 = .ok (.if_icmp .ne 25, 3) := by decide +kernel
theorem dX9_number_56 : decode cX9_number 56 = .ok (.bipush 10, 2) := by decide +kernel
theorem dX9_number_58 : decode cX9_number 58 = .ok (.iload_n 3, 1) := by decide +kernel
theorem dX9_number_59 : decode cX9_number 59 = .ok (.imul, 1) := by decide +kernel
theorem dX9_number_60 : decode cX9_number 60 = .ok (.aload_n 0, 1) := by decide +kernel
theorem dX9_number_61 : decode cX9_number 61 = .ok (.getfield 24, 3) := by decide +kernel
theorem dX9_number_64 : decode cX9_number 64 = .ok (.aload_n 0, 1) := by decide +kernel
theorem dX9_number_65 : decode cX9_number 65 = .ok (.getfield 71, 3) := by decide +kernel
theorem dX9_number_68 : decode cX9_number 68 = .ok (.iconst 1, 1) := by decide +kernel
theorem dX9_number_69 : decode cX9_number 69 = .ok (.iadd, 1) := by decide +kernel
theorem dX9_number_70 : decode cX9_number 70 = .ok (.iaload, 1) := by decide +kernel
theorem dX9_number_71 : decode cX9_number 71 = .ok (.iadd, 1) := by decide +kernel
theorem dX9_number_72 : decode cX9_number 72 = .ok (.bipush 48, 2) := by decide +kernel
theorem dX9_number_74 : decode cX9_number 74 = .ok (.isub, 1) := by decide +kernel
theorem dX9_number_75 : decode cX9_number 75 = .ok (.goto 4, 3) := by decide +kernel
theorem dX9_number_78 : decode cX9_number 78 = .ok (.iload_n 3, 1) := by decide +kernel
theorem dX9_number_79 : decode cX9_number 79 = .ok (.istore_n 3, 1) := by decide +kernel
theorem dX9_number_80 : decode cX9_number 80 = .ok (.iload_n 3, 1) := by decide +kernel
theorem dX9_number_81 : decode cX9_number 81 = .ok (.iload_n 1, 1) := by decide +kernel
theorem dX9_number_82 : decode cX9_number 82 = .ok (.iload_n 2, 1) := by decide +kernel
theorem dX9_number_83 : decode cX9_number 83 = .ok (.invokestatic 52, 3) := by decide +kernel
theorem dX9_number_86 : decode cX9_number 86 = .ok (.ifCond .eq 7, 3) := by decide +kernel
theorem dX9_number_89 : decode cX9_number 89 = .ok (.iload_n 3, 1) := by decide +kernel
theorem dX9_number_90 : decode cX9_number 90 = .ok (.goto 4, 3) := by decide +kernel
theorem dX9_number_93 : decode cX9_number 93 = .ok (.iconst (-1), 1) := by decide +kernel
theorem dX9_number_94 : decode cX9_number 94 = .ok (.ireturn, 1) := by decide +kernel
set_option maxRecDepth 20000 in
theorem ggX9_readsFlitch_X9_number : GoodIn wsX9_readsFlitch wsX9_number := goodIn_r _ [7, 8, 9, 10, 11, 12, 13, 6, 14, 15, 16, 17, 18, 19, 20, 21, 22, 23, 24, 25, 26, 32, 33, 34, 35, 36, 37, 38, 39, 40, 41, 42, 43, 44, 45, 46, 47, 48, 49] (by decide +kernel) (by decide +kernel)
set_option maxRecDepth 20000 in
theorem gX9_readsFlitch_X9_number : GoodIn wsX9_readsFlitch (wsV RX9 90 RX9 yX9_number wsX9_number) := goodIn_app (goodIn_of _ (by decide +kernel)) ggX9_readsFlitch_X9_number
set_option maxRecDepth 20000 in
theorem ggX9_readsFlitch_X9_addFlitch : GoodIn wsX9_readsFlitch wsX9_addFlitch := goodIn_r _ [30, 31, 32, 33, 34, 35, 36, 37, 38, 39, 40, 41, 42, 43, 44, 45, 46, 47, 48, 49] (by decide +kernel) (by decide +kernel)
set_option maxRecDepth 20000 in
theorem gX9_readsFlitch_X9_addFlitch : GoodIn wsX9_readsFlitch (wsV RX9 56 RX9 yX9_addFlitch wsX9_addFlitch) := goodIn_app (goodIn_of _ (by decide +kernel)) ggX9_readsFlitch_X9_addFlitch
theorem dX9_readsFlitch_0 : decode cX9_readsFlitch 0 = .ok (.aload_n 0, 1) := by decide +kernel
theorem dX9_readsFlitch_1 : decode cX9_readsFlitch 1 = .ok (.getfield 87, 3) := by decide +kernel
theorem dX9_readsFlitch_4 : decode cX9_readsFlitch 4 = .ok (.iconst 3, 1) := by decide +kernel
theorem dX9_readsFlitch_5 : decode cX9_readsFlitch 5 = .ok (.if_icmp .ne 5, 3) := by decide +kernel
theorem dX9_readsFlitch_8 : decode cX9_readsFlitch 8 = .ok (.iconst 0, 1) := by decide +kernel
theorem dX9_readsFlitch_9 : decode cX9_readsFlitch 9 = .ok (.ireturn, 1) := by decide +kernel
theorem dX9_readsFlitch_10 : decode cX9_readsFlitch 10 = .ok (.aload_n 0, 1) := by decide +kernel
theorem dX9_readsFlitch_11 : decode cX9_readsFlitch 11 = .ok (.iconst 0, 1) := by decide +kernel
theorem dX9_readsFlitch_12 : decode cX9_readsFlitch 12 = .ok (.iconst 5, 1) := by decide +kernel
theorem dX9_readsFlitch_13 : decode cX9_readsFlitch 13 = .ok (.invokevirtual 90, 3) := by decide +kernel
theorem dX9_readsFlitch_16 : decode cX9_readsFlitch 16 = .ok (.istore_n 1, 1) := by decide +kernel
theorem dX9_readsFlitch_17 : decode cX9_readsFlitch 17 = .ok (.iload_n 1, 1) := by decide +kernel
theorem dX9_readsFlitch_18 : decode cX9_readsFlitch 18 = .ok (.iconst (-1), 1) := by decide +kernel
theorem dX9_readsFlitch_19 : decode cX9_readsFlitch 19 = .ok (.if_icmp .ne 7, 3) := by decide +kernel
theorem dX9_readsFlitch_22 : decode cX9_readsFlitch 22 = .ok (.iconst (-1), 1) := by decide +kernel
theorem dX9_readsFlitch_23 : decode cX9_readsFlitch 23 = .ok (.goto 10, 3) := by decide +kernel
theorem dX9_readsFlitch_26 : decode cX9_readsFlitch 26 = .ok (.aload_n 0, 1) := by decide +kernel
theorem dX9_readsFlitch_27 : decode cX9_readsFlitch 27 = .ok (.iconst 0, 1) := by decide +kernel
theorem dX9_readsFlitch_28 : decode cX9_readsFlitch 28 = .ok (.bipush 24, 2) := by decide +kernel
theorem dX9_readsFlitch_30 : decode cX9_readsFlitch 30 = .ok (.invokevirtual 90, 3) := by decide +kernel
theorem dX9_readsFlitch_33 : decode cX9_readsFlitch 33 = .ok (.istore_n 2, 1) := by decide +kernel
theorem dX9_readsFlitch_34 : decode cX9_readsFlitch 34 = .ok (.iload_n 2, 1) := by decide +kernel
theorem dX9_readsFlitch_35 : decode cX9_readsFlitch 35 = .ok (.iconst (-1), 1) := by decide +kernel
theorem dX9_readsFlitch_36 : decode cX9_readsFlitch 36 = .ok (.if_icmp .ne 7, 3) := by decide +kernel
theorem dX9_readsFlitch_39 : decode cX9_readsFlitch 39 = .ok (.iconst (-1), 1) := by decide +kernel
theorem dX9_readsFlitch_40 : decode cX9_readsFlitch 40 = .ok (.goto 10, 3) := by decide +kernel
theorem dX9_readsFlitch_43 : decode cX9_readsFlitch 43 = .ok (.aload_n 0, 1) := by decide +kernel
theorem dX9_readsFlitch_44 : decode cX9_readsFlitch 44 = .ok (.iconst 1, 1) := by decide +kernel
theorem dX9_readsFlitch_45 : decode cX9_readsFlitch 45 = .ok (.bipush 20, 2) := by decide +kernel
theorem dX9_readsFlitch_47 : decode cX9_readsFlitch 47 = .ok (.invokevirtual 90, 3) := by decide +kernel
theorem dX9_readsFlitch_50 : decode cX9_readsFlitch 50 = .ok (.istore_n 3, 1) := by decide +kernel
theorem dX9_readsFlitch_51 : decode cX9_readsFlitch 51 = .ok (.iload_n 3, 1) := by decide +kernel
theorem dX9_readsFlitch_52 : decode cX9_readsFlitch 52 = .ok (.iconst (-1), 1) := by decide +kernel
theorem dX9_readsFlitch_53 : decode cX9_readsFlitch 53 = .ok (.if_icmp .ne 5, 3) := by decide +kernel
theorem dX9_readsFlitch_56 : decode cX9_readsFlitch 56 = .ok (.iconst 0, 1) := by decide +kernel
theorem dX9_readsFlitch_57 : decode cX9_readsFlitch 57 = .ok (.ireturn, 1) := by decide +kernel
theorem dX9_readsFlitch_58 : decode cX9_readsFlitch 58 = .ok (.aload_n 0, 1) := by decide +kernel
theorem dX9_readsFlitch_59 : decode cX9_readsFlitch 59 = .ok (.dup, 1) := by decide +kernel
theorem dX9_readsFlitch_60 : decode cX9_readsFlitch 60 = .ok (.getfield 87, 3) := by decide +kernel
theorem dX9_readsFlitch_63 : decode cX9_readsFlitch 63 = .ok (.iconst 1, 1) := by decide +kernel
theorem dX9_readsFlitch_64 : decode cX9_readsFlitch 64 = .ok (.iadd, 1) := by decide +kernel
theorem dX9_readsFlitch_65 : decode cX9_readsFlitch 65 = .ok (.putfield 87, 3) := by decide +kernel
theorem dX9_readsFlitch_68 : decode cX9_readsFlitch 68 = .ok (.aload_n 0, 1) := by decide +kernel
theorem dX9_readsFlitch_69 : decode cX9_readsFlitch 69 = .ok (.getfield 94, 3) := by decide +kernel
theorem dX9_readsFlitch_72 : decode cX9_readsFlitch 72 = .ok (.ifCond .eq 10, 3) := by decide +kernel
theorem dX9_readsFlitch_75 : decode cX9_readsFlitch 75 = .ok (.aload_n 0, 1) := by decide +kernel
theorem dX9_readsFlitch_76 : decode cX9_readsFlitch 76 = .ok (.iload_n 1, 1) := by decide +kernel
theorem dX9_readsFlitch_77 : decode cX9_readsFlitch 77 = .ok (.iload_n 2, 1) := by decide +kernel
theorem dX9_readsFlitch_78 : decode cX9_readsFlitch 78 = .ok (.iload_n 3, 1) := by decide +kernel
theorem dX9_readsFlitch_79 : decode cX9_readsFlitch 79 = .ok (.invokevirtual 56, 3) := by decide +kernel
theorem dX9_readsFlitch_82 : decode cX9_readsFlitch 82 = .ok (.iconst 1, 1) := by decide +kernel
theorem dX9_readsFlitch_83 : decode cX9_readsFlitch 83 = .ok (.ireturn, 1) := by decide +kernel
set_option maxRecDepth 20000 in
theorem ggX9_readsFamily_X9_number : GoodIn wsX9_readsFamily wsX9_number := goodIn_r _ [7, 8, 9, 10, 11, 12, 13, 6, 14, 15, 16, 17, 18, 19, 20, 21, 22, 23, 24, 25, 26, 32, 33, 34, 35, 36, 37, 38, 39, 40, 41, 42, 43, 44, 45, 46, 47, 48, 49] (by decide +kernel) (by decide +kernel)
set_option maxRecDepth 20000 in
theorem gX9_readsFamily_X9_number : GoodIn wsX9_readsFamily (wsV RX9 90 RX9 yX9_number wsX9_number) := goodIn_app (goodIn_of _ (by decide +kernel)) ggX9_readsFamily_X9_number
set_option maxRecDepth 20000 in
theorem ggX9_readsFamily_X9_addFamily : GoodIn wsX9_readsFamily wsX9_addFamily := goodIn_r _ [30, 31, 32, 33, 34, 35, 36, 37, 38, 39, 40, 41, 42, 43, 44, 45, 46, 47, 48, 49] (by decide +kernel) (by decide +kernel)
set_option maxRecDepth 20000 in
theorem gX9_readsFamily_X9_addFamily : GoodIn wsX9_readsFamily (wsV RX9 60 RX9 yX9_addFamily wsX9_addFamily) := goodIn_app (goodIn_of _ (by decide +kernel)) ggX9_readsFamily_X9_addFamily
theorem dX9_readsFamily_0 : decode cX9_readsFamily 0 = .ok (.aload_n 0, 1) := by decide +kernel
theorem dX9_readsFamily_1 : decode cX9_readsFamily 1 = .ok (.getfield 98, 3) := by decide +kernel
theorem dX9_readsFamily_4 : decode cX9_readsFamily 4 = .ok (.bipush 7, 2) := by decide +kernel
theorem dX9_readsFamily_6 : decode cX9_readsFamily 6 = .ok (.if_icmp .ne 5, 3) := by decide +kernel
theorem dX9_readsFamily_9 : decode cX9_readsFamily 9 = .ok (.iconst 0, 1) := by decide +kernel
theorem dX9_readsFamily_10 : decode cX9_readsFamily 10 = .ok (.ireturn, 1) := by decide +kernel
theorem dX9_readsFamily_11 : decode cX9_readsFamily 11 = .ok (.aload_n 0, 1) := by decide +kernel
theorem dX9_readsFamily_12 : decode cX9_readsFamily 12 = .ok (.iconst 0, 1) := by decide +kernel
theorem dX9_readsFamily_13 : decode cX9_readsFamily 13 = .ok (.iconst 5, 1) := by decide +kernel
theorem dX9_readsFamily_14 : decode cX9_readsFamily 14 = .ok (.invokevirtual 90, 3) := by decide +kernel
theorem dX9_readsFamily_17 : decode cX9_readsFamily 17 = .ok (.istore_n 1, 1) := by decide +kernel
theorem dX9_readsFamily_18 : decode cX9_readsFamily 18 = .ok (.iload_n 1, 1) := by decide +kernel
theorem dX9_readsFamily_19 : decode cX9_readsFamily 19 = .ok (.iconst (-1), 1) := by decide +kernel
theorem dX9_readsFamily_20 : decode cX9_readsFamily 20 = .ok (.if_icmp .ne 7, 3) := by decide +kernel
theorem dX9_readsFamily_23 : decode cX9_readsFamily 23 = .ok (.iconst (-1), 1) := by decide +kernel
theorem dX9_readsFamily_24 : decode cX9_readsFamily 24 = .ok (.goto 9, 3) := by decide +kernel
theorem dX9_readsFamily_27 : decode cX9_readsFamily 27 = .ok (.aload_n 0, 1) := by decide +kernel
theorem dX9_readsFamily_28 : decode cX9_readsFamily 28 = .ok (.iconst 0, 1) := by decide +kernel
theorem dX9_readsFamily_29 : decode cX9_readsFamily 29 = .ok (.iconst 1, 1) := by decide +kernel
theorem dX9_readsFamily_30 : decode cX9_readsFamily 30 = .ok (.invokevirtual 90, 3) := by decide +kernel
theorem dX9_readsFamily_33 : decode cX9_readsFamily 33 = .ok (.istore_n 2, 1) := by decide +kernel
theorem dX9_readsFamily_34 : decode cX9_readsFamily 34 = .ok (.iload_n 2, 1) := by decide +kernel
theorem dX9_readsFamily_35 : decode cX9_readsFamily 35 = .ok (.iconst (-1), 1) := by decide +kernel
theorem dX9_readsFamily_36 : decode cX9_readsFamily 36 = .ok (.if_icmp .ne 7, 3) := by decide +kernel
theorem dX9_readsFamily_39 : decode cX9_readsFamily 39 = .ok (.iconst (-1), 1) := by decide +kernel
theorem dX9_readsFamily_40 : decode cX9_readsFamily 40 = .ok (.goto 10, 3) := by decide +kernel
theorem dX9_readsFamily_43 : decode cX9_readsFamily 43 = .ok (.aload_n 0, 1) := by decide +kernel
theorem dX9_readsFamily_44 : decode cX9_readsFamily 44 = .ok (.iconst 0, 1) := by decide +kernel
theorem dX9_readsFamily_45 : decode cX9_readsFamily 45 = .ok (.bipush 24, 2) := by decide +kernel
theorem dX9_readsFamily_47 : decode cX9_readsFamily 47 = .ok (.invokevirtual 90, 3) := by decide +kernel
theorem dX9_readsFamily_50 : decode cX9_readsFamily 50 = .ok (.istore_n 3, 1) := by decide +kernel
theorem dX9_readsFamily_51 : decode cX9_readsFamily 51 = .ok (.iload_n 3, 1) := by decide +kernel
theorem dX9_readsFamily_52 : decode cX9_readsFamily 52 = .ok (.iconst (-1), 1) := by decide +kernel
theorem dX9_readsFamily_53 : decode cX9_readsFamily 53 = .ok (.if_icmp .ne 7, 3) := by decide +kernel
theorem dX9_readsFamily_56 : decode cX9_readsFamily 56 = .ok (.iconst (-1), 1) := by decide +kernel
theorem dX9_readsFamily_57 : decode cX9_readsFamily 57 = .ok (.goto 10, 3) := by decide +kernel
theorem dX9_readsFamily_60 : decode cX9_readsFamily 60 = .ok (.aload_n 0, 1) := by decide +kernel
theorem dX9_readsFamily_61 : decode cX9_readsFamily 61 = .ok (.iconst 1, 1) := by decide +kernel
theorem dX9_readsFamily_62 : decode cX9_readsFamily 62 = .ok (.bipush 99, 2) := by decide +kernel
theorem dX9_readsFamily_64 : decode cX9_readsFamily 64 = .ok (.invokevirtual 90, 3) := by decide +kernel
theorem dX9_readsFamily_67 : decode cX9_readsFamily 67 = .ok (.istore 4, 2) := by decide +kernel
theorem dX9_readsFamily_69 : decode cX9_readsFamily 69 = .ok (.iload 4, 2) := by decide +kernel
theorem dX9_readsFamily_71 : decode cX9_readsFamily 71 = .ok (.iconst (-1), 1) := by decide +kernel
theorem dX9_readsFamily_72 : decode cX9_readsFamily 72 = .ok (.if_icmp .ne 5, 3) := by decide +kernel
theorem dX9_readsFamily_75 : decode cX9_readsFamily 75 = .ok (.iconst 0, 1) := by decide +kernel
theorem dX9_readsFamily_76 : decode cX9_readsFamily 76 = .ok (.ireturn, 1) := by decide +kernel
theorem dX9_readsFamily_77 : decode cX9_readsFamily 77 = .ok (.aload_n 0, 1) := by decide +kernel
theorem dX9_readsFamily_78 : decode cX9_readsFamily 78 = .ok (.dup, 1) := by decide +kernel
theorem dX9_readsFamily_79 : decode cX9_readsFamily 79 = .ok (.getfield 98, 3) := by decide +kernel
theorem dX9_readsFamily_82 : decode cX9_readsFamily 82 = .ok (.iconst 1, 1) := by decide +kernel
theorem dX9_readsFamily_83 : decode cX9_readsFamily 83 = .ok (.iadd, 1) := by decide +kernel
theorem dX9_readsFamily_84 : decode cX9_readsFamily 84 = .ok (.putfield 98, 3) := by decide +kernel
theorem dX9_readsFamily_87 : decode cX9_readsFamily 87 = .ok (.aload_n 0, 1) := by decide +kernel
theorem dX9_readsFamily_88 : decode cX9_readsFamily 88 = .ok (.getfield 94, 3) := by decide +kernel
theorem dX9_readsFamily_91 : decode cX9_readsFamily 91 = .ok (.ifCond .eq 12, 3) := by decide +kernel
theorem dX9_readsFamily_94 : decode cX9_readsFamily 94 = .ok (.aload_n 0, 1) := by decide +kernel
theorem dX9_readsFamily_95 : decode cX9_readsFamily 95 = .ok (.iload_n 1, 1) := by decide +kernel
theorem dX9_readsFamily_96 : decode cX9_readsFamily 96 = .ok (.iload_n 2, 1) := by decide +kernel
theorem dX9_readsFamily_97 : decode cX9_readsFamily 97 = .ok (.iload_n 3, 1) := by decide +kernel
theorem dX9_readsFamily_98 : decode cX9_readsFamily 98 = .ok (.iload 4, 2) := by decide +kernel
theorem dX9_readsFamily_100 : decode cX9_readsFamily 100 = .ok (.invokevirtual 60, 3) := by decide +kernel
theorem dX9_readsFamily_103 : decode cX9_readsFamily 103 = .ok (.iconst 1, 1) := by decide +kernel
theorem dX9_readsFamily_104 : decode cX9_readsFamily 104 = .ok (.ireturn, 1) := by decide +kernel
set_option maxRecDepth 20000 in
theorem ggX9_readsItem_X9_layParish : GoodIn wsX9_readsItem wsX9_layParish := goodIn_r _ [8, 3, 80, 81, 82, 83, 84, 85, 86, 87, 88, 89, 90, 91, 92, 93, 94, 95, 96, 97] (by decide +kernel) (by decide +kernel)
set_option maxRecDepth 20000 in
theorem gX9_readsItem_X9_layParish : GoodIn wsX9_readsItem (wsV RX9 49 RX9 yX9_layParish wsX9_layParish) := goodIn_app (goodIn_of _ (by decide +kernel)) ggX9_readsItem_X9_layParish
set_option maxRecDepth 20000 in
theorem ggX9_readsItem_X9_readsFlitch : GoodIn wsX9_readsItem wsX9_readsFlitch := goodIn_r _ [12, 2, 1, 13, 14, 15, 7, 16, 17, 18, 19, 20, 21, 22, 23, 24, 25, 26, 27, 28, 29, 30, 31, 32, 33, 34, 35, 36, 37, 38, 39, 3, 80, 81, 82, 83, 84, 85, 86, 87, 88, 89, 90, 91, 92, 93, 94, 95, 96, 97] (by decide +kernel) (by decide +kernel)
set_option maxRecDepth 20000 in
theorem gX9_readsItem_X9_readsFlitch : GoodIn wsX9_readsItem (wsV RX9 101 RX9 yX9_readsFlitch wsX9_readsFlitch) := goodIn_app (goodIn_of _ (by decide +kernel)) ggX9_readsItem_X9_readsFlitch
set_option maxRecDepth 20000 in
theorem ggX9_readsItem_X9_readsFamily : GoodIn wsX9_readsItem wsX9_readsFamily := goodIn_r _ [43, 44, 1, 13, 14, 15, 7, 16, 17, 18, 19, 20, 21, 22, 23, 24, 25, 26, 27, 28, 29, 30, 31, 32, 33, 34, 35, 45, 46, 47, 48, 3, 80, 81, 82, 83, 84, 85, 86, 87, 88, 89, 90, 91, 92, 93, 94, 95, 96, 97] (by decide +kernel) (by decide +kernel)
set_option maxRecDepth 20000 in
theorem gX9_readsItem_X9_readsFamily : GoodIn wsX9_readsItem (wsV RX9 105 RX9 yX9_readsFamily wsX9_readsFamily) := goodIn_app (goodIn_of _ (by decide +kernel)) ggX9_readsItem_X9_readsFamily
set_option maxRecDepth 20000 in
theorem ggX9_readsItem_X9_number : GoodIn wsX9_readsItem wsX9_number := goodIn_r _ [16, 17, 18, 19, 20, 21, 22, 7, 23, 24, 25, 26, 27, 28, 29, 30, 31, 32, 33, 34, 35, 80, 81, 82, 83, 84, 85, 86, 87, 88, 89, 90, 91, 92, 93, 94, 95, 96, 97] (by decide +kernel) (by decide +kernel)
set_option maxRecDepth 20000 in
theorem gX9_readsItem_X9_number : GoodIn wsX9_readsItem (wsV RX9 90 RX9 yX9_number wsX9_number) := goodIn_app (goodIn_of _ (by decide +kernel)) ggX9_readsItem_X9_number
set_option maxRecDepth 20000 in
theorem ggX9_readsItem_X9_goBy : GoodIn wsX9_readsItem wsX9_goBy := goodIn_r _ [52, 3, 53, 54, 55, 7, 56, 57, 58, 59, 60, 61, 62, 63, 64, 65, 66, 67, 68, 69, 70, 71, 72, 73, 74, 75, 76, 77, 78, 79, 80, 81, 82, 83, 84, 85, 86, 87, 88, 89, 90, 91, 92, 93, 94, 95, 96, 97] (by decide +kernel) (by decide +kernel)
set_option maxRecDepth 20000 in
theorem gX9_readsItem_X9_goBy : GoodIn wsX9_readsItem (wsV RX9 108 RX9 yX9_goBy wsX9_goBy) := goodIn_app (goodIn_of _ (by decide +kernel)) ggX9_readsItem_X9_goBy
theorem dX9_readsItem_0 : decode cX9_readsItem 0 = .ok (.iload_n 1, 1) := by decide +kernel
theorem dX9_readsItem_1 : decode cX9_readsItem 1 = .ok (.tableswitch 106 0 3 #[31, 44, 49, 54], 31) := by decide +kernel
theorem dX9_readsItem_32 : decode cX9_readsItem 32 = .ok (.aload_n 0, 1) := by decide +kernel
theorem dX9_readsItem_33 : decode cX9_readsItem 33 = .ok (.getfield 94, 3) := by decide +kernel
theorem dX9_readsItem_36 : decode cX9_readsItem 36 = .ok (.ifCond .eq 7, 3) := by decide +kernel
theorem dX9_readsItem_39 : decode cX9_readsItem 39 = .ok (.aload_n 0, 1) := by decide +kernel
theorem dX9_readsItem_40 : decode cX9_readsItem 40 = .ok (.invokevirtual 49, 3) := by decide +kernel
theorem dX9_readsItem_43 : decode cX9_readsItem 43 = .ok (.iconst 1, 1) := by decide +kernel
theorem dX9_readsItem_44 : decode cX9_readsItem 44 = .ok (.ireturn, 1) := by decide +kernel
theorem dX9_readsItem_45 : decode cX9_readsItem 45 = .ok (.aload_n 0, 1) := by decide +kernel
theorem dX9_readsItem_46 : decode cX9_readsItem 46 = .ok (.invokevirtual 101, 3) := by decide +kernel
theorem dX9_readsItem_49 : decode cX9_readsItem 49 = .ok (.ireturn, 1) := by decide +kernel
theorem dX9_readsItem_50 : decode cX9_readsItem 50 = .ok (.aload_n 0, 1) := by decide +kernel
theorem dX9_readsItem_51 : decode cX9_readsItem 51 = .ok (.invokevirtual 105, 3) := by decide +kernel
theorem dX9_readsItem_54 : decode cX9_readsItem 54 = .ok (.ireturn, 1) := by decide +kernel
theorem dX9_readsItem_55 : decode cX9_readsItem 55 = .ok (.aload_n 0, 1) := by decide +kernel
theorem dX9_readsItem_56 : decode cX9_readsItem 56 = .ok (.iconst 0, 1) := by decide +kernel
theorem dX9_readsItem_57 : decode cX9_readsItem 57 = .ok (.aload_n 0, 1) := by decide +kernel
theorem dX9_readsItem_58 : decode cX9_readsItem 58 = .ok (.getfield 87, 3) := by decide +kernel
theorem dX9_readsItem_61 : decode cX9_readsItem 61 = .ok (.iconst 1, 1) := by decide +kernel
theorem dX9_readsItem_62 : decode cX9_readsItem 62 = .ok (.isub, 1) := by decide +kernel
theorem dX9_readsItem_63 : decode cX9_readsItem 63 = .ok (.invokevirtual 90, 3) := by decide +kernel
theorem dX9_readsItem_66 : decode cX9_readsItem 66 = .ok (.istore_n 2, 1) := by decide +kernel
theorem dX9_readsItem_67 : decode cX9_readsItem 67 = .ok (.aload_n 0, 1) := by decide +kernel
theorem dX9_readsItem_68 : decode cX9_readsItem 68 = .ok (.getfield 7, 3) := by decide +kernel
theorem dX9_readsItem_71 : decode cX9_readsItem 71 = .ok (.bipush 15, 2) := by decide +kernel
theorem dX9_readsItem_73 : decode cX9_readsItem 73 = .ok (.dup2, 1) := by decide +kernel
theorem dX9_readsItem_74 : decode cX9_readsItem 74 = .ok (.iaload, 1) := by decide +kernel
theorem dX9_readsItem_75 : decode cX9_readsItem 75 = .ok (.aload_n 0, 1) := by decide +kernel
theorem dX9_readsItem_76 : decode cX9_readsItem 76 = .ok (.getfield 94, 3) := by decide +kernel
theorem dX9_readsItem_79 : decode cX9_readsItem 79 = .ok (.ifCond .eq 14, 3) := by decide +kernel
theorem dX9_readsItem_82 : decode cX9_readsItem 82 = .ok (.iload_n 2, 1) := by decide +kernel
theorem dX9_readsItem_83 : decode cX9_readsItem 83 = .ok (.iconst (-1), 1) := by decide +kernel
theorem dX9_readsItem_84 : decode cX9_readsItem 84 = .ok (.if_icmp .eq 9, 3) := by decide +kernel
theorem dX9_readsItem_87 : decode cX9_readsItem 87 = .ok (.iconst 1, 1) := by decide +kernel
theorem dX9_readsItem_88 : decode cX9_readsItem 88 = .ok (.iload_n 2, 1) := by decide +kernel
theorem dX9_readsItem_89 : decode cX9_readsItem 89 = .ok (.ishl, 1) := by decide +kernel
theorem dX9_readsItem_90 : decode cX9_readsItem 90 = .ok (.goto 4, 3) := by decide +kernel
theorem dX9_readsItem_93 : decode cX9_readsItem 93 = .ok (.iconst 0, 1) := by decide +kernel
theorem dX9_readsItem_94 : decode cX9_readsItem 94 = .ok (.ixor, 1) := by decide +kernel
theorem dX9_readsItem_95 : decode cX9_readsItem 95 = .ok (.iastore, 1) := by decide +kernel
theorem dX9_readsItem_96 : decode cX9_readsItem 96 = .ok (.iload_n 2, 1) := by decide +kernel
theorem dX9_readsItem_97 : decode cX9_readsItem 97 = .ok (.iconst (-1), 1) := by decide +kernel
theorem dX9_readsItem_98 : decode cX9_readsItem 98 = .ok (.if_icmp .eq 7, 3) := by decide +kernel
theorem dX9_readsItem_101 : decode cX9_readsItem 101 = .ok (.iconst 1, 1) := by decide +kernel
theorem dX9_readsItem_102 : decode cX9_readsItem 102 = .ok (.goto 4, 3) := by decide +kernel
theorem dX9_readsItem_105 : decode cX9_readsItem 105 = .ok (.iconst 0, 1) := by decide +kernel
theorem dX9_readsItem_106 : decode cX9_readsItem 106 = .ok (.ireturn, 1) := by decide +kernel
theorem dX9_readsItem_107 : decode cX9_readsItem 107 = .ok (.aload_n 0, 1) := by decide +kernel
theorem dX9_readsItem_108 : decode cX9_readsItem 108 = .ok (.iconst 1, 1) := by decide +kernel
theorem dX9_readsItem_109 : decode cX9_readsItem 109 = .ok (.bipush 99, 2) := by decide +kernel
theorem dX9_readsItem_111 : decode cX9_readsItem 111 = .ok (.invokevirtual 90, 3) := by decide +kernel
theorem dX9_readsItem_114 : decode cX9_readsItem 114 = .ok (.istore_n 3, 1) := by decide +kernel
theorem dX9_readsItem_115 : decode cX9_readsItem 115 = .ok (.aload_n 0, 1) := by decide +kernel
theorem dX9_readsItem_116 : decode cX9_readsItem 116 = .ok (.getfield 94, 3) := by decide +kernel
theorem dX9_readsItem_119 : decode cX9_readsItem 119 = .ok (.ifCond .eq 13, 3) := by decide +kernel
theorem dX9_readsItem_122 : decode cX9_readsItem 122 = .ok (.iload_n 3, 1) := by decide +kernel
theorem dX9_readsItem_123 : decode cX9_readsItem 123 = .ok (.iconst (-1), 1) := by decide +kernel
theorem dX9_readsItem_124 : decode cX9_readsItem 124 = .ok (.if_icmp .eq 8, 3) := by decide +kernel
theorem dX9_readsItem_127 : decode cX9_readsItem 127 = .ok (.aload_n 0, 1) := by decide +kernel
theorem dX9_readsItem_128 : decode cX9_readsItem 128 = .ok (.iload_n 3, 1) := by decide +kernel
theorem dX9_readsItem_129 : decode cX9_readsItem 129 = .ok (.invokevirtual 108, 3) := by decide +kernel
theorem dX9_readsItem_132 : decode cX9_readsItem 132 = .ok (.iload_n 3, 1) := by decide +kernel
theorem dX9_readsItem_133 : decode cX9_readsItem 133 = .ok (.iconst (-1), 1) := by decide +kernel
theorem dX9_readsItem_134 : decode cX9_readsItem 134 = .ok (.if_icmp .eq 7, 3) := by decide +kernel
theorem dX9_readsItem_137 : decode cX9_readsItem 137 = .ok (.iconst 1, 1) := by decide +kernel
theorem dX9_readsItem_138 : decode cX9_readsItem 138 = .ok (.goto 4, 3) := by decide +kernel
theorem dX9_readsItem_141 : decode cX9_readsItem 141 = .ok (.iconst 0, 1) := by decide +kernel
theorem dX9_readsItem_142 : decode cX9_readsItem 142 = .ok (.ireturn, 1) := by decide +kernel
set_option maxRecDepth 20000 in
theorem ggX9_readItems_X9_next : GoodIn wsX9_readItems wsX9_next := goodIn_r _ [12, 2, 5, 6, 7, 13, 14, 15, 11, 16, 17, 18, 19, 20, 21, 22, 23, 93, 94, 95, 96, 97, 98, 99, 100, 101, 102, 103, 104, 105, 106, 107, 108, 109, 110] (by decide +kernel) (by decide +kernel)
set_option maxRecDepth 20000 in
theorem gX9_readItems_X9_next : GoodIn wsX9_readItems (wsV RX9 84 RX9 yX9_next wsX9_next) := goodIn_app (goodIn_of _ (by decide +kernel)) ggX9_readItems_X9_next
set_option maxRecDepth 20000 in
theorem ggX9_readItems_X9_wordHere : GoodIn wsX9_readItems wsX9_wordHere := goodIn_r _ [27, 5, 13, 14, 15, 11, 16, 6, 7, 17, 18, 19, 28, 29, 30, 31, 2, 32, 93, 94, 95, 96, 97, 98, 99, 100, 101, 102, 103, 104, 105, 106, 107, 108, 109, 110] (by decide +kernel) (by decide +kernel)
set_option maxRecDepth 20000 in
theorem gX9_readItems_X9_wordHere : GoodIn wsX9_readItems (wsV RX9 112 RX9 yX9_wordHere wsX9_wordHere) := goodIn_app (goodIn_of _ (by decide +kernel)) ggX9_readItems_X9_wordHere
set_option maxRecDepth 20000 in
theorem ggX9_readItems_X9_readsItem : GoodIn wsX9_readItems wsX9_readsItem := goodIn_r _ [36, 1, 3, 37, 38, 39, 40, 11, 41, 42, 43, 44, 45, 46, 47, 48, 49, 5, 2, 7, 8, 9, 10, 12, 6, 13, 14, 15, 16, 17, 18, 19, 20, 21, 22, 23, 50, 51, 52, 53, 54, 55, 56, 57, 4, 58, 59, 60, 61, 62, 63, 64, 65, 66, 67, 68, 69, 70, 71, 72, 73, 74, 75, 76, 77, 78, 79, 80, 81, 82, 83, 84, 85, 86, 87, 88, 89, 90, 91, 92, 93, 94, 95, 96, 97, 98, 99, 100, 101, 102, 103, 104, 105, 106, 107, 108, 109, 110] (by decide +kernel) (by decide +kernel)
set_option maxRecDepth 20000 in
theorem gX9_readItems_X9_readsItem : GoodIn wsX9_readItems (wsV RX9 116 RX9 yX9_readsItem wsX9_readsItem) := goodIn_app (goodIn_of _ (by decide +kernel)) ggX9_readItems_X9_readsItem
theorem dX9_readItems_0 : decode cX9_readItems 0 = .ok (.aload_n 0, 1) := by decide +kernel
theorem dX9_readItems_1 : decode cX9_readItems 1 = .ok (.iload_n 1, 1) := by decide +kernel
theorem dX9_readItems_2 : decode cX9_readItems 2 = .ok (.putfield 94, 3) := by decide +kernel
theorem dX9_readItems_5 : decode cX9_readItems 5 = .ok (.aload_n 0, 1) := by decide +kernel
theorem dX9_readItems_6 : decode cX9_readItems 6 = .ok (.iconst 0, 1) := by decide +kernel
theorem dX9_readItems_7 : decode cX9_readItems 7 = .ok (.putfield 68, 3) := by decide +kernel
theorem dX9_readItems_10 : decode cX9_readItems 10 = .ok (.aload_n 0, 1) := by decide +kernel
theorem dX9_readItems_11 : decode cX9_readItems 11 = .ok (.iconst 0, 1) := by decide +kernel
theorem dX9_readItems_12 : decode cX9_readItems 12 = .ok (.putfield 87, 3) := by decide +kernel
theorem dX9_readItems_15 : decode cX9_readItems 15 = .ok (.aload_n 0, 1) := by decide +kernel
theorem dX9_readItems_16 : decode cX9_readItems 16 = .ok (.iconst 0, 1) := by decide +kernel
theorem dX9_readItems_17 : decode cX9_readItems 17 = .ok (.putfield 98, 3) := by decide +kernel
theorem dX9_readItems_20 : decode cX9_readItems 20 = .ok (.iconst 0, 1) := by decide +kernel
theorem dX9_readItems_21 : decode cX9_readItems 21 = .ok (.istore_n 2, 1) := by decide +kernel
theorem dX9_readItems_22 : decode cX9_readItems 22 = .ok (.aload_n 0, 1) := by decide +kernel
theorem dX9_readItems_23 : decode cX9_readItems 23 = .ok (.invokevirtual 84, 3) := by decide +kernel
theorem dX9_readItems_26 : decode cX9_readItems 26 = .ok (.iload_n 2, 1) := by decide +kernel
theorem dX9_readItems_27 : decode cX9_readItems 27 = .ok (.ifCond .eq 14, 3) := by decide +kernel
theorem dX9_readItems_30 : decode cX9_readItems 30 = .ok (.aload_n 0, 1) := by decide +kernel
theorem dX9_readItems_31 : decode cX9_readItems 31 = .ok (.getfield 71, 3) := by decide +kernel
theorem dX9_readItems_34 : decode cX9_readItems 34 = .ok (.aload_n 0, 1) := by decide +kernel
theorem dX9_readItems_35 : decode cX9_readItems 35 = .ok (.getfield 64, 3) := by decide +kernel
theorem dX9_readItems_38 : decode cX9_readItems 38 = .ok (.if_icmp .ge 85, 3) := by decide +kernel
theorem dX9_readItems_41 : decode cX9_readItems 41 = .ok (.aload_n 0, 1) := by decide +kernel
theorem dX9_readItems_42 : decode cX9_readItems 42 = .ok (.invokevirtual 112, 3) := by decide +kernel
theorem dX9_readItems_45 : decode cX9_readItems 45 = .ok (.istore_n 3, 1) := by decide +kernel
theorem dX9_readItems_46 : decode cX9_readItems 46 = .ok (.iload_n 3, 1) := by decide +kernel
theorem dX9_readItems_47 : decode cX9_readItems 47 = .ok (.iconst (-1), 1) := by decide +kernel
theorem dX9_readItems_48 : decode cX9_readItems 48 = .ok (.if_icmp .eq 32, 3) := by decide +kernel
theorem dX9_readItems_51 : decode cX9_readItems 51 = .ok (.iload_n 3, 1) := by decide +kernel
theorem dX9_readItems_52 : decode cX9_readItems 52 = .ok (.ifCond .ne 7, 3) := by decide +kernel
theorem dX9_readItems_55 : decode cX9_readItems 55 = .ok (.iconst 1, 1) := by decide +kernel
theorem dX9_readItems_56 : decode cX9_readItems 56 = .ok (.goto 4, 3) := by decide +kernel
theorem dX9_readItems_59 : decode cX9_readItems 59 = .ok (.iconst 0, 1) := by decide +kernel
theorem dX9_readItems_60 : decode cX9_readItems 60 = .ok (.iload_n 2, 1) := by decide +kernel
theorem dX9_readItems_61 : decode cX9_readItems 61 = .ok (.ifCond .ne 7, 3) := by decide +kernel
theorem dX9_readItems_64 : decode cX9_readItems 64 = .ok (.iconst 1, 1) := by decide +kernel
theorem dX9_readItems_65 : decode cX9_readItems 65 = .ok (.goto 4, 3) := by decide +kernel
theorem dX9_readItems_68 : decode cX9_readItems 68 = .ok (.iconst 0, 1) := by decide +kernel
theorem dX9_readItems_69 : decode cX9_readItems 69 = .ok (.if_icmp .ne 11, 3) := by decide +kernel
theorem dX9_readItems_72 : decode cX9_readItems 72 = .ok (.aload_n 0, 1) := by decide +kernel
theorem dX9_readItems_73 : decode cX9_readItems 73 = .ok (.iload_n 3, 1) := by decide +kernel
theorem dX9_readItems_74 : decode cX9_readItems 74 = .ok (.invokevirtual 116, 3) := by decide +kernel
theorem dX9_readItems_77 : decode cX9_readItems 77 = .ok (.ifCond .ne 5, 3) := by decide +kernel
theorem dX9_readItems_80 : decode cX9_readItems 80 = .ok (.iconst (-1), 1) := by decide +kernel
theorem dX9_readItems_81 : decode cX9_readItems 81 = .ok (.ireturn, 1) := by decide +kernel
theorem dX9_readItems_82 : decode cX9_readItems 82 = .ok (.aload_n 0, 1) := by decide +kernel
theorem dX9_readItems_83 : decode cX9_readItems 83 = .ok (.invokevirtual 84, 3) := by decide +kernel
theorem dX9_readItems_86 : decode cX9_readItems 86 = .ok (.aload_n 0, 1) := by decide +kernel
theorem dX9_readItems_87 : decode cX9_readItems 87 = .ok (.getfield 71, 3) := by decide +kernel
theorem dX9_readItems_90 : decode cX9_readItems 90 = .ok (.aload_n 0, 1) := by decide +kernel
theorem dX9_readItems_91 : decode cX9_readItems 91 = .ok (.getfield 64, 3) := by decide +kernel
theorem dX9_readItems_94 : decode cX9_readItems 94 = .ok (.if_icmp .eq 17, 3) := by decide +kernel
theorem dX9_readItems_97 : decode cX9_readItems 97 = .ok (.aload_n 0, 1) := by decide +kernel
theorem dX9_readItems_98 : decode cX9_readItems 98 = .ok (.getfield 24, 3) := by decide +kernel
theorem dX9_readItems_101 : decode cX9_readItems 101 = .ok (.aload_n 0, 1) := by decide +kernel
theorem dX9_readItems_102 : decode cX9_readItems 102 = .ok (.getfield 71, 3) := by decide +kernel
theorem dX9_readItems_105 : decode cX9_readItems 105 = .ok (.iaload, 1) := by decide +kernel
theorem dX9_readItems_106 : decode cX9_readItems 106 = .ok (.bipush 59, 2) := by decide +kernel
theorem dX9_readItems_108 : decode cX9_readItems 108 = .ok (.if_icmp .eq 5, 3) := by decide +kernel
theorem dX9_readItems_111 : decode cX9_readItems 111 = .ok (.iconst (-1), 1) := by decide +kernel
theorem dX9_readItems_112 : decode cX9_readItems 112 = .ok (.ireturn, 1) := by decide +kernel
theorem dX9_readItems_113 : decode cX9_readItems 113 = .ok (.iinc 2 1, 3) := by decide +kernel
theorem dX9_readItems_116 : decode cX9_readItems 116 = .ok (.aload_n 0, 1) := by decide +kernel
theorem dX9_readItems_117 : decode cX9_readItems 117 = .ok (.invokevirtual 84, 3) := by decide +kernel
theorem dX9_readItems_120 : decode cX9_readItems 120 = .ok (.goto (-94), 3) := by decide +kernel
theorem dX9_readItems_123 : decode cX9_readItems 123 = .ok (.iload_n 2, 1) := by decide +kernel
theorem dX9_readItems_124 : decode cX9_readItems 124 = .ok (.ireturn, 1) := by decide +kernel
set_option maxRecDepth 20000 in
theorem ggX9_read_X9_readItems : GoodIn wsX9_read wsX9_readItems := goodIn_r _ [7, 8, 9, 10, 11, 1, 12, 13, 14, 15, 16, 6, 17, 18, 19, 20, 21, 22, 23, 24, 25, 26, 27, 28, 29, 30, 31, 32, 33, 34, 35, 36, 37, 38, 39, 40, 41, 2, 42, 43, 44, 45, 46, 47, 48, 49, 50, 51, 52, 53, 54, 55, 56, 57, 58, 59, 60, 61, 62, 63, 64, 65, 66, 67, 68, 69, 70, 71, 72, 73, 74, 75, 76, 77, 78, 79, 80, 81, 82, 83, 84, 85, 86, 87, 88, 89, 90, 91, 92, 93, 94, 95, 96, 97, 98, 99, 100, 101, 102, 103, 104, 105, 106, 107, 108, 109, 110, 111, 112, 113, 114] (by decide +kernel) (by decide +kernel)
set_option maxRecDepth 20000 in
theorem gX9_read_X9_readItems : GoodIn wsX9_read (wsV RX9 119 RX9 yX9_readItems wsX9_readItems) := goodIn_app (goodIn_of _ (by decide +kernel)) ggX9_read_X9_readItems
theorem dX9_read_0 : decode cX9_read 0 = .ok (.aload_n 0, 1) := by decide +kernel
theorem dX9_read_1 : decode cX9_read 1 = .ok (.iconst 0, 1) := by decide +kernel
theorem dX9_read_2 : decode cX9_read 2 = .ok (.invokevirtual 119, 3) := by decide +kernel
theorem dX9_read_5 : decode cX9_read 5 = .ok (.istore_n 1, 1) := by decide +kernel
theorem dX9_read_6 : decode cX9_read 6 = .ok (.iload_n 1, 1) := by decide +kernel
theorem dX9_read_7 : decode cX9_read 7 = .ok (.iconst (-1), 1) := by decide +kernel
theorem dX9_read_8 : decode cX9_read 8 = .ok (.if_icmp .ne 11, 3) := by decide +kernel
theorem dX9_read_11 : decode cX9_read 11 = .ok (.bipush (-10), 2) := by decide +kernel
theorem dX9_read_13 : decode cX9_read 13 = .ok (.aload_n 0, 1) := by decide +kernel
theorem dX9_read_14 : decode cX9_read 14 = .ok (.getfield 71, 3) := by decide +kernel
theorem dX9_read_17 : decode cX9_read 17 = .ok (.isub, 1) := by decide +kernel
theorem dX9_read_18 : decode cX9_read 18 = .ok (.ireturn, 1) := by decide +kernel
theorem dX9_read_19 : decode cX9_read 19 = .ok (.aload_n 0, 1) := by decide +kernel
theorem dX9_read_20 : decode cX9_read 20 = .ok (.iconst 1, 1) := by decide +kernel
theorem dX9_read_21 : decode cX9_read 21 = .ok (.invokevirtual 119, 3) := by decide +kernel
theorem dX9_read_24 : decode cX9_read 24 = .ok (.pop, 1) := by decide +kernel
theorem dX9_read_25 : decode cX9_read 25 = .ok (.aload_n 0, 1) := by decide +kernel
theorem dX9_read_26 : decode cX9_read 26 = .ok (.getfield 7, 3) := by decide +kernel
theorem dX9_read_29 : decode cX9_read 29 = .ok (.bipush 114, 2) := by decide +kernel
theorem dX9_read_31 : decode cX9_read 31 = .ok (.iconst 0, 1) := by decide +kernel
theorem dX9_read_32 : decode cX9_read 32 = .ok (.iastore, 1) := by decide +kernel
theorem dX9_read_33 : decode cX9_read 33 = .ok (.iload_n 1, 1) := by decide +kernel
theorem dX9_read_34 : decode cX9_read 34 = .ok (.ireturn, 1) := by decide +kernel
theorem dX9_smellBy_0 : decode cX9_smellBy 0 = .ok (.iload_n 1, 1) := by decide +kernel
theorem dX9_smellBy_1 : decode cX9_smellBy 1 = .ok (.iconst 2, 1) := by decide +kernel
theorem dX9_smellBy_2 : decode cX9_smellBy 2 = .ok (.iload_n 2, 1) := by decide +kernel
theorem dX9_smellBy_3 : decode cX9_smellBy 3 = .ok (.imul, 1) := by decide +kernel
theorem dX9_smellBy_4 : decode cX9_smellBy 4 = .ok (.if_icmp .le 11, 3) := by decide +kernel
theorem dX9_smellBy_7 : decode cX9_smellBy 7 = .ok (.iload_n 1, 1) := by decide +kernel
theorem dX9_smellBy_8 : decode cX9_smellBy 8 = .ok (.iconst 2, 1) := by decide +kernel
theorem dX9_smellBy_9 : decode cX9_smellBy 9 = .ok (.iload_n 2, 1) := by decide +kernel
theorem dX9_smellBy_10 : decode cX9_smellBy 10 = .ok (.imul, 1) := by decide +kernel
theorem dX9_smellBy_11 : decode cX9_smellBy 11 = .ok (.isub, 1) := by decide +kernel
theorem dX9_smellBy_12 : decode cX9_smellBy 12 = .ok (.goto 4, 3) := by decide +kernel
theorem dX9_smellBy_15 : decode cX9_smellBy 15 = .ok (.iconst 0, 1) := by decide +kernel
theorem dX9_smellBy_16 : decode cX9_smellBy 16 = .ok (.istore 4, 2) := by decide +kernel
theorem dX9_smellBy_18 : decode cX9_smellBy 18 = .ok (.iload 4, 2) := by decide +kernel
theorem dX9_smellBy_20 : decode cX9_smellBy 20 = .ok (.ifCond .le 10, 3) := by decide +kernel
theorem dX9_smellBy_23 : decode cX9_smellBy 23 = .ok (.iload 4, 2) := by decide +kernel
theorem dX9_smellBy_25 : decode cX9_smellBy 25 = .ok (.iconst 2, 1) := by decide +kernel
theorem dX9_smellBy_26 : decode cX9_smellBy 26 = .ok (.iadd, 1) := by decide +kernel
theorem dX9_smellBy_27 : decode cX9_smellBy 27 = .ok (.goto 4, 3) := by decide +kernel
theorem dX9_smellBy_30 : decode cX9_smellBy 30 = .ok (.iconst 0, 1) := by decide +kernel
theorem dX9_smellBy_31 : decode cX9_smellBy 31 = .ok (.istore 5, 2) := by decide +kernel
theorem dX9_smellBy_33 : decode cX9_smellBy 33 = .ok (.iload_n 3, 1) := by decide +kernel
theorem dX9_smellBy_34 : decode cX9_smellBy 34 = .ok (.bipush 7, 2) := by decide +kernel
theorem dX9_smellBy_36 : decode cX9_smellBy 36 = .ok (.irem, 1) := by decide +kernel
theorem dX9_smellBy_37 : decode cX9_smellBy 37 = .ok (.ifCond .ne 10, 3) := by decide +kernel
theorem dX9_smellBy_40 : decode cX9_smellBy 40 = .ok (.iload 4, 2) := by decide +kernel
theorem dX9_smellBy_42 : decode cX9_smellBy 42 = .ok (.iconst 5, 1) := by decide +kernel
theorem dX9_smellBy_43 : decode cX9_smellBy 43 = .ok (.iadd, 1) := by decide +kernel
theorem dX9_smellBy_44 : decode cX9_smellBy 44 = .ok (.goto 5, 3) := by decide +kernel
theorem dX9_smellBy_47 : decode cX9_smellBy 47 = .ok (.iload 4, 2) := by decide +kernel
theorem dX9_smellBy_49 : decode cX9_smellBy 49 = .ok (.istore 6, 2) := by decide +kernel
theorem dX9_smellBy_51 : decode cX9_smellBy 51 = .ok (.iload_n 0, 1) := by decide +kernel
theorem dX9_smellBy_52 : decode cX9_smellBy 52 = .ok (.tableswitch 71 1 5 #[36, 39, 42, 47, 54], 36) := by decide +kernel
theorem dX9_smellBy_88 : decode cX9_smellBy 88 = .ok (.iload 5, 2) := by decide +kernel
theorem dX9_smellBy_90 : decode cX9_smellBy 90 = .ok (.ireturn, 1) := by decide +kernel
theorem dX9_smellBy_91 : decode cX9_smellBy 91 = .ok (.iload 6, 2) := by decide +kernel
theorem dX9_smellBy_93 : decode cX9_smellBy 93 = .ok (.ireturn, 1) := by decide +kernel
theorem dX9_smellBy_94 : decode cX9_smellBy 94 = .ok (.iconst 2, 1) := by decide +kernel
theorem dX9_smellBy_95 : decode cX9_smellBy 95 = .ok (.iload 5, 2) := by decide +kernel
theorem dX9_smellBy_97 : decode cX9_smellBy 97 = .ok (.imul, 1) := by decide +kernel
theorem dX9_smellBy_98 : decode cX9_smellBy 98 = .ok (.ireturn, 1) := by decide +kernel
theorem dX9_smellBy_99 : decode cX9_smellBy 99 = .ok (.iload 4, 2) := by decide +kernel
theorem dX9_smellBy_101 : decode cX9_smellBy 101 = .ok (.iconst 1, 1) := by decide +kernel
theorem dX9_smellBy_102 : decode cX9_smellBy 102 = .ok (.iadd, 1) := by decide +kernel
theorem dX9_smellBy_103 : decode cX9_smellBy 103 = .ok (.iconst 2, 1) := by decide +kernel
theorem dX9_smellBy_104 : decode cX9_smellBy 104 = .ok (.idiv, 1) := by decide +kernel
theorem dX9_smellBy_105 : decode cX9_smellBy 105 = .ok (.ireturn, 1) := by decide +kernel
theorem dX9_smellBy_106 : decode cX9_smellBy 106 = .ok (.iload 6, 2) := by decide +kernel
theorem dX9_smellBy_108 : decode cX9_smellBy 108 = .ok (.iload_n 2, 1) := by decide +kernel
theorem dX9_smellBy_109 : decode cX9_smellBy 109 = .ok (.isub, 1) := by decide +kernel
theorem dX9_smellBy_110 : decode cX9_smellBy 110 = .ok (.iconst 1, 1) := by decide +kernel
theorem dX9_smellBy_111 : decode cX9_smellBy 111 = .ok (.if_icmp .ge 7, 3) := by decide +kernel
theorem dX9_smellBy_114 : decode cX9_smellBy 114 = .ok (.iconst 1, 1) := by decide +kernel
theorem dX9_smellBy_115 : decode cX9_smellBy 115 = .ok (.goto 7, 3) := by decide +kernel
theorem dX9_smellBy_118 : decode cX9_smellBy 118 = .ok (.iload 6, 2) := by decide +kernel
theorem dX9_smellBy_120 : decode cX9_smellBy 120 = .ok (.iload_n 2, 1) := by decide +kernel
theorem dX9_smellBy_121 : decode cX9_smellBy 121 = .ok (.isub, 1) := by decide +kernel
theorem dX9_smellBy_122 : decode cX9_smellBy 122 = .ok (.ireturn, 1) := by decide +kernel
theorem dX9_smellBy_123 : decode cX9_smellBy 123 = .ok (.iload 4, 2) := by decide +kernel
theorem dX9_smellBy_125 : decode cX9_smellBy 125 = .ok (.ireturn, 1) := by decide +kernel
theorem dX9_takesBy_0 : decode cX9_takesBy 0 = .ok (.iload_n 1, 1) := by decide +kernel
theorem dX9_takesBy_1 : decode cX9_takesBy 1 = .ok (.iconst 2, 1) := by decide +kernel
theorem dX9_takesBy_2 : decode cX9_takesBy 2 = .ok (.idiv, 1) := by decide +kernel
theorem dX9_takesBy_3 : decode cX9_takesBy 3 = .ok (.istore_n 3, 1) := by decide +kernel
theorem dX9_takesBy_4 : decode cX9_takesBy 4 = .ok (.iload_n 3, 1) := by decide +kernel
theorem dX9_takesBy_5 : decode cX9_takesBy 5 = .ok (.ifCond .le 9, 3) := by decide +kernel
theorem dX9_takesBy_8 : decode cX9_takesBy 8 = .ok (.iload_n 3, 1) := by decide +kernel
theorem dX9_takesBy_9 : decode cX9_takesBy 9 = .ok (.iconst 1, 1) := by decide +kernel
theorem dX9_takesBy_10 : decode cX9_takesBy 10 = .ok (.isub, 1) := by decide +kernel
theorem dX9_takesBy_11 : decode cX9_takesBy 11 = .ok (.goto 4, 3) := by decide +kernel
theorem dX9_takesBy_14 : decode cX9_takesBy 14 = .ok (.iconst 0, 1) := by decide +kernel
theorem dX9_takesBy_15 : decode cX9_takesBy 15 = .ok (.istore 4, 2) := by decide +kernel
theorem dX9_takesBy_17 : decode cX9_takesBy 17 = .ok (.iload_n 1, 1) := by decide +kernel
theorem dX9_takesBy_18 : decode cX9_takesBy 18 = .ok (.ifCond .le 9, 3) := by decide +kernel
theorem dX9_takesBy_21 : decode cX9_takesBy 21 = .ok (.iload_n 3, 1) := by decide +kernel
theorem dX9_takesBy_22 : decode cX9_takesBy 22 = .ok (.iconst 2, 1) := by decide +kernel
theorem dX9_takesBy_23 : decode cX9_takesBy 23 = .ok (.iadd, 1) := by decide +kernel
theorem dX9_takesBy_24 : decode cX9_takesBy 24 = .ok (.goto 4, 3) := by decide +kernel
theorem dX9_takesBy_27 : decode cX9_takesBy 27 = .ok (.iload_n 3, 1) := by decide +kernel
theorem dX9_takesBy_28 : decode cX9_takesBy 28 = .ok (.istore 5, 2) := by decide +kernel
theorem dX9_takesBy_30 : decode cX9_takesBy 30 = .ok (.iload_n 0, 1) := by decide +kernel
theorem dX9_takesBy_31 : decode cX9_takesBy 31 = .ok (.tableswitch 87 1 5 #[33, 36, 39, 54, 68], 33) := by decide +kernel
theorem dX9_takesBy_64 : decode cX9_takesBy 64 = .ok (.iload 4, 2) := by decide +kernel
theorem dX9_takesBy_66 : decode cX9_takesBy 66 = .ok (.ireturn, 1) := by decide +kernel
theorem dX9_takesBy_67 : decode cX9_takesBy 67 = .ok (.iload 5, 2) := by decide +kernel
theorem dX9_takesBy_69 : decode cX9_takesBy 69 = .ok (.ireturn, 1) := by decide +kernel
theorem dX9_takesBy_70 : decode cX9_takesBy 70 = .ok (.iload_n 2, 1) := by decide +kernel
theorem dX9_takesBy_71 : decode cX9_takesBy 71 = .ok (.bipush 13, 2) := by decide +kernel
theorem dX9_takesBy_73 : decode cX9_takesBy 73 = .ok (.irem, 1) := by decide +kernel
theorem dX9_takesBy_74 : decode cX9_takesBy 74 = .ok (.ifCond .ne 8, 3) := by decide +kernel
theorem dX9_takesBy_77 : decode cX9_takesBy 77 = .ok (.bipush 6, 2) := by decide +kernel
theorem dX9_takesBy_79 : decode cX9_takesBy 79 = .ok (.goto 5, 3) := by decide +kernel
theorem dX9_takesBy_82 : decode cX9_takesBy 82 = .ok (.iload 4, 2) := by decide +kernel
theorem dX9_takesBy_84 : decode cX9_takesBy 84 = .ok (.ireturn, 1) := by decide +kernel
theorem dX9_takesBy_85 : decode cX9_takesBy 85 = .ok (.iload_n 2, 1) := by decide +kernel
theorem dX9_takesBy_86 : decode cX9_takesBy 86 = .ok (.bipush 19, 2) := by decide +kernel
theorem dX9_takesBy_88 : decode cX9_takesBy 88 = .ok (.if_icmp .le 9, 3) := by decide +kernel
theorem dX9_takesBy_91 : decode cX9_takesBy 91 = .ok (.iload_n 3, 1) := by decide +kernel
theorem dX9_takesBy_92 : decode cX9_takesBy 92 = .ok (.iconst 1, 1) := by decide +kernel
theorem dX9_takesBy_93 : decode cX9_takesBy 93 = .ok (.iadd, 1) := by decide +kernel
theorem dX9_takesBy_94 : decode cX9_takesBy 94 = .ok (.goto 4, 3) := by decide +kernel
theorem dX9_takesBy_97 : decode cX9_takesBy 97 = .ok (.iload_n 3, 1) := by decide +kernel
theorem dX9_takesBy_98 : decode cX9_takesBy 98 = .ok (.ireturn, 1) := by decide +kernel
theorem dX9_takesBy_99 : decode cX9_takesBy 99 = .ok (.iconst 2, 1) := by decide +kernel
theorem dX9_takesBy_100 : decode cX9_takesBy 100 = .ok (.iload 5, 2) := by decide +kernel
theorem dX9_takesBy_102 : decode cX9_takesBy 102 = .ok (.imul, 1) := by decide +kernel
theorem dX9_takesBy_103 : decode cX9_takesBy 103 = .ok (.bipush 9, 2) := by decide +kernel
theorem dX9_takesBy_105 : decode cX9_takesBy 105 = .ok (.if_icmp .le 8, 3) := by decide +kernel
theorem dX9_takesBy_108 : decode cX9_takesBy 108 = .ok (.bipush 9, 2) := by decide +kernel
theorem dX9_takesBy_110 : decode cX9_takesBy 110 = .ok (.goto 7, 3) := by decide +kernel
theorem dX9_takesBy_113 : decode cX9_takesBy 113 = .ok (.iconst 2, 1) := by decide +kernel
theorem dX9_takesBy_114 : decode cX9_takesBy 114 = .ok (.iload 5, 2) := by decide +kernel
theorem dX9_takesBy_116 : decode cX9_takesBy 116 = .ok (.imul, 1) := by decide +kernel
theorem dX9_takesBy_117 : decode cX9_takesBy 117 = .ok (.ireturn, 1) := by decide +kernel
theorem dX9_takesBy_118 : decode cX9_takesBy 118 = .ok (.iload_n 3, 1) := by decide +kernel
theorem dX9_takesBy_119 : decode cX9_takesBy 119 = .ok (.ireturn, 1) := by decide +kernel
theorem dX9_apart_0 : decode cX9_apart 0 = .ok (.iload_n 0, 1) := by decide +kernel
theorem dX9_apart_1 : decode cX9_apart 1 = .ok (.iload_n 1, 1) := by decide +kernel
theorem dX9_apart_2 : decode cX9_apart 2 = .ok (.if_icmp .le 9, 3) := by decide +kernel
theorem dX9_apart_5 : decode cX9_apart 5 = .ok (.iload_n 0, 1) := by decide +kernel
theorem dX9_apart_6 : decode cX9_apart 6 = .ok (.iload_n 1, 1) := by decide +kernel
theorem dX9_apart_7 : decode cX9_apart 7 = .ok (.isub, 1) := by decide +kernel
theorem dX9_apart_8 : decode cX9_apart 8 = .ok (.goto 6, 3) := by decide +kernel
theorem dX9_apart_11 : decode cX9_apart 11 = .ok (.iload_n 1, 1) := by decide +kernel
theorem dX9_apart_12 : decode cX9_apart 12 = .ok (.iload_n 0, 1) := by decide +kernel
theorem dX9_apart_13 : decode cX9_apart 13 = .ok (.isub, 1) := by decide +kernel
theorem dX9_apart_14 : decode cX9_apart 14 = .ok (.ireturn, 1) := by decide +kernel
set_option maxRecDepth 20000 in
theorem ggX9_far_X9_apart : GoodIn wsX9_far wsX9_apart := goodIn_r _ [4] (by decide +kernel) (by decide +kernel)
set_option maxRecDepth 20000 in
theorem gX9_far_X9_apart : GoodIn wsX9_far (va_wsS RX9 123 yX9_apart wsX9_apart) := goodIn_app (goodIn_of _ (by decide +kernel)) ggX9_far_X9_apart
theorem dX9_far_0 : decode cX9_far 0 = .ok (.iload_n 0, 1) := by decide +kernel
theorem dX9_far_1 : decode cX9_far 1 = .ok (.iconst 5, 1) := by decide +kernel
theorem dX9_far_2 : decode cX9_far 2 = .ok (.idiv, 1) := by decide +kernel
theorem dX9_far_3 : decode cX9_far 3 = .ok (.iload_n 1, 1) := by decide +kernel
theorem dX9_far_4 : decode cX9_far 4 = .ok (.iconst 5, 1) := by decide +kernel
theorem dX9_far_5 : decode cX9_far 5 = .ok (.idiv, 1) := by decide +kernel
theorem dX9_far_6 : decode cX9_far 6 = .ok (.invokestatic 123, 3) := by decide +kernel
theorem dX9_far_9 : decode cX9_far 9 = .ok (.iload_n 0, 1) := by decide +kernel
theorem dX9_far_10 : decode cX9_far 10 = .ok (.iconst 5, 1) := by decide +kernel
theorem dX9_far_11 : decode cX9_far 11 = .ok (.irem, 1) := by decide +kernel
theorem dX9_far_12 : decode cX9_far 12 = .ok (.iload_n 1, 1) := by decide +kernel
theorem dX9_far_13 : decode cX9_far 13 = .ok (.iconst 5, 1) := by decide +kernel
theorem dX9_far_14 : decode cX9_far 14 = .ok (.irem, 1) := by decide +kernel
theorem dX9_far_15 : decode cX9_far 15 = .ok (.invokestatic 123, 3) := by decide +kernel
theorem dX9_far_18 : decode cX9_far 18 = .ok (.iadd, 1) := by decide +kernel
theorem dX9_far_19 : decode cX9_far 19 = .ok (.ireturn, 1) := by decide +kernel
set_option maxRecDepth 20000 in
theorem ggX9_smellOf_X9_has : GoodIn wsX9_smellOf wsX9_has := goodIn_r _ [5] (by decide +kernel) (by decide +kernel)
set_option maxRecDepth 20000 in
theorem gX9_smellOf_X9_has : GoodIn wsX9_smellOf (va_wsS RX9 126 yX9_has wsX9_has) := goodIn_app (goodIn_of _ (by decide +kernel)) ggX9_smellOf_X9_has
set_option maxRecDepth 20000 in
theorem ggX9_smellOf_X9_far : GoodIn wsX9_smellOf wsX9_far := goodIn_r _ [8, 9, 10, 4, 11] (by decide +kernel) (by decide +kernel)
set_option maxRecDepth 20000 in
theorem gX9_smellOf_X9_far : GoodIn wsX9_smellOf (va_wsS RX9 130 yX9_far wsX9_far) := goodIn_app (goodIn_of _ (by decide +kernel)) ggX9_smellOf_X9_far
set_option maxRecDepth 20000 in
theorem ggX9_smellOf_X9_smellBy : GoodIn wsX9_smellOf wsX9_smellBy := goodIn_r _ [14] (by decide +kernel) (by decide +kernel)
set_option maxRecDepth 20000 in
theorem gX9_smellOf_X9_smellBy : GoodIn wsX9_smellOf (va_wsS RX9 133 yX9_smellBy wsX9_smellBy) := goodIn_app (goodIn_of _ (by decide +kernel)) ggX9_smellOf_X9_smellBy
theorem dX9_smellOf_0 : decode cX9_smellOf 0 = .ok (.iconst 0, 1) := by decide +kernel
theorem dX9_smellOf_1 : decode cX9_smellOf 1 = .ok (.istore 4, 2) := by decide +kernel
theorem dX9_smellOf_3 : decode cX9_smellOf 3 = .ok (.iconst 0, 1) := by decide +kernel
theorem dX9_smellOf_4 : decode cX9_smellOf 4 = .ok (.istore 5, 2) := by decide +kernel
theorem dX9_smellOf_6 : decode cX9_smellOf 6 = .ok (.iload 5, 2) := by decide +kernel
theorem dX9_smellOf_8 : decode cX9_smellOf 8 = .ok (.aload_n 0, 1) := by decide +kernel
theorem dX9_smellOf_9 : decode cX9_smellOf 9 = .ok (.getfield 7, 3) := by decide +kernel
theorem dX9_smellOf_12 : decode cX9_smellOf 12 = .ok (.bipush 17, 2) := by decide +kernel
theorem dX9_smellOf_14 : decode cX9_smellOf 14 = .ok (.iaload, 1) := by decide +kernel
theorem dX9_smellOf_15 : decode cX9_smellOf 15 = .ok (.if_icmp .ge 65, 3) := by decide +kernel
theorem dX9_smellOf_18 : decode cX9_smellOf 18 = .ok (.iload 4, 2) := by decide +kernel
theorem dX9_smellOf_20 : decode cX9_smellOf 20 = .ok (.iload_n 1, 1) := by decide +kernel
theorem dX9_smellOf_21 : decode cX9_smellOf 21 = .ok (.iload 5, 2) := by decide +kernel
theorem dX9_smellOf_23 : decode cX9_smellOf 23 = .ok (.invokestatic 126, 3) := by decide +kernel
theorem dX9_smellOf_26 : decode cX9_smellOf 26 = .ok (.ifCond .eq 44, 3) := by decide +kernel
theorem dX9_smellOf_29 : decode cX9_smellOf 29 = .ok (.aload_n 0, 1) := by decide +kernel
theorem dX9_smellOf_30 : decode cX9_smellOf 30 = .ok (.getfield 7, 3) := by decide +kernel
theorem dX9_smellOf_33 : decode cX9_smellOf 33 = .ok (.bipush 18, 2) := by decide +kernel
theorem dX9_smellOf_35 : decode cX9_smellOf 35 = .ok (.iload 5, 2) := by decide +kernel
theorem dX9_smellOf_37 : decode cX9_smellOf 37 = .ok (.iadd, 1) := by decide +kernel
theorem dX9_smellOf_38 : decode cX9_smellOf 38 = .ok (.iaload, 1) := by decide +kernel
theorem dX9_smellOf_39 : decode cX9_smellOf 39 = .ok (.aload_n 0, 1) := by decide +kernel
theorem dX9_smellOf_40 : decode cX9_smellOf 40 = .ok (.getfield 7, 3) := by decide +kernel
theorem dX9_smellOf_43 : decode cX9_smellOf 43 = .ok (.bipush 24, 2) := by decide +kernel
theorem dX9_smellOf_45 : decode cX9_smellOf 45 = .ok (.iload 5, 2) := by decide +kernel
theorem dX9_smellOf_47 : decode cX9_smellOf 47 = .ok (.iadd, 1) := by decide +kernel
theorem dX9_smellOf_48 : decode cX9_smellOf 48 = .ok (.iaload, 1) := by decide +kernel
theorem dX9_smellOf_49 : decode cX9_smellOf 49 = .ok (.aload_n 0, 1) := by decide +kernel
theorem dX9_smellOf_50 : decode cX9_smellOf 50 = .ok (.getfield 7, 3) := by decide +kernel
theorem dX9_smellOf_53 : decode cX9_smellOf 53 = .ok (.bipush 21, 2) := by decide +kernel
theorem dX9_smellOf_55 : decode cX9_smellOf 55 = .ok (.iload 5, 2) := by decide +kernel
theorem dX9_smellOf_57 : decode cX9_smellOf 57 = .ok (.iadd, 1) := by decide +kernel
theorem dX9_smellOf_58 : decode cX9_smellOf 58 = .ok (.iaload, 1) := by decide +kernel
theorem dX9_smellOf_59 : decode cX9_smellOf 59 = .ok (.iload_n 2, 1) := by decide +kernel
theorem dX9_smellOf_60 : decode cX9_smellOf 60 = .ok (.invokestatic 130, 3) := by decide +kernel
theorem dX9_smellOf_63 : decode cX9_smellOf 63 = .ok (.iload_n 3, 1) := by decide +kernel
theorem dX9_smellOf_64 : decode cX9_smellOf 64 = .ok (.invokestatic 133, 3) := by decide +kernel
theorem dX9_smellOf_67 : decode cX9_smellOf 67 = .ok (.goto 4, 3) := by decide +kernel
theorem dX9_smellOf_70 : decode cX9_smellOf 70 = .ok (.iconst 0, 1) := by decide +kernel
theorem dX9_smellOf_71 : decode cX9_smellOf 71 = .ok (.iadd, 1) := by decide +kernel
theorem dX9_smellOf_72 : decode cX9_smellOf 72 = .ok (.istore 4, 2) := by decide +kernel
theorem dX9_smellOf_74 : decode cX9_smellOf 74 = .ok (.iinc 5 1, 3) := by decide +kernel
theorem dX9_smellOf_77 : decode cX9_smellOf 77 = .ok (.goto (-71), 3) := by decide +kernel
theorem dX9_smellOf_80 : decode cX9_smellOf 80 = .ok (.iload 4, 2) := by decide +kernel
theorem dX9_smellOf_82 : decode cX9_smellOf 82 = .ok (.ireturn, 1) := by decide +kernel
theorem dX9_takeOff_0 : decode cX9_takeOff 0 = .ok (.aload_n 0, 1) := by decide +kernel
theorem dX9_takeOff_1 : decode cX9_takeOff 1 = .ok (.getfield 7, 3) := by decide +kernel
theorem dX9_takeOff_4 : decode cX9_takeOff 4 = .ok (.iload_n 1, 1) := by decide +kernel
theorem dX9_takeOff_5 : decode cX9_takeOff 5 = .ok (.iconst 0, 1) := by decide +kernel
theorem dX9_takeOff_6 : decode cX9_takeOff 6 = .ok (.iadd, 1) := by decide +kernel
theorem dX9_takeOff_7 : decode cX9_takeOff 7 = .ok (.iload_n 2, 1) := by decide +kernel
theorem dX9_takeOff_8 : decode cX9_takeOff 8 = .ok (.iadd, 1) := by decide +kernel
theorem dX9_takeOff_9 : decode cX9_takeOff 9 = .ok (.dup2, 1) := by decide +kernel
theorem dX9_takeOff_10 : decode cX9_takeOff 10 = .ok (.iaload, 1) := by decide +kernel
theorem dX9_takeOff_11 : decode cX9_takeOff 11 = .ok (.iload_n 3, 1) := by decide +kernel
theorem dX9_takeOff_12 : decode cX9_takeOff 12 = .ok (.isub, 1) := by decide +kernel
theorem dX9_takeOff_13 : decode cX9_takeOff 13 = .ok (.iastore, 1) := by decide +kernel
theorem dX9_takeOff_14 : decode cX9_takeOff 14 = .ok (.aload_n 0, 1) := by decide +kernel
theorem dX9_takeOff_15 : decode cX9_takeOff 15 = .ok (.getfield 7, 3) := by decide +kernel
theorem dX9_takeOff_18 : decode cX9_takeOff 18 = .ok (.iload_n 1, 1) := by decide +kernel
theorem dX9_takeOff_19 : decode cX9_takeOff 19 = .ok (.iconst 0, 1) := by decide +kernel
theorem dX9_takeOff_20 : decode cX9_takeOff 20 = .ok (.iadd, 1) := by decide +kernel
theorem dX9_takeOff_21 : decode cX9_takeOff 21 = .ok (.iload_n 2, 1) := by decide +kernel
theorem dX9_takeOff_22 : decode cX9_takeOff 22 = .ok (.iadd, 1) := by decide +kernel
theorem dX9_takeOff_23 : decode cX9_takeOff 23 = .ok (.iaload, 1) := by decide +kernel
theorem dX9_takeOff_24 : decode cX9_takeOff 24 = .ok (.iconst 1, 1) := by decide +kernel
theorem dX9_takeOff_25 : decode cX9_takeOff 25 = .ok (.if_icmp .ge 29, 3) := by decide +kernel
theorem dX9_takeOff_28 : decode cX9_takeOff 28 = .ok (.aload_n 0, 1) := by decide +kernel
theorem dX9_takeOff_29 : decode cX9_takeOff 29 = .ok (.getfield 7, 3) := by decide +kernel
theorem dX9_takeOff_32 : decode cX9_takeOff 32 = .ok (.iload_n 1, 1) := by decide +kernel
theorem dX9_takeOff_33 : decode cX9_takeOff 33 = .ok (.iconst 0, 1) := by decide +kernel
theorem dX9_takeOff_34 : decode cX9_takeOff 34 = .ok (.iadd, 1) := by decide +kernel
theorem dX9_takeOff_35 : decode cX9_takeOff 35 = .ok (.iload_n 2, 1) := by decide +kernel
theorem dX9_takeOff_36 : decode cX9_takeOff 36 = .ok (.iadd, 1) := by decide +kernel
theorem dX9_takeOff_37 : decode cX9_takeOff 37 = .ok (.iconst 0, 1) := by decide +kernel
theorem dX9_takeOff_38 : decode cX9_takeOff 38 = .ok (.iastore, 1) := by decide +kernel
theorem dX9_takeOff_39 : decode cX9_takeOff 39 = .ok (.aload_n 0, 1) := by decide +kernel
theorem dX9_takeOff_40 : decode cX9_takeOff 40 = .ok (.getfield 7, 3) := by decide +kernel
theorem dX9_takeOff_43 : decode cX9_takeOff 43 = .ok (.iload_n 1, 1) := by decide +kernel
theorem dX9_takeOff_44 : decode cX9_takeOff 44 = .ok (.bipush 7, 2) := by decide +kernel
theorem dX9_takeOff_46 : decode cX9_takeOff 46 = .ok (.iadd, 1) := by decide +kernel
theorem dX9_takeOff_47 : decode cX9_takeOff 47 = .ok (.dup2, 1) := by decide +kernel
theorem dX9_takeOff_48 : decode cX9_takeOff 48 = .ok (.iaload, 1) := by decide +kernel
theorem dX9_takeOff_49 : decode cX9_takeOff 49 = .ok (.iconst 1, 1) := by decide +kernel
theorem dX9_takeOff_50 : decode cX9_takeOff 50 = .ok (.iload_n 2, 1) := by decide +kernel
theorem dX9_takeOff_51 : decode cX9_takeOff 51 = .ok (.ishl, 1) := by decide +kernel
theorem dX9_takeOff_52 : decode cX9_takeOff 52 = .ok (.ior, 1) := by decide +kernel
theorem dX9_takeOff_53 : decode cX9_takeOff 53 = .ok (.iastore, 1) := by decide +kernel
theorem dX9_takeOff_54 : decode cX9_takeOff 54 = .ok (.return_, 1) := by decide +kernel
set_option maxRecDepth 20000 in
theorem ggX9_passes_X9_has : GoodIn wsX9_passes wsX9_has := goodIn_r _ [5] (by decide +kernel) (by decide +kernel)
set_option maxRecDepth 20000 in
theorem gX9_passes_X9_has : GoodIn wsX9_passes (va_wsS RX9 126 yX9_has wsX9_has) := goodIn_app (goodIn_of _ (by decide +kernel)) ggX9_passes_X9_has
set_option maxRecDepth 20000 in
theorem ggX9_passes_X9_smellOf : GoodIn wsX9_passes wsX9_smellOf := goodIn_r _ [9, 1, 2, 3, 4, 5, 10, 11, 12, 13, 14, 15, 16, 17, 18, 26, 27, 28, 29, 30, 31, 32, 33, 34, 35, 36, 37, 38, 39, 40, 41, 42, 43] (by decide +kernel) (by decide +kernel)
set_option maxRecDepth 20000 in
theorem gX9_passes_X9_smellOf : GoodIn wsX9_passes (wsV RX9 137 RX9 yX9_smellOf wsX9_smellOf) := goodIn_app (goodIn_of _ (by decide +kernel)) ggX9_passes_X9_smellOf
set_option maxRecDepth 20000 in
theorem ggX9_passes_X9_takesBy : GoodIn wsX9_passes wsX9_takesBy := goodIn_r _ [21] (by decide +kernel) (by decide +kernel)
set_option maxRecDepth 20000 in
theorem gX9_passes_X9_takesBy : GoodIn wsX9_passes (va_wsS RX9 141 yX9_takesBy wsX9_takesBy) := goodIn_app (goodIn_of _ (by decide +kernel)) ggX9_passes_X9_takesBy
set_option maxRecDepth 20000 in
theorem ggX9_passes_X9_takeOff : GoodIn wsX9_passes wsX9_takeOff := goodIn_r _ [25, 1, 26, 27, 28, 29, 30, 31, 32, 33, 34, 35, 36, 37, 38, 39, 40, 41, 42, 43] (by decide +kernel) (by decide +kernel)
set_option maxRecDepth 20000 in
theorem gX9_passes_X9_takeOff : GoodIn wsX9_passes (wsV RX9 144 RX9 yX9_takeOff wsX9_takeOff) := goodIn_app (goodIn_of _ (by decide +kernel)) ggX9_passes_X9_takeOff
theorem dX9_passes_0 : decode cX9_passes 0 = .ok (.aload_n 0, 1) := by decide +kernel
theorem dX9_passes_1 : decode cX9_passes 1 = .ok (.getfield 7, 3) := by decide +kernel
theorem dX9_passes_4 : decode cX9_passes 4 = .ok (.iload_n 1, 1) := by decide +kernel
theorem dX9_passes_5 : decode cX9_passes 5 = .ok (.bipush 16, 2) := by decide +kernel
theorem dX9_passes_7 : decode cX9_passes 7 = .ok (.iadd, 1) := by decide +kernel
theorem dX9_passes_8 : decode cX9_passes 8 = .ok (.iaload, 1) := by decide +kernel
theorem dX9_passes_9 : decode cX9_passes 9 = .ok (.istore_n 3, 1) := by decide +kernel
theorem dX9_passes_10 : decode cX9_passes 10 = .ok (.iconst 0, 1) := by decide +kernel
theorem dX9_passes_11 : decode cX9_passes 11 = .ok (.istore 4, 2) := by decide +kernel
theorem dX9_passes_13 : decode cX9_passes 13 = .ok (.iload 4, 2) := by decide +kernel
theorem dX9_passes_15 : decode cX9_passes 15 = .ok (.aload_n 0, 1) := by decide +kernel
theorem dX9_passes_16 : decode cX9_passes 16 = .ok (.getfield 7, 3) := by decide +kernel
theorem dX9_passes_19 : decode cX9_passes 19 = .ok (.bipush 27, 2) := by decide +kernel
theorem dX9_passes_21 : decode cX9_passes 21 = .ok (.iaload, 1) := by decide +kernel
theorem dX9_passes_22 : decode cX9_passes 22 = .ok (.if_icmp .ge 85, 3) := by decide +kernel
theorem dX9_passes_25 : decode cX9_passes 25 = .ok (.aload_n 0, 1) := by decide +kernel
theorem dX9_passes_26 : decode cX9_passes 26 = .ok (.getfield 7, 3) := by decide +kernel
theorem dX9_passes_29 : decode cX9_passes 29 = .ok (.iload_n 1, 1) := by decide +kernel
theorem dX9_passes_30 : decode cX9_passes 30 = .ok (.bipush 7, 2) := by decide +kernel
theorem dX9_passes_32 : decode cX9_passes 32 = .ok (.iadd, 1) := by decide +kernel
theorem dX9_passes_33 : decode cX9_passes 33 = .ok (.iaload, 1) := by decide +kernel
theorem dX9_passes_34 : decode cX9_passes 34 = .ok (.iload 4, 2) := by decide +kernel
theorem dX9_passes_36 : decode cX9_passes 36 = .ok (.invokestatic 126, 3) := by decide +kernel
theorem dX9_passes_39 : decode cX9_passes 39 = .ok (.ifCond .ne 62, 3) := by decide +kernel
theorem dX9_passes_42 : decode cX9_passes 42 = .ok (.iload_n 2, 1) := by decide +kernel
theorem dX9_passes_43 : decode cX9_passes 43 = .ok (.ifCond .eq 7, 3) := by decide +kernel
theorem dX9_passes_46 : decode cX9_passes 46 = .ok (.iconst 0, 1) := by decide +kernel
theorem dX9_passes_47 : decode cX9_passes 47 = .ok (.goto 29, 3) := by decide +kernel
theorem dX9_passes_50 : decode cX9_passes 50 = .ok (.aload_n 0, 1) := by decide +kernel
theorem dX9_passes_51 : decode cX9_passes 51 = .ok (.aload_n 0, 1) := by decide +kernel
theorem dX9_passes_52 : decode cX9_passes 52 = .ok (.getfield 7, 3) := by decide +kernel
theorem dX9_passes_55 : decode cX9_passes 55 = .ok (.iload_n 1, 1) := by decide +kernel
theorem dX9_passes_56 : decode cX9_passes 56 = .ok (.bipush 15, 2) := by decide +kernel
theorem dX9_passes_58 : decode cX9_passes 58 = .ok (.iadd, 1) := by decide +kernel
theorem dX9_passes_59 : decode cX9_passes 59 = .ok (.iaload, 1) := by decide +kernel
theorem dX9_passes_60 : decode cX9_passes 60 = .ok (.aload_n 0, 1) := by decide +kernel
theorem dX9_passes_61 : decode cX9_passes 61 = .ok (.getfield 7, 3) := by decide +kernel
theorem dX9_passes_64 : decode cX9_passes 64 = .ok (.iload_n 1, 1) := by decide +kernel
theorem dX9_passes_65 : decode cX9_passes 65 = .ok (.bipush 8, 2) := by decide +kernel
theorem dX9_passes_67 : decode cX9_passes 67 = .ok (.iadd, 1) := by decide +kernel
theorem dX9_passes_68 : decode cX9_passes 68 = .ok (.iload 4, 2) := by decide +kernel
theorem dX9_passes_70 : decode cX9_passes 70 = .ok (.iadd, 1) := by decide +kernel
theorem dX9_passes_71 : decode cX9_passes 71 = .ok (.iaload, 1) := by decide +kernel
theorem dX9_passes_72 : decode cX9_passes 72 = .ok (.iload_n 3, 1) := by decide +kernel
theorem dX9_passes_73 : decode cX9_passes 73 = .ok (.invokevirtual 137, 3) := by decide +kernel
theorem dX9_passes_76 : decode cX9_passes 76 = .ok (.istore 5, 2) := by decide +kernel
theorem dX9_passes_78 : decode cX9_passes 78 = .ok (.aload_n 0, 1) := by decide +kernel
theorem dX9_passes_79 : decode cX9_passes 79 = .ok (.iload_n 1, 1) := by decide +kernel
theorem dX9_passes_80 : decode cX9_passes 80 = .ok (.iload 4, 2) := by decide +kernel
theorem dX9_passes_82 : decode cX9_passes 82 = .ok (.aload_n 0, 1) := by decide +kernel
theorem dX9_passes_83 : decode cX9_passes 83 = .ok (.getfield 7, 3) := by decide +kernel
theorem dX9_passes_86 : decode cX9_passes 86 = .ok (.bipush 28, 2) := by decide +kernel
theorem dX9_passes_88 : decode cX9_passes 88 = .ok (.iload 4, 2) := by decide +kernel
theorem dX9_passes_90 : decode cX9_passes 90 = .ok (.iadd, 1) := by decide +kernel
theorem dX9_passes_91 : decode cX9_passes 91 = .ok (.iaload, 1) := by decide +kernel
theorem dX9_passes_92 : decode cX9_passes 92 = .ok (.iload 5, 2) := by decide +kernel
theorem dX9_passes_94 : decode cX9_passes 94 = .ok (.iload_n 3, 1) := by decide +kernel
theorem dX9_passes_95 : decode cX9_passes 95 = .ok (.invokestatic 141, 3) := by decide +kernel
theorem dX9_passes_98 : decode cX9_passes 98 = .ok (.invokevirtual 144, 3) := by decide +kernel
theorem dX9_passes_101 : decode cX9_passes 101 = .ok (.iinc 4 1, 3) := by decide +kernel
theorem dX9_passes_104 : decode cX9_passes 104 = .ok (.goto (-91), 3) := by decide +kernel
theorem dX9_passes_107 : decode cX9_passes 107 = .ok (.aload_n 0, 1) := by decide +kernel
theorem dX9_passes_108 : decode cX9_passes 108 = .ok (.getfield 7, 3) := by decide +kernel
theorem dX9_passes_111 : decode cX9_passes 111 = .ok (.iload_n 1, 1) := by decide +kernel
theorem dX9_passes_112 : decode cX9_passes 112 = .ok (.bipush 16, 2) := by decide +kernel
theorem dX9_passes_114 : decode cX9_passes 114 = .ok (.iadd, 1) := by decide +kernel
theorem dX9_passes_115 : decode cX9_passes 115 = .ok (.dup2, 1) := by decide +kernel
theorem dX9_passes_116 : decode cX9_passes 116 = .ok (.iaload, 1) := by decide +kernel
theorem dX9_passes_117 : decode cX9_passes 117 = .ok (.iconst 1, 1) := by decide +kernel
theorem dX9_passes_118 : decode cX9_passes 118 = .ok (.iadd, 1) := by decide +kernel
theorem dX9_passes_119 : decode cX9_passes 119 = .ok (.iastore, 1) := by decide +kernel
theorem dX9_passes_120 : decode cX9_passes 120 = .ok (.return_, 1) := by decide +kernel
set_option maxRecDepth 20000 in
theorem ggX9_goBy_X9_passes : GoodIn wsX9_goBy wsX9_passes := goodIn_r _ [6, 1, 7, 8, 5, 9, 10, 11, 12, 13, 14, 15, 16, 17, 18, 19, 20, 21, 22, 23, 24, 25, 26, 27, 28, 29, 30, 31, 32, 33, 34, 35, 36, 37, 38, 39, 40, 41, 42, 43, 44, 45, 46, 47] (by decide +kernel) (by decide +kernel)
set_option maxRecDepth 20000 in
theorem gX9_goBy_X9_passes : GoodIn wsX9_goBy (wsV RX9 147 RX9 yX9_passes wsX9_passes) := goodIn_app (goodIn_of _ (by decide +kernel)) ggX9_goBy_X9_passes
theorem dX9_goBy_0 : decode cX9_goBy 0 = .ok (.iconst 0, 1) := by decide +kernel
theorem dX9_goBy_1 : decode cX9_goBy 1 = .ok (.istore_n 2, 1) := by decide +kernel
theorem dX9_goBy_2 : decode cX9_goBy 2 = .ok (.iload_n 2, 1) := by decide +kernel
theorem dX9_goBy_3 : decode cX9_goBy 3 = .ok (.iload_n 1, 1) := by decide +kernel
theorem dX9_goBy_4 : decode cX9_goBy 4 = .ok (.if_icmp .ge 28, 3) := by decide +kernel
theorem dX9_goBy_7 : decode cX9_goBy 7 = .ok (.aload_n 0, 1) := by decide +kernel
theorem dX9_goBy_8 : decode cX9_goBy 8 = .ok (.getfield 7, 3) := by decide +kernel
theorem dX9_goBy_11 : decode cX9_goBy 11 = .ok (.bipush 16, 2) := by decide +kernel
theorem dX9_goBy_13 : decode cX9_goBy 13 = .ok (.iaload, 1) := by decide +kernel
theorem dX9_goBy_14 : decode cX9_goBy 14 = .ok (.sipush 9999, 3) := by decide +kernel
theorem dX9_goBy_17 : decode cX9_goBy 17 = .ok (.if_icmp .ge 15, 3) := by decide +kernel
theorem dX9_goBy_20 : decode cX9_goBy 20 = .ok (.aload_n 0, 1) := by decide +kernel
theorem dX9_goBy_21 : decode cX9_goBy 21 = .ok (.iconst 0, 1) := by decide +kernel
theorem dX9_goBy_22 : decode cX9_goBy 22 = .ok (.iconst 0, 1) := by decide +kernel
theorem dX9_goBy_23 : decode cX9_goBy 23 = .ok (.invokevirtual 147, 3) := by decide +kernel
theorem dX9_goBy_26 : decode cX9_goBy 26 = .ok (.iinc 2 1, 3) := by decide +kernel
theorem dX9_goBy_29 : decode cX9_goBy 29 = .ok (.goto (-27), 3) := by decide +kernel
theorem dX9_goBy_32 : decode cX9_goBy 32 = .ok (.return_, 1) := by decide +kernel
theorem dX9_keepPast_0 : decode cX9_keepPast 0 = .ok (.aload_n 0, 1) := by decide +kernel
theorem dX9_keepPast_1 : decode cX9_keepPast 1 = .ok (.getfield 7, 3) := by decide +kernel
theorem dX9_keepPast_4 : decode cX9_keepPast 4 = .ok (.bipush 114, 2) := by decide +kernel
theorem dX9_keepPast_6 : decode cX9_keepPast 6 = .ok (.iaload, 1) := by decide +kernel
theorem dX9_keepPast_7 : decode cX9_keepPast 7 = .ok (.bipush 8, 2) := by decide +kernel
theorem dX9_keepPast_9 : decode cX9_keepPast 9 = .ok (.if_icmp .ne 47, 3) := by decide +kernel
theorem dX9_keepPast_12 : decode cX9_keepPast 12 = .ok (.iconst 0, 1) := by decide +kernel
theorem dX9_keepPast_13 : decode cX9_keepPast 13 = .ok (.istore_n 1, 1) := by decide +kernel
theorem dX9_keepPast_14 : decode cX9_keepPast 14 = .ok (.iload_n 1, 1) := by decide +kernel
theorem dX9_keepPast_15 : decode cX9_keepPast 15 = .ok (.bipush 119, 2) := by decide +kernel
theorem dX9_keepPast_17 : decode cX9_keepPast 17 = .ok (.if_icmp .ge 28, 3) := by decide +kernel
theorem dX9_keepPast_20 : decode cX9_keepPast 20 = .ok (.aload_n 0, 1) := by decide +kernel
theorem dX9_keepPast_21 : decode cX9_keepPast 21 = .ok (.getfield 7, 3) := by decide +kernel
theorem dX9_keepPast_24 : decode cX9_keepPast 24 = .ok (.bipush 115, 2) := by decide +kernel
theorem dX9_keepPast_26 : decode cX9_keepPast 26 = .ok (.iload_n 1, 1) := by decide +kernel
theorem dX9_keepPast_27 : decode cX9_keepPast 27 = .ok (.iadd, 1) := by decide +kernel
theorem dX9_keepPast_28 : decode cX9_keepPast 28 = .ok (.aload_n 0, 1) := by decide +kernel
theorem dX9_keepPast_29 : decode cX9_keepPast 29 = .ok (.getfield 7, 3) := by decide +kernel
theorem dX9_keepPast_32 : decode cX9_keepPast 32 = .ok (.sipush 132, 3) := by decide +kernel
theorem dX9_keepPast_35 : decode cX9_keepPast 35 = .ok (.iload_n 1, 1) := by decide +kernel
theorem dX9_keepPast_36 : decode cX9_keepPast 36 = .ok (.iadd, 1) := by decide +kernel
theorem dX9_keepPast_37 : decode cX9_keepPast 37 = .ok (.iaload, 1) := by decide +kernel
theorem dX9_keepPast_38 : decode cX9_keepPast 38 = .ok (.iastore, 1) := by decide +kernel
theorem dX9_keepPast_39 : decode cX9_keepPast 39 = .ok (.iinc 1 1, 3) := by decide +kernel
theorem dX9_keepPast_42 : decode cX9_keepPast 42 = .ok (.goto (-28), 3) := by decide +kernel
theorem dX9_keepPast_45 : decode cX9_keepPast 45 = .ok (.aload_n 0, 1) := by decide +kernel
theorem dX9_keepPast_46 : decode cX9_keepPast 46 = .ok (.getfield 7, 3) := by decide +kernel
theorem dX9_keepPast_49 : decode cX9_keepPast 49 = .ok (.bipush 114, 2) := by decide +kernel
theorem dX9_keepPast_51 : decode cX9_keepPast 51 = .ok (.dup2, 1) := by decide +kernel
theorem dX9_keepPast_52 : decode cX9_keepPast 52 = .ok (.iaload, 1) := by decide +kernel
theorem dX9_keepPast_53 : decode cX9_keepPast 53 = .ok (.iconst 1, 1) := by decide +kernel
theorem dX9_keepPast_54 : decode cX9_keepPast 54 = .ok (.isub, 1) := by decide +kernel
theorem dX9_keepPast_55 : decode cX9_keepPast 55 = .ok (.iastore, 1) := by decide +kernel
theorem dX9_keepPast_56 : decode cX9_keepPast 56 = .ok (.iconst 0, 1) := by decide +kernel
theorem dX9_keepPast_57 : decode cX9_keepPast 57 = .ok (.istore_n 1, 1) := by decide +kernel
theorem dX9_keepPast_58 : decode cX9_keepPast 58 = .ok (.iload_n 1, 1) := by decide +kernel
theorem dX9_keepPast_59 : decode cX9_keepPast 59 = .ok (.bipush 17, 2) := by decide +kernel
theorem dX9_keepPast_61 : decode cX9_keepPast 61 = .ok (.if_icmp .ge 35, 3) := by decide +kernel
theorem dX9_keepPast_64 : decode cX9_keepPast 64 = .ok (.aload_n 0, 1) := by decide +kernel
theorem dX9_keepPast_65 : decode cX9_keepPast 65 = .ok (.getfield 7, 3) := by decide +kernel
theorem dX9_keepPast_68 : decode cX9_keepPast 68 = .ok (.bipush 115, 2) := by decide +kernel
theorem dX9_keepPast_70 : decode cX9_keepPast 70 = .ok (.bipush 17, 2) := by decide +kernel
theorem dX9_keepPast_72 : decode cX9_keepPast 72 = .ok (.aload_n 0, 1) := by decide +kernel
theorem dX9_keepPast_73 : decode cX9_keepPast 73 = .ok (.getfield 7, 3) := by decide +kernel
theorem dX9_keepPast_76 : decode cX9_keepPast 76 = .ok (.bipush 114, 2) := by decide +kernel
theorem dX9_keepPast_78 : decode cX9_keepPast 78 = .ok (.iaload, 1) := by decide +kernel
theorem dX9_keepPast_79 : decode cX9_keepPast 79 = .ok (.imul, 1) := by decide +kernel
theorem dX9_keepPast_80 : decode cX9_keepPast 80 = .ok (.iadd, 1) := by decide +kernel
theorem dX9_keepPast_81 : decode cX9_keepPast 81 = .ok (.iload_n 1, 1) := by decide +kernel
theorem dX9_keepPast_82 : decode cX9_keepPast 82 = .ok (.iadd, 1) := by decide +kernel
theorem dX9_keepPast_83 : decode cX9_keepPast 83 = .ok (.aload_n 0, 1) := by decide +kernel
theorem dX9_keepPast_84 : decode cX9_keepPast 84 = .ok (.getfield 7, 3) := by decide +kernel
theorem dX9_keepPast_87 : decode cX9_keepPast 87 = .ok (.iload_n 1, 1) := by decide +kernel
theorem dX9_keepPast_88 : decode cX9_keepPast 88 = .ok (.iaload, 1) := by decide +kernel
theorem dX9_keepPast_89 : decode cX9_keepPast 89 = .ok (.iastore, 1) := by decide +kernel
theorem dX9_keepPast_90 : decode cX9_keepPast 90 = .ok (.iinc 1 1, 3) := by decide +kernel
theorem dX9_keepPast_93 : decode cX9_keepPast 93 = .ok (.goto (-35), 3) := by decide +kernel
theorem dX9_keepPast_96 : decode cX9_keepPast 96 = .ok (.aload_n 0, 1) := by decide +kernel
theorem dX9_keepPast_97 : decode cX9_keepPast 97 = .ok (.getfield 7, 3) := by decide +kernel
theorem dX9_keepPast_100 : decode cX9_keepPast 100 = .ok (.bipush 114, 2) := by decide +kernel
theorem dX9_keepPast_102 : decode cX9_keepPast 102 = .ok (.dup2, 1) := by decide +kernel
theorem dX9_keepPast_103 : decode cX9_keepPast 103 = .ok (.iaload, 1) := by decide +kernel
theorem dX9_keepPast_104 : decode cX9_keepPast 104 = .ok (.iconst 1, 1) := by decide +kernel
theorem dX9_keepPast_105 : decode cX9_keepPast 105 = .ok (.iadd, 1) := by decide +kernel
theorem dX9_keepPast_106 : decode cX9_keepPast 106 = .ok (.iastore, 1) := by decide +kernel
theorem dX9_keepPast_107 : decode cX9_keepPast 107 = .ok (.return_, 1) := by decide +kernel
set_option maxRecDepth 20000 in
theorem ggX9_isFamily_X9_in : GoodIn wsX9_isFamily wsX9_in := goodIn_r _ [5] (by decide +kernel) (by decide +kernel)
set_option maxRecDepth 20000 in
theorem gX9_isFamily_X9_in : GoodIn wsX9_isFamily (va_wsS RX9 52 yX9_in wsX9_in) := goodIn_app (goodIn_of _ (by decide +kernel)) ggX9_isFamily_X9_in
theorem dX9_isFamily_0 : decode cX9_isFamily 0 = .ok (.iload_n 1, 1) := by decide +kernel
theorem dX9_isFamily_1 : decode cX9_isFamily 1 = .ok (.iconst 0, 1) := by decide +kernel
theorem dX9_isFamily_2 : decode cX9_isFamily 2 = .ok (.aload_n 0, 1) := by decide +kernel
theorem dX9_isFamily_3 : decode cX9_isFamily 3 = .ok (.getfield 7, 3) := by decide +kernel
theorem dX9_isFamily_6 : decode cX9_isFamily 6 = .ok (.bipush 27, 2) := by decide +kernel
theorem dX9_isFamily_8 : decode cX9_isFamily 8 = .ok (.iaload, 1) := by decide +kernel
theorem dX9_isFamily_9 : decode cX9_isFamily 9 = .ok (.iconst 1, 1) := by decide +kernel
theorem dX9_isFamily_10 : decode cX9_isFamily 10 = .ok (.isub, 1) := by decide +kernel
theorem dX9_isFamily_11 : decode cX9_isFamily 11 = .ok (.invokestatic 52, 3) := by decide +kernel
theorem dX9_isFamily_14 : decode cX9_isFamily 14 = .ok (.ireturn, 1) := by decide +kernel
set_option maxRecDepth 20000 in
theorem ggX9_isFlitch_X9_in : GoodIn wsX9_isFlitch wsX9_in := goodIn_r _ [5] (by decide +kernel) (by decide +kernel)
set_option maxRecDepth 20000 in
theorem gX9_isFlitch_X9_in : GoodIn wsX9_isFlitch (va_wsS RX9 52 yX9_in wsX9_in) := goodIn_app (goodIn_of _ (by decide +kernel)) ggX9_isFlitch_X9_in
theorem dX9_isFlitch_0 : decode cX9_isFlitch 0 = .ok (.iload_n 1, 1) := by decide +kernel
theorem dX9_isFlitch_1 : decode cX9_isFlitch 1 = .ok (.iconst 0, 1) := by decide +kernel
theorem dX9_isFlitch_2 : decode cX9_isFlitch 2 = .ok (.aload_n 0, 1) := by decide +kernel
theorem dX9_isFlitch_3 : decode cX9_isFlitch 3 = .ok (.getfield 7, 3) := by decide +kernel
theorem dX9_isFlitch_6 : decode cX9_isFlitch 6 = .ok (.bipush 17, 2) := by decide +kernel
theorem dX9_isFlitch_8 : decode cX9_isFlitch 8 = .ok (.iaload, 1) := by decide +kernel
theorem dX9_isFlitch_9 : decode cX9_isFlitch 9 = .ok (.iconst 1, 1) := by decide +kernel
theorem dX9_isFlitch_10 : decode cX9_isFlitch 10 = .ok (.isub, 1) := by decide +kernel
theorem dX9_isFlitch_11 : decode cX9_isFlitch 11 = .ok (.invokestatic 52, 3) := by decide +kernel
theorem dX9_isFlitch_14 : decode cX9_isFlitch 14 = .ok (.ireturn, 1) := by decide +kernel
set_option maxRecDepth 20000 in
theorem ggX9_days_X9_in : GoodIn wsX9_days wsX9_in := goodIn_r _ [5] (by decide +kernel) (by decide +kernel)
set_option maxRecDepth 20000 in
theorem gX9_days_X9_in : GoodIn wsX9_days (va_wsS RX9 52 yX9_in wsX9_in) := goodIn_app (goodIn_of _ (by decide +kernel)) ggX9_days_X9_in
set_option maxRecDepth 20000 in
theorem ggX9_days_X9_refuse : GoodIn wsX9_days wsX9_refuse := goodIn_r _ [9, 10, 49, 50, 51, 52, 53, 54, 55, 56, 57, 58, 59, 60, 61, 62, 63, 64, 65, 66] (by decide +kernel) (by decide +kernel)
set_option maxRecDepth 20000 in
theorem gX9_days_X9_refuse : GoodIn wsX9_days (wsV RX9 45 RX9 yX9_refuse wsX9_refuse) := goodIn_app (goodIn_of _ (by decide +kernel)) ggX9_days_X9_refuse
set_option maxRecDepth 20000 in
theorem ggX9_days_X9_keepPast : GoodIn wsX9_days wsX9_keepPast := goodIn_r _ [14, 1, 49, 50, 51, 52, 53, 54, 55, 56, 57, 58, 59, 60, 61, 62, 63, 64, 65, 66] (by decide +kernel) (by decide +kernel)
set_option maxRecDepth 20000 in
theorem gX9_days_X9_keepPast : GoodIn wsX9_days (wsV RX9 151 RX9 yX9_keepPast wsX9_keepPast) := goodIn_app (goodIn_of _ (by decide +kernel)) ggX9_days_X9_keepPast
set_option maxRecDepth 20000 in
theorem ggX9_days_X9_goBy : GoodIn wsX9_days wsX9_goBy := goodIn_r _ [18, 1, 19, 20, 21, 4, 22, 23, 24, 25, 26, 27, 28, 29, 30, 31, 32, 33, 34, 35, 36, 37, 38, 39, 40, 41, 42, 43, 44, 45, 49, 50, 51, 52, 53, 54, 55, 56, 57, 58, 59, 60, 61, 62, 63, 64, 65, 66] (by decide +kernel) (by decide +kernel)
set_option maxRecDepth 20000 in
theorem gX9_days_X9_goBy : GoodIn wsX9_days (wsV RX9 108 RX9 yX9_goBy wsX9_goBy) := goodIn_app (goodIn_of _ (by decide +kernel)) ggX9_days_X9_goBy
set_option maxRecDepth 20000 in
theorem ggX9_days_X9_bits : GoodIn wsX9_days wsX9_bits := goodIn_r _ [48] (by decide +kernel) (by decide +kernel)
set_option maxRecDepth 20000 in
theorem gX9_days_X9_bits : GoodIn wsX9_days (va_wsS RX9 154 yX9_bits wsX9_bits) := goodIn_app (goodIn_of _ (by decide +kernel)) ggX9_days_X9_bits
theorem dX9_days_0 : decode cX9_days 0 = .ok (.iload_n 1, 1) := by decide +kernel
theorem dX9_days_1 : decode cX9_days 1 = .ok (.iconst 1, 1) := by decide +kernel
theorem dX9_days_2 : decode cX9_days 2 = .ok (.bipush 60, 2) := by decide +kernel
theorem dX9_days_4 : decode cX9_days 4 = .ok (.invokestatic 52, 3) := by decide +kernel
theorem dX9_days_7 : decode cX9_days 7 = .ok (.ifCond .ne 10, 3) := by decide +kernel
theorem dX9_days_10 : decode cX9_days 10 = .ok (.aload_n 0, 1) := by decide +kernel
theorem dX9_days_11 : decode cX9_days 11 = .ok (.bipush (-2), 2) := by decide +kernel
theorem dX9_days_13 : decode cX9_days 13 = .ok (.invokevirtual 45, 3) := by decide +kernel
theorem dX9_days_16 : decode cX9_days 16 = .ok (.ireturn, 1) := by decide +kernel
theorem dX9_days_17 : decode cX9_days 17 = .ok (.aload_n 0, 1) := by decide +kernel
theorem dX9_days_18 : decode cX9_days 18 = .ok (.invokevirtual 151, 3) := by decide +kernel
theorem dX9_days_21 : decode cX9_days 21 = .ok (.aload_n 0, 1) := by decide +kernel
theorem dX9_days_22 : decode cX9_days 22 = .ok (.iload_n 1, 1) := by decide +kernel
theorem dX9_days_23 : decode cX9_days 23 = .ok (.invokevirtual 108, 3) := by decide +kernel
theorem dX9_days_26 : decode cX9_days 26 = .ok (.aload_n 0, 1) := by decide +kernel
theorem dX9_days_27 : decode cX9_days 27 = .ok (.getfield 7, 3) := by decide +kernel
theorem dX9_days_30 : decode cX9_days 30 = .ok (.bipush 7, 2) := by decide +kernel
theorem dX9_days_32 : decode cX9_days 32 = .ok (.iaload, 1) := by decide +kernel
theorem dX9_days_33 : decode cX9_days 33 = .ok (.invokestatic 154, 3) := by decide +kernel
theorem dX9_days_36 : decode cX9_days 36 = .ok (.ireturn, 1) := by decide +kernel
set_option maxRecDepth 20000 in
theorem ggX9_goes_X9_isFamily : GoodIn wsX9_goes wsX9_isFamily := goodIn_r _ [6, 1, 7, 8, 5, 9, 19, 20, 21, 22, 23, 24, 25, 26, 27, 28, 29, 30, 31, 32, 33, 34, 35, 36] (by decide +kernel) (by decide +kernel)
set_option maxRecDepth 20000 in
theorem gX9_goes_X9_isFamily : GoodIn wsX9_goes (wsV RX9 157 RX9 yX9_isFamily wsX9_isFamily) := goodIn_app (goodIn_of _ (by decide +kernel)) ggX9_goes_X9_isFamily
set_option maxRecDepth 20000 in
theorem ggX9_goes_X9_in : GoodIn wsX9_goes wsX9_in := goodIn_r _ [9] (by decide +kernel) (by decide +kernel)
set_option maxRecDepth 20000 in
theorem gX9_goes_X9_in : GoodIn wsX9_goes (va_wsS RX9 52 yX9_in wsX9_in) := goodIn_app (goodIn_of _ (by decide +kernel)) ggX9_goes_X9_in
set_option maxRecDepth 20000 in
theorem ggX9_goes_X9_refuse : GoodIn wsX9_goes wsX9_refuse := goodIn_r _ [13, 14, 19, 20, 21, 22, 23, 24, 25, 26, 27, 28, 29, 30, 31, 32, 33, 34, 35, 36] (by decide +kernel) (by decide +kernel)
set_option maxRecDepth 20000 in
theorem gX9_goes_X9_refuse : GoodIn wsX9_goes (wsV RX9 45 RX9 yX9_refuse wsX9_refuse) := goodIn_app (goodIn_of _ (by decide +kernel)) ggX9_goes_X9_refuse
set_option maxRecDepth 20000 in
theorem ggX9_goes_X9_keepPast : GoodIn wsX9_goes wsX9_keepPast := goodIn_r _ [18, 1, 19, 20, 21, 22, 23, 24, 25, 26, 27, 28, 29, 30, 31, 32, 33, 34, 35, 36] (by decide +kernel) (by decide +kernel)
set_option maxRecDepth 20000 in
theorem gX9_goes_X9_keepPast : GoodIn wsX9_goes (wsV RX9 151 RX9 yX9_keepPast wsX9_keepPast) := goodIn_app (goodIn_of _ (by decide +kernel)) ggX9_goes_X9_keepPast
theorem dX9_goes_0 : decode cX9_goes 0 = .ok (.aload_n 0, 1) := by decide +kernel
theorem dX9_goes_1 : decode cX9_goes 1 = .ok (.iload_n 1, 1) := by decide +kernel
theorem dX9_goes_2 : decode cX9_goes 2 = .ok (.invokevirtual 157, 3) := by decide +kernel
theorem dX9_goes_5 : decode cX9_goes 5 = .ok (.ifCond .eq 13, 3) := by decide +kernel
theorem dX9_goes_8 : decode cX9_goes 8 = .ok (.iload_n 2, 1) := by decide +kernel
theorem dX9_goes_9 : decode cX9_goes 9 = .ok (.iconst 0, 1) := by decide +kernel
theorem dX9_goes_10 : decode cX9_goes 10 = .ok (.bipush 24, 2) := by decide +kernel
theorem dX9_goes_12 : decode cX9_goes 12 = .ok (.invokestatic 52, 3) := by decide +kernel
theorem dX9_goes_15 : decode cX9_goes 15 = .ok (.ifCond .ne 10, 3) := by decide +kernel
theorem dX9_goes_18 : decode cX9_goes 18 = .ok (.aload_n 0, 1) := by decide +kernel
theorem dX9_goes_19 : decode cX9_goes 19 = .ok (.bipush (-2), 2) := by decide +kernel
theorem dX9_goes_21 : decode cX9_goes 21 = .ok (.invokevirtual 45, 3) := by decide +kernel
theorem dX9_goes_24 : decode cX9_goes 24 = .ok (.ireturn, 1) := by decide +kernel
theorem dX9_goes_25 : decode cX9_goes 25 = .ok (.aload_n 0, 1) := by decide +kernel
theorem dX9_goes_26 : decode cX9_goes 26 = .ok (.getfield 7, 3) := by decide +kernel
theorem dX9_goes_29 : decode cX9_goes 29 = .ok (.bipush 8, 2) := by decide +kernel
theorem dX9_goes_31 : decode cX9_goes 31 = .ok (.iload_n 1, 1) := by decide +kernel
theorem dX9_goes_32 : decode cX9_goes 32 = .ok (.iadd, 1) := by decide +kernel
theorem dX9_goes_33 : decode cX9_goes 33 = .ok (.iaload, 1) := by decide +kernel
theorem dX9_goes_34 : decode cX9_goes 34 = .ok (.istore_n 3, 1) := by decide +kernel
theorem dX9_goes_35 : decode cX9_goes 35 = .ok (.iload_n 3, 1) := by decide +kernel
theorem dX9_goes_36 : decode cX9_goes 36 = .ok (.iload_n 2, 1) := by decide +kernel
theorem dX9_goes_37 : decode cX9_goes 37 = .ok (.if_icmp .ne 10, 3) := by decide +kernel
theorem dX9_goes_40 : decode cX9_goes 40 = .ok (.aload_n 0, 1) := by decide +kernel
theorem dX9_goes_41 : decode cX9_goes 41 = .ok (.bipush (-3), 2) := by decide +kernel
theorem dX9_goes_43 : decode cX9_goes 43 = .ok (.invokevirtual 45, 3) := by decide +kernel
theorem dX9_goes_46 : decode cX9_goes 46 = .ok (.ireturn, 1) := by decide +kernel
theorem dX9_goes_47 : decode cX9_goes 47 = .ok (.aload_n 0, 1) := by decide +kernel
theorem dX9_goes_48 : decode cX9_goes 48 = .ok (.invokevirtual 151, 3) := by decide +kernel
theorem dX9_goes_51 : decode cX9_goes 51 = .ok (.aload_n 0, 1) := by decide +kernel
theorem dX9_goes_52 : decode cX9_goes 52 = .ok (.getfield 7, 3) := by decide +kernel
theorem dX9_goes_55 : decode cX9_goes 55 = .ok (.bipush 8, 2) := by decide +kernel
theorem dX9_goes_57 : decode cX9_goes 57 = .ok (.iload_n 1, 1) := by decide +kernel
theorem dX9_goes_58 : decode cX9_goes 58 = .ok (.iadd, 1) := by decide +kernel
theorem dX9_goes_59 : decode cX9_goes 59 = .ok (.iload_n 2, 1) := by decide +kernel
theorem dX9_goes_60 : decode cX9_goes 60 = .ok (.iastore, 1) := by decide +kernel
theorem dX9_goes_61 : decode cX9_goes 61 = .ok (.iload_n 3, 1) := by decide +kernel
theorem dX9_goes_62 : decode cX9_goes 62 = .ok (.ireturn, 1) := by decide +kernel
set_option maxRecDepth 20000 in
theorem ggX9_turnip_X9_isFamily : GoodIn wsX9_turnip wsX9_isFamily := goodIn_r _ [6, 1, 7, 8, 5, 9, 22, 23, 24, 25, 26, 27, 28, 29, 30, 31, 32, 33, 34, 35, 36, 37, 38, 39] (by decide +kernel) (by decide +kernel)
set_option maxRecDepth 20000 in
theorem gX9_turnip_X9_isFamily : GoodIn wsX9_turnip (wsV RX9 157 RX9 yX9_isFamily wsX9_isFamily) := goodIn_app (goodIn_of _ (by decide +kernel)) ggX9_turnip_X9_isFamily
set_option maxRecDepth 20000 in
theorem ggX9_turnip_X9_refuse : GoodIn wsX9_turnip wsX9_refuse := goodIn_r _ [13, 14, 22, 23, 24, 25, 26, 27, 28, 29, 30, 31, 32, 33, 34, 35, 36, 37, 38, 39] (by decide +kernel) (by decide +kernel)
set_option maxRecDepth 20000 in
theorem gX9_turnip_X9_refuse : GoodIn wsX9_turnip (wsV RX9 45 RX9 yX9_refuse wsX9_refuse) := goodIn_app (goodIn_of _ (by decide +kernel)) ggX9_turnip_X9_refuse
set_option maxRecDepth 20000 in
theorem ggX9_turnip_X9_has : GoodIn wsX9_turnip wsX9_has := goodIn_r _ [17] (by decide +kernel) (by decide +kernel)
set_option maxRecDepth 20000 in
theorem gX9_turnip_X9_has : GoodIn wsX9_turnip (va_wsS RX9 126 yX9_has wsX9_has) := goodIn_app (goodIn_of _ (by decide +kernel)) ggX9_turnip_X9_has
set_option maxRecDepth 20000 in
theorem ggX9_turnip_X9_keepPast : GoodIn wsX9_turnip wsX9_keepPast := goodIn_r _ [21, 1, 22, 23, 24, 25, 26, 27, 28, 29, 30, 31, 32, 33, 34, 35, 36, 37, 38, 39] (by decide +kernel) (by decide +kernel)
set_option maxRecDepth 20000 in
theorem gX9_turnip_X9_keepPast : GoodIn wsX9_turnip (wsV RX9 151 RX9 yX9_keepPast wsX9_keepPast) := goodIn_app (goodIn_of _ (by decide +kernel)) ggX9_turnip_X9_keepPast
theorem dX9_turnip_0 : decode cX9_turnip 0 = .ok (.aload_n 0, 1) := by decide +kernel
theorem dX9_turnip_1 : decode cX9_turnip 1 = .ok (.iload_n 1, 1) := by decide +kernel
theorem dX9_turnip_2 : decode cX9_turnip 2 = .ok (.invokevirtual 157, 3) := by decide +kernel
theorem dX9_turnip_5 : decode cX9_turnip 5 = .ok (.ifCond .ne 10, 3) := by decide +kernel
theorem dX9_turnip_8 : decode cX9_turnip 8 = .ok (.aload_n 0, 1) := by decide +kernel
theorem dX9_turnip_9 : decode cX9_turnip 9 = .ok (.bipush (-2), 2) := by decide +kernel
theorem dX9_turnip_11 : decode cX9_turnip 11 = .ok (.invokevirtual 45, 3) := by decide +kernel
theorem dX9_turnip_14 : decode cX9_turnip 14 = .ok (.ireturn, 1) := by decide +kernel
theorem dX9_turnip_15 : decode cX9_turnip 15 = .ok (.aload_n 0, 1) := by decide +kernel
theorem dX9_turnip_16 : decode cX9_turnip 16 = .ok (.getfield 7, 3) := by decide +kernel
theorem dX9_turnip_19 : decode cX9_turnip 19 = .ok (.bipush 7, 2) := by decide +kernel
theorem dX9_turnip_21 : decode cX9_turnip 21 = .ok (.iaload, 1) := by decide +kernel
theorem dX9_turnip_22 : decode cX9_turnip 22 = .ok (.iload_n 1, 1) := by decide +kernel
theorem dX9_turnip_23 : decode cX9_turnip 23 = .ok (.invokestatic 126, 3) := by decide +kernel
theorem dX9_turnip_26 : decode cX9_turnip 26 = .ok (.ifCond .eq 10, 3) := by decide +kernel
theorem dX9_turnip_29 : decode cX9_turnip 29 = .ok (.aload_n 0, 1) := by decide +kernel
theorem dX9_turnip_30 : decode cX9_turnip 30 = .ok (.bipush (-3), 2) := by decide +kernel
theorem dX9_turnip_32 : decode cX9_turnip 32 = .ok (.invokevirtual 45, 3) := by decide +kernel
theorem dX9_turnip_35 : decode cX9_turnip 35 = .ok (.ireturn, 1) := by decide +kernel
theorem dX9_turnip_36 : decode cX9_turnip 36 = .ok (.aload_n 0, 1) := by decide +kernel
theorem dX9_turnip_37 : decode cX9_turnip 37 = .ok (.invokevirtual 151, 3) := by decide +kernel
theorem dX9_turnip_40 : decode cX9_turnip 40 = .ok (.aload_n 0, 1) := by decide +kernel
theorem dX9_turnip_41 : decode cX9_turnip 41 = .ok (.getfield 7, 3) := by decide +kernel
theorem dX9_turnip_44 : decode cX9_turnip 44 = .ok (.iconst 0, 1) := by decide +kernel
theorem dX9_turnip_45 : decode cX9_turnip 45 = .ok (.iload_n 1, 1) := by decide +kernel
theorem dX9_turnip_46 : decode cX9_turnip 46 = .ok (.iadd, 1) := by decide +kernel
theorem dX9_turnip_47 : decode cX9_turnip 47 = .ok (.aload_n 0, 1) := by decide +kernel
theorem dX9_turnip_48 : decode cX9_turnip 48 = .ok (.getfield 7, 3) := by decide +kernel
theorem dX9_turnip_51 : decode cX9_turnip 51 = .ok (.iconst 0, 1) := by decide +kernel
theorem dX9_turnip_52 : decode cX9_turnip 52 = .ok (.iload_n 1, 1) := by decide +kernel
theorem dX9_turnip_53 : decode cX9_turnip 53 = .ok (.iadd, 1) := by decide +kernel
theorem dX9_turnip_54 : decode cX9_turnip 54 = .ok (.iaload, 1) := by decide +kernel
theorem dX9_turnip_55 : decode cX9_turnip 55 = .ok (.bipush 96, 2) := by decide +kernel
theorem dX9_turnip_57 : decode cX9_turnip 57 = .ok (.if_icmp .le 8, 3) := by decide +kernel
theorem dX9_turnip_60 : decode cX9_turnip 60 = .ok (.bipush 99, 2) := by decide +kernel
theorem dX9_turnip_62 : decode cX9_turnip 62 = .ok (.goto 13, 3) := by decide +kernel
theorem dX9_turnip_65 : decode cX9_turnip 65 = .ok (.aload_n 0, 1) := by decide +kernel
theorem dX9_turnip_66 : decode cX9_turnip 66 = .ok (.getfield 7, 3) := by decide +kernel
theorem dX9_turnip_69 : decode cX9_turnip 69 = .ok (.iconst 0, 1) := by decide +kernel
theorem dX9_turnip_70 : decode cX9_turnip 70 = .ok (.iload_n 1, 1) := by decide +kernel
theorem dX9_turnip_71 : decode cX9_turnip 71 = .ok (.iadd, 1) := by decide +kernel
theorem dX9_turnip_72 : decode cX9_turnip 72 = .ok (.iaload, 1) := by decide +kernel
theorem dX9_turnip_73 : decode cX9_turnip 73 = .ok (.iconst 3, 1) := by decide +kernel
theorem dX9_turnip_74 : decode cX9_turnip 74 = .ok (.iadd, 1) := by decide +kernel
theorem dX9_turnip_75 : decode cX9_turnip 75 = .ok (.iastore, 1) := by decide +kernel
theorem dX9_turnip_76 : decode cX9_turnip 76 = .ok (.aload_n 0, 1) := by decide +kernel
theorem dX9_turnip_77 : decode cX9_turnip 77 = .ok (.getfield 7, 3) := by decide +kernel
theorem dX9_turnip_80 : decode cX9_turnip 80 = .ok (.iconst 0, 1) := by decide +kernel
theorem dX9_turnip_81 : decode cX9_turnip 81 = .ok (.iload_n 1, 1) := by decide +kernel
theorem dX9_turnip_82 : decode cX9_turnip 82 = .ok (.iadd, 1) := by decide +kernel
theorem dX9_turnip_83 : decode cX9_turnip 83 = .ok (.iaload, 1) := by decide +kernel
theorem dX9_turnip_84 : decode cX9_turnip 84 = .ok (.ireturn, 1) := by decide +kernel
set_option maxRecDepth 20000 in
theorem ggX9_outs_X9_isFlitch : GoodIn wsX9_outs wsX9_isFlitch := goodIn_r _ [6, 1, 7, 8, 5, 9, 19, 20, 21, 22, 23, 24, 25, 26, 27, 28, 29, 30, 31, 32, 33, 34, 35, 36] (by decide +kernel) (by decide +kernel)
set_option maxRecDepth 20000 in
theorem gX9_outs_X9_isFlitch : GoodIn wsX9_outs (wsV RX9 160 RX9 yX9_isFlitch wsX9_isFlitch) := goodIn_app (goodIn_of _ (by decide +kernel)) ggX9_outs_X9_isFlitch
set_option maxRecDepth 20000 in
theorem ggX9_outs_X9_refuse : GoodIn wsX9_outs wsX9_refuse := goodIn_r _ [13, 14, 19, 20, 21, 22, 23, 24, 25, 26, 27, 28, 29, 30, 31, 32, 33, 34, 35, 36] (by decide +kernel) (by decide +kernel)
set_option maxRecDepth 20000 in
theorem gX9_outs_X9_refuse : GoodIn wsX9_outs (wsV RX9 45 RX9 yX9_refuse wsX9_refuse) := goodIn_app (goodIn_of _ (by decide +kernel)) ggX9_outs_X9_refuse
set_option maxRecDepth 20000 in
theorem ggX9_outs_X9_keepPast : GoodIn wsX9_outs wsX9_keepPast := goodIn_r _ [18, 1, 19, 20, 21, 22, 23, 24, 25, 26, 27, 28, 29, 30, 31, 32, 33, 34, 35, 36] (by decide +kernel) (by decide +kernel)
set_option maxRecDepth 20000 in
theorem gX9_outs_X9_keepPast : GoodIn wsX9_outs (wsV RX9 151 RX9 yX9_keepPast wsX9_keepPast) := goodIn_app (goodIn_of _ (by decide +kernel)) ggX9_outs_X9_keepPast
theorem dX9_outs_0 : decode cX9_outs 0 = .ok (.aload_n 0, 1) := by decide +kernel
theorem dX9_outs_1 : decode cX9_outs 1 = .ok (.iload_n 1, 1) := by decide +kernel
theorem dX9_outs_2 : decode cX9_outs 2 = .ok (.invokevirtual 160, 3) := by decide +kernel
theorem dX9_outs_5 : decode cX9_outs 5 = .ok (.ifCond .ne 10, 3) := by decide +kernel
theorem dX9_outs_8 : decode cX9_outs 8 = .ok (.aload_n 0, 1) := by decide +kernel
theorem dX9_outs_9 : decode cX9_outs 9 = .ok (.bipush (-2), 2) := by decide +kernel
theorem dX9_outs_11 : decode cX9_outs 11 = .ok (.invokevirtual 45, 3) := by decide +kernel
theorem dX9_outs_14 : decode cX9_outs 14 = .ok (.ireturn, 1) := by decide +kernel
theorem dX9_outs_15 : decode cX9_outs 15 = .ok (.aload_n 0, 1) := by decide +kernel
theorem dX9_outs_16 : decode cX9_outs 16 = .ok (.invokevirtual 151, 3) := by decide +kernel
theorem dX9_outs_19 : decode cX9_outs 19 = .ok (.aload_n 0, 1) := by decide +kernel
theorem dX9_outs_20 : decode cX9_outs 20 = .ok (.getfield 7, 3) := by decide +kernel
theorem dX9_outs_23 : decode cX9_outs 23 = .ok (.bipush 15, 2) := by decide +kernel
theorem dX9_outs_25 : decode cX9_outs 25 = .ok (.dup2, 1) := by decide +kernel
theorem dX9_outs_26 : decode cX9_outs 26 = .ok (.iaload, 1) := by decide +kernel
theorem dX9_outs_27 : decode cX9_outs 27 = .ok (.iconst 1, 1) := by decide +kernel
theorem dX9_outs_28 : decode cX9_outs 28 = .ok (.iload_n 1, 1) := by decide +kernel
theorem dX9_outs_29 : decode cX9_outs 29 = .ok (.ishl, 1) := by decide +kernel
theorem dX9_outs_30 : decode cX9_outs 30 = .ok (.ixor, 1) := by decide +kernel
theorem dX9_outs_31 : decode cX9_outs 31 = .ok (.iastore, 1) := by decide +kernel
theorem dX9_outs_32 : decode cX9_outs 32 = .ok (.aload_n 0, 1) := by decide +kernel
theorem dX9_outs_33 : decode cX9_outs 33 = .ok (.getfield 7, 3) := by decide +kernel
theorem dX9_outs_36 : decode cX9_outs 36 = .ok (.bipush 15, 2) := by decide +kernel
theorem dX9_outs_38 : decode cX9_outs 38 = .ok (.iaload, 1) := by decide +kernel
theorem dX9_outs_39 : decode cX9_outs 39 = .ok (.iload_n 1, 1) := by decide +kernel
theorem dX9_outs_40 : decode cX9_outs 40 = .ok (.ishr, 1) := by decide +kernel
theorem dX9_outs_41 : decode cX9_outs 41 = .ok (.iconst 1, 1) := by decide +kernel
theorem dX9_outs_42 : decode cX9_outs 42 = .ok (.iand, 1) := by decide +kernel
theorem dX9_outs_43 : decode cX9_outs 43 = .ok (.ireturn, 1) := by decide +kernel
set_option maxRecDepth 20000 in
theorem ggX9_undo_X9_refuse : GoodIn wsX9_undo wsX9_refuse := goodIn_r _ [6, 7, 8, 9, 10, 11, 12, 13, 14, 15, 16, 17, 18, 19, 20, 21, 22, 23, 24, 25] (by decide +kernel) (by decide +kernel)
set_option maxRecDepth 20000 in
theorem gX9_undo_X9_refuse : GoodIn wsX9_undo (wsV RX9 45 RX9 yX9_refuse wsX9_refuse) := goodIn_app (goodIn_of _ (by decide +kernel)) ggX9_undo_X9_refuse
theorem dX9_undo_0 : decode cX9_undo 0 = .ok (.aload_n 0, 1) := by decide +kernel
theorem dX9_undo_1 : decode cX9_undo 1 = .ok (.getfield 7, 3) := by decide +kernel
theorem dX9_undo_4 : decode cX9_undo 4 = .ok (.bipush 114, 2) := by decide +kernel
theorem dX9_undo_6 : decode cX9_undo 6 = .ok (.iaload, 1) := by decide +kernel
theorem dX9_undo_7 : decode cX9_undo 7 = .ok (.ifCond .ne 10, 3) := by decide +kernel
theorem dX9_undo_10 : decode cX9_undo 10 = .ok (.aload_n 0, 1) := by decide +kernel

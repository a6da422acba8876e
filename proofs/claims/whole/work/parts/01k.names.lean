theorem dX9_mostPairs_56 : decode cX9_mostPairs 56 = .ok (.istore 4, 2) := by decide +kernel
theorem dX9_mostPairs_58 : decode cX9_mostPairs 58 = .ok (.iload 4, 2) := by decide +kernel
theorem dX9_mostPairs_60 : decode cX9_mostPairs 60 = .ok (.ifCond .lt 28, 3) := by decide +kernel
theorem dX9_mostPairs_63 : decode cX9_mostPairs 63 = .ok (.aload_n 0, 1) := by decide +kernel
theorem dX9_mostPairs_64 : decode cX9_mostPairs 64 = .ok (.iload 4, 2) := by decide +kernel
theorem dX9_mostPairs_66 : decode cX9_mostPairs 66 = .ok (.invokevirtual 212, 3) := by decide +kernel
theorem dX9_mostPairs_69 : decode cX9_mostPairs 69 = .ok (.iload 4, 2) := by decide +kernel
theorem dX9_mostPairs_71 : decode cX9_mostPairs 71 = .ok (.if_icmp .ne 17, 3) := by decide +kernel
theorem dX9_mostPairs_74 : decode cX9_mostPairs 74 = .ok (.aload_n 0, 1) := by decide +kernel
theorem dX9_mostPairs_75 : decode cX9_mostPairs 75 = .ok (.getfield 36, 3) := by decide +kernel
theorem dX9_mostPairs_78 : decode cX9_mostPairs 78 = .ok (.iload 4, 2) := by decide +kernel
theorem dX9_mostPairs_80 : decode cX9_mostPairs 80 = .ok (.iconst (-1), 1) := by decide +kernel
theorem dX9_mostPairs_81 : decode cX9_mostPairs 81 = .ok (.iastore, 1) := by decide +kernel
theorem dX9_mostPairs_82 : decode cX9_mostPairs 82 = .ok (.iinc 4 (-1), 3) := by decide +kernel
theorem dX9_mostPairs_85 : decode cX9_mostPairs 85 = .ok (.goto (-27), 3) := by decide +kernel
theorem dX9_mostPairs_88 : decode cX9_mostPairs 88 = .ok (.iload 4, 2) := by decide +kernel
theorem dX9_mostPairs_90 : decode cX9_mostPairs 90 = .ok (.ifCond .lt 7, 3) := by decide +kernel
theorem dX9_mostPairs_93 : decode cX9_mostPairs 93 = .ok (.iconst 1, 1) := by decide +kernel
theorem dX9_mostPairs_94 : decode cX9_mostPairs 94 = .ok (.goto 4, 3) := by decide +kernel
theorem dX9_mostPairs_97 : decode cX9_mostPairs 97 = .ok (.iconst 0, 1) := by decide +kernel
theorem dX9_mostPairs_98 : decode cX9_mostPairs 98 = .ok (.istore_n 3, 1) := by decide +kernel
theorem dX9_mostPairs_99 : decode cX9_mostPairs 99 = .ok (.iload_n 3, 1) := by decide +kernel
theorem dX9_mostPairs_100 : decode cX9_mostPairs 100 = .ok (.ifCond .eq 16, 3) := by decide +kernel
theorem dX9_mostPairs_103 : decode cX9_mostPairs 103 = .ok (.aload_n 0, 1) := by decide +kernel
theorem dX9_mostPairs_104 : decode cX9_mostPairs 104 = .ok (.getfield 36, 3) := by decide +kernel
theorem dX9_mostPairs_107 : decode cX9_mostPairs 107 = .ok (.iload 4, 2) := by decide +kernel
theorem dX9_mostPairs_109 : decode cX9_mostPairs 109 = .ok (.aload_n 0, 1) := by decide +kernel
theorem dX9_mostPairs_110 : decode cX9_mostPairs 110 = .ok (.iload 4, 2) := by decide +kernel
theorem dX9_mostPairs_112 : decode cX9_mostPairs 112 = .ok (.invokevirtual 212, 3) := by decide +kernel
theorem dX9_mostPairs_115 : decode cX9_mostPairs 115 = .ok (.iastore, 1) := by decide +kernel
theorem dX9_mostPairs_116 : decode cX9_mostPairs 116 = .ok (.goto (-84), 3) := by decide +kernel
theorem dX9_mostPairs_119 : decode cX9_mostPairs 119 = .ok (.iload_n 2, 1) := by decide +kernel
theorem dX9_mostPairs_120 : decode cX9_mostPairs 120 = .ok (.ireturn, 1) := by decide +kernel
set_option maxRecDepth 20000 in
theorem ggX9_marry_X9_isFamily : GoodIn wsX9_marry wsX9_isFamily := goodIn_r _ [6, 7, 8, 9, 5, 10, 48, 49, 50, 51, 52, 53, 54, 55, 56, 57, 58, 59, 60, 61, 62, 63, 64, 65] (by decide +kernel) (by decide +kernel)
set_option maxRecDepth 20000 in
theorem gX9_marry_X9_isFamily : GoodIn wsX9_marry (wsV RX9 157 RX9 yX9_isFamily wsX9_isFamily) := goodIn_app (goodIn_of _ (by decide +kernel)) ggX9_marry_X9_isFamily
set_option maxRecDepth 20000 in
theorem ggX9_marry_X9_badAs : GoodIn wsX9_marry wsX9_badAs := goodIn_r _ [14, 15, 16, 17, 5, 18, 19, 48, 49, 50, 51, 52, 53, 54, 55, 56, 57, 58, 59, 60, 61, 62, 63, 64, 65] (by decide +kernel) (by decide +kernel)
set_option maxRecDepth 20000 in
theorem gX9_marry_X9_badAs : GoodIn wsX9_marry (wsV RX9 191 RX9 yX9_badAs wsX9_badAs) := goodIn_app (goodIn_of _ (by decide +kernel)) ggX9_marry_X9_badAs
set_option maxRecDepth 20000 in
theorem ggX9_marry_X9_mostPairs : GoodIn wsX9_marry wsX9_mostPairs := goodIn_r _ [23, 7, 24, 25, 26, 27, 5, 28, 29, 30, 31, 32, 1, 33, 34, 35, 36, 37, 38, 39, 40, 41, 42, 43, 44, 45, 46, 47, 48, 49, 50, 51, 52, 53, 54, 55, 56, 57, 58, 59, 60, 61, 62, 63, 64, 65] (by decide +kernel) (by decide +kernel)
set_option maxRecDepth 20000 in
theorem gX9_marry_X9_mostPairs : GoodIn wsX9_marry (wsV RX9 215 RX9 yX9_mostPairs wsX9_mostPairs) := goodIn_app (goodIn_of _ (by decide +kernel)) ggX9_marry_X9_mostPairs
theorem dX9_marry_0 : decode cX9_marry 0 = .ok (.iload_n 1, 1) := by decide +kernel
theorem dX9_marry_1 : decode cX9_marry 1 = .ok (.iconst (-1), 1) := by decide +kernel
theorem dX9_marry_2 : decode cX9_marry 2 = .ok (.if_icmp .eq 18, 3) := by decide +kernel
theorem dX9_marry_5 : decode cX9_marry 5 = .ok (.aload_n 0, 1) := by decide +kernel
theorem dX9_marry_6 : decode cX9_marry 6 = .ok (.iload_n 1, 1) := by decide +kernel
theorem dX9_marry_7 : decode cX9_marry 7 = .ok (.invokevirtual 157, 3) := by decide +kernel
theorem dX9_marry_10 : decode cX9_marry 10 = .ok (.ifCond .ne 10, 3) := by decide +kernel
theorem dX9_marry_13 : decode cX9_marry 13 = .ok (.aload_n 0, 1) := by decide +kernel
theorem dX9_marry_14 : decode cX9_marry 14 = .ok (.bipush (-10), 2) := by decide +kernel
theorem dX9_marry_16 : decode cX9_marry 16 = .ok (.invokevirtual 191, 3) := by decide +kernel
theorem dX9_marry_19 : decode cX9_marry 19 = .ok (.ireturn, 1) := by decide +kernel
theorem dX9_marry_20 : decode cX9_marry 20 = .ok (.aload_n 0, 1) := by decide +kernel
theorem dX9_marry_21 : decode cX9_marry 21 = .ok (.invokevirtual 215, 3) := by decide +kernel
theorem dX9_marry_24 : decode cX9_marry 24 = .ok (.istore_n 2, 1) := by decide +kernel
theorem dX9_marry_25 : decode cX9_marry 25 = .ok (.iload_n 1, 1) := by decide +kernel
theorem dX9_marry_26 : decode cX9_marry 26 = .ok (.iconst (-1), 1) := by decide +kernel
theorem dX9_marry_27 : decode cX9_marry 27 = .ok (.if_icmp .ne 7, 3) := by decide +kernel
theorem dX9_marry_30 : decode cX9_marry 30 = .ok (.iload_n 2, 1) := by decide +kernel
theorem dX9_marry_31 : decode cX9_marry 31 = .ok (.goto 9, 3) := by decide +kernel
theorem dX9_marry_34 : decode cX9_marry 34 = .ok (.aload_n 0, 1) := by decide +kernel
theorem dX9_marry_35 : decode cX9_marry 35 = .ok (.getfield 39, 3) := by decide +kernel
theorem dX9_marry_38 : decode cX9_marry 38 = .ok (.iload_n 1, 1) := by decide +kernel
theorem dX9_marry_39 : decode cX9_marry 39 = .ok (.iaload, 1) := by decide +kernel
theorem dX9_marry_40 : decode cX9_marry 40 = .ok (.ireturn, 1) := by decide +kernel
set_option maxRecDepth 20000 in
theorem ggX9_seen_X9_isFamily : GoodIn wsX9_seen wsX9_isFamily := goodIn_r _ [6, 1, 7, 8, 5, 9, 15, 16, 17, 18, 19, 20, 21, 22, 23, 24, 25, 26, 27, 28, 29, 30, 31, 32] (by decide +kernel) (by decide +kernel)
set_option maxRecDepth 20000 in
theorem gX9_seen_X9_isFamily : GoodIn wsX9_seen (wsV RX9 157 RX9 yX9_isFamily wsX9_isFamily) := goodIn_app (goodIn_of _ (by decide +kernel)) ggX9_seen_X9_isFamily
set_option maxRecDepth 20000 in
theorem ggX9_seen_X9_in : GoodIn wsX9_seen wsX9_in := goodIn_r _ [9] (by decide +kernel) (by decide +kernel)
set_option maxRecDepth 20000 in
theorem gX9_seen_X9_in : GoodIn wsX9_seen (va_wsS RX9 52 yX9_in wsX9_in) := goodIn_app (goodIn_of _ (by decide +kernel)) ggX9_seen_X9_in
set_option maxRecDepth 20000 in
theorem ggX9_seen_X9_refuse : GoodIn wsX9_seen wsX9_refuse := goodIn_r _ [13, 14, 15, 16, 17, 18, 19, 20, 21, 22, 23, 24, 25, 26, 27, 28, 29, 30, 31, 32] (by decide +kernel) (by decide +kernel)
set_option maxRecDepth 20000 in
theorem gX9_seen_X9_refuse : GoodIn wsX9_seen (wsV RX9 45 RX9 yX9_refuse wsX9_refuse) := goodIn_app (goodIn_of _ (by decide +kernel)) ggX9_seen_X9_refuse
theorem dX9_seen_0 : decode cX9_seen 0 = .ok (.aload_n 0, 1) := by decide +kernel
theorem dX9_seen_1 : decode cX9_seen 1 = .ok (.iload_n 1, 1) := by decide +kernel
theorem dX9_seen_2 : decode cX9_seen 2 = .ok (.invokevirtual 157, 3) := by decide +kernel
theorem dX9_seen_5 : decode cX9_seen 5 = .ok (.ifCond .eq 22, 3) := by decide +kernel
theorem dX9_seen_8 : decode cX9_seen 8 = .ok (.iload_n 2, 1) := by decide +kernel
theorem dX9_seen_9 : decode cX9_seen 9 = .ok (.iconst 0, 1) := by decide +kernel
theorem dX9_seen_10 : decode cX9_seen 10 = .ok (.bipush 60, 2) := by decide +kernel
theorem dX9_seen_12 : decode cX9_seen 12 = .ok (.invokestatic 52, 3) := by decide +kernel
theorem dX9_seen_15 : decode cX9_seen 15 = .ok (.ifCond .eq 12, 3) := by decide +kernel
theorem dX9_seen_18 : decode cX9_seen 18 = .ok (.iload_n 3, 1) := by decide +kernel
theorem dX9_seen_19 : decode cX9_seen 19 = .ok (.iconst 0, 1) := by decide +kernel
theorem dX9_seen_20 : decode cX9_seen 20 = .ok (.iconst 1, 1) := by decide +kernel
theorem dX9_seen_21 : decode cX9_seen 21 = .ok (.invokestatic 52, 3) := by decide +kernel
theorem dX9_seen_24 : decode cX9_seen 24 = .ok (.ifCond .ne 10, 3) := by decide +kernel
theorem dX9_seen_27 : decode cX9_seen 27 = .ok (.aload_n 0, 1) := by decide +kernel
theorem dX9_seen_28 : decode cX9_seen 28 = .ok (.bipush (-2), 2) := by decide +kernel
theorem dX9_seen_30 : decode cX9_seen 30 = .ok (.invokevirtual 45, 3) := by decide +kernel
theorem dX9_seen_33 : decode cX9_seen 33 = .ok (.ireturn, 1) := by decide +kernel
theorem dX9_seen_34 : decode cX9_seen 34 = .ok (.aload_n 0, 1) := by decide +kernel
theorem dX9_seen_35 : decode cX9_seen 35 = .ok (.getfield 7, 3) := by decide +kernel
theorem dX9_seen_38 : decode cX9_seen 38 = .ok (.bipush 42, 2) := by decide +kernel
theorem dX9_seen_40 : decode cX9_seen 40 = .ok (.iaload, 1) := by decide +kernel
theorem dX9_seen_41 : decode cX9_seen 41 = .ok (.iconst 5, 1) := by decide +kernel
theorem dX9_seen_42 : decode cX9_seen 42 = .ok (.if_icmp .ne 10, 3) := by decide +kernel
theorem dX9_seen_45 : decode cX9_seen 45 = .ok (.aload_n 0, 1) := by decide +kernel
theorem dX9_seen_46 : decode cX9_seen 46 = .ok (.bipush (-4), 2) := by decide +kernel
theorem dX9_seen_48 : decode cX9_seen 48 = .ok (.invokevirtual 45, 3) := by decide +kernel
theorem dX9_seen_51 : decode cX9_seen 51 = .ok (.ireturn, 1) := by decide +kernel
theorem dX9_seen_52 : decode cX9_seen 52 = .ok (.bipush 43, 2) := by decide +kernel
theorem dX9_seen_54 : decode cX9_seen 54 = .ok (.iconst 3, 1) := by decide +kernel
theorem dX9_seen_55 : decode cX9_seen 55 = .ok (.aload_n 0, 1) := by decide +kernel
theorem dX9_seen_56 : decode cX9_seen 56 = .ok (.getfield 7, 3) := by decide +kernel
theorem dX9_seen_59 : decode cX9_seen 59 = .ok (.bipush 42, 2) := by decide +kernel
theorem dX9_seen_61 : decode cX9_seen 61 = .ok (.iaload, 1) := by decide +kernel
theorem dX9_seen_62 : decode cX9_seen 62 = .ok (.imul, 1) := by decide +kernel
theorem dX9_seen_63 : decode cX9_seen 63 = .ok (.iadd, 1) := by decide +kernel
theorem dX9_seen_64 : decode cX9_seen 64 = .ok (.istore 4, 2) := by decide +kernel
theorem dX9_seen_66 : decode cX9_seen 66 = .ok (.aload_n 0, 1) := by decide +kernel
theorem dX9_seen_67 : decode cX9_seen 67 = .ok (.getfield 7, 3) := by decide +kernel
theorem dX9_seen_70 : decode cX9_seen 70 = .ok (.iload 4, 2) := by decide +kernel
theorem dX9_seen_72 : decode cX9_seen 72 = .ok (.iload_n 1, 1) := by decide +kernel
theorem dX9_seen_73 : decode cX9_seen 73 = .ok (.iastore, 1) := by decide +kernel
theorem dX9_seen_74 : decode cX9_seen 74 = .ok (.aload_n 0, 1) := by decide +kernel
theorem dX9_seen_75 : decode cX9_seen 75 = .ok (.getfield 7, 3) := by decide +kernel
theorem dX9_seen_78 : decode cX9_seen 78 = .ok (.iload 4, 2) := by decide +kernel
theorem dX9_seen_80 : decode cX9_seen 80 = .ok (.iconst 1, 1) := by decide +kernel
theorem dX9_seen_81 : decode cX9_seen 81 = .ok (.iadd, 1) := by decide +kernel
theorem dX9_seen_82 : decode cX9_seen 82 = .ok (.iload_n 2, 1) := by decide +kernel
theorem dX9_seen_83 : decode cX9_seen 83 = .ok (.iastore, 1) := by decide +kernel
theorem dX9_seen_84 : decode cX9_seen 84 = .ok (.aload_n 0, 1) := by decide +kernel
theorem dX9_seen_85 : decode cX9_seen 85 = .ok (.getfield 7, 3) := by decide +kernel
theorem dX9_seen_88 : decode cX9_seen 88 = .ok (.iload 4, 2) := by decide +kernel
theorem dX9_seen_90 : decode cX9_seen 90 = .ok (.iconst 2, 1) := by decide +kernel
theorem dX9_seen_91 : decode cX9_seen 91 = .ok (.iadd, 1) := by decide +kernel
theorem dX9_seen_92 : decode cX9_seen 92 = .ok (.iload_n 3, 1) := by decide +kernel
theorem dX9_seen_93 : decode cX9_seen 93 = .ok (.iastore, 1) := by decide +kernel
theorem dX9_seen_94 : decode cX9_seen 94 = .ok (.aload_n 0, 1) := by decide +kernel
theorem dX9_seen_95 : decode cX9_seen 95 = .ok (.getfield 7, 3) := by decide +kernel
theorem dX9_seen_98 : decode cX9_seen 98 = .ok (.bipush 42, 2) := by decide +kernel
theorem dX9_seen_100 : decode cX9_seen 100 = .ok (.dup2, 1) := by decide +kernel
theorem dX9_seen_101 : decode cX9_seen 101 = .ok (.iaload, 1) := by decide +kernel
theorem dX9_seen_102 : decode cX9_seen 102 = .ok (.iconst 1, 1) := by decide +kernel
theorem dX9_seen_103 : decode cX9_seen 103 = .ok (.iadd, 1) := by decide +kernel
theorem dX9_seen_104 : decode cX9_seen 104 = .ok (.iastore, 1) := by decide +kernel
theorem dX9_seen_105 : decode cX9_seen 105 = .ok (.aload_n 0, 1) := by decide +kernel
theorem dX9_seen_106 : decode cX9_seen 106 = .ok (.getfield 7, 3) := by decide +kernel
theorem dX9_seen_109 : decode cX9_seen 109 = .ok (.bipush 42, 2) := by decide +kernel
theorem dX9_seen_111 : decode cX9_seen 111 = .ok (.iaload, 1) := by decide +kernel
theorem dX9_seen_112 : decode cX9_seen 112 = .ok (.ireturn, 1) := by decide +kernel
set_option maxRecDepth 20000 in
theorem ggX9_isWill_X9_layTried : GoodIn wsX9_isWill wsX9_layTried := goodIn_r _ [6, 1, 43, 44, 45, 46, 47, 48, 49, 50, 51, 52, 53, 54, 55, 56, 57, 58, 59, 60] (by decide +kernel) (by decide +kernel)
set_option maxRecDepth 20000 in
theorem gX9_isWill_X9_layTried : GoodIn wsX9_isWill (wsV RX9 172 RX9 yX9_layTried wsX9_layTried) := goodIn_app (goodIn_of _ (by decide +kernel)) ggX9_isWill_X9_layTried
set_option maxRecDepth 20000 in
theorem ggX9_isWill_X9_whenTried : GoodIn wsX9_isWill wsX9_whenTried := goodIn_r _ [10, 1, 11, 12, 13, 5, 14, 15, 16, 17, 18, 19, 20, 21, 22, 23, 24, 25, 26, 27, 28, 29, 30, 31, 32, 33, 34, 35, 36, 37, 38, 39, 40, 41, 42, 43, 44, 45, 46, 47, 48, 49, 50, 51, 52, 53, 54, 55, 56, 57, 58, 59, 60] (by decide +kernel) (by decide +kernel)
set_option maxRecDepth 20000 in
theorem gX9_isWill_X9_whenTried : GoodIn wsX9_isWill (wsV RX9 179 RX9 yX9_whenTried wsX9_whenTried) := goodIn_app (goodIn_of _ (by decide +kernel)) ggX9_isWill_X9_whenTried
theorem dX9_isWill_0 : decode cX9_isWill 0 = .ok (.aload_n 0, 1) := by decide +kernel
theorem dX9_isWill_1 : decode cX9_isWill 1 = .ok (.invokevirtual 172, 3) := by decide +kernel
theorem dX9_isWill_4 : decode cX9_isWill 4 = .ok (.aload_n 0, 1) := by decide +kernel
theorem dX9_isWill_5 : decode cX9_isWill 5 = .ok (.getfield 7, 3) := by decide +kernel
theorem dX9_isWill_8 : decode cX9_isWill 8 = .ok (.sipush 753, 3) := by decide +kernel
theorem dX9_isWill_11 : decode cX9_isWill 11 = .ok (.iload_n 1, 1) := by decide +kernel
theorem dX9_isWill_12 : decode cX9_isWill 12 = .ok (.iadd, 1) := by decide +kernel
theorem dX9_isWill_13 : decode cX9_isWill 13 = .ok (.iload_n 2, 1) := by decide +kernel
theorem dX9_isWill_14 : decode cX9_isWill 14 = .ok (.iastore, 1) := by decide +kernel
theorem dX9_isWill_15 : decode cX9_isWill 15 = .ok (.aload_n 0, 1) := by decide +kernel
theorem dX9_isWill_16 : decode cX9_isWill 16 = .ok (.getfield 7, 3) := by decide +kernel
theorem dX9_isWill_19 : decode cX9_isWill 19 = .ok (.sipush 760, 3) := by decide +kernel
theorem dX9_isWill_22 : decode cX9_isWill 22 = .ok (.dup2, 1) := by decide +kernel
theorem dX9_isWill_23 : decode cX9_isWill 23 = .ok (.iaload, 1) := by decide +kernel
theorem dX9_isWill_24 : decode cX9_isWill 24 = .ok (.iconst 1, 1) := by decide +kernel
theorem dX9_isWill_25 : decode cX9_isWill 25 = .ok (.iload_n 1, 1) := by decide +kernel
theorem dX9_isWill_26 : decode cX9_isWill 26 = .ok (.ishl, 1) := by decide +kernel
theorem dX9_isWill_27 : decode cX9_isWill 27 = .ok (.iconst (-1), 1) := by decide +kernel
theorem dX9_isWill_28 : decode cX9_isWill 28 = .ok (.ixor, 1) := by decide +kernel
theorem dX9_isWill_29 : decode cX9_isWill 29 = .ok (.iand, 1) := by decide +kernel
theorem dX9_isWill_30 : decode cX9_isWill 30 = .ok (.iastore, 1) := by decide +kernel
theorem dX9_isWill_31 : decode cX9_isWill 31 = .ok (.aload_n 0, 1) := by decide +kernel
theorem dX9_isWill_32 : decode cX9_isWill 32 = .ok (.iload_n 1, 1) := by decide +kernel
theorem dX9_isWill_33 : decode cX9_isWill 33 = .ok (.invokevirtual 179, 3) := by decide +kernel
theorem dX9_isWill_36 : decode cX9_isWill 36 = .ok (.istore_n 3, 1) := by decide +kernel
theorem dX9_isWill_37 : decode cX9_isWill 37 = .ok (.iconst 1, 1) := by decide +kernel
theorem dX9_isWill_38 : decode cX9_isWill 38 = .ok (.istore 4, 2) := by decide +kernel
theorem dX9_isWill_40 : decode cX9_isWill 40 = .ok (.bipush 43, 2) := by decide +kernel
theorem dX9_isWill_42 : decode cX9_isWill 42 = .ok (.istore 5, 2) := by decide +kernel
theorem dX9_isWill_44 : decode cX9_isWill 44 = .ok (.iload 5, 2) := by decide +kernel
theorem dX9_isWill_46 : decode cX9_isWill 46 = .ok (.bipush 43, 2) := by decide +kernel
theorem dX9_isWill_48 : decode cX9_isWill 48 = .ok (.iconst 3, 1) := by decide +kernel
theorem dX9_isWill_49 : decode cX9_isWill 49 = .ok (.aload_n 0, 1) := by decide +kernel
theorem dX9_isWill_50 : decode cX9_isWill 50 = .ok (.getfield 7, 3) := by decide +kernel
theorem dX9_isWill_53 : decode cX9_isWill 53 = .ok (.bipush 42, 2) := by decide +kernel
theorem dX9_isWill_55 : decode cX9_isWill 55 = .ok (.iaload, 1) := by decide +kernel
theorem dX9_isWill_56 : decode cX9_isWill 56 = .ok (.imul, 1) := by decide +kernel
theorem dX9_isWill_57 : decode cX9_isWill 57 = .ok (.iadd, 1) := by decide +kernel
theorem dX9_isWill_58 : decode cX9_isWill 58 = .ok (.if_icmp .ge 71, 3) := by decide +kernel
theorem dX9_isWill_61 : decode cX9_isWill 61 = .ok (.iload 4, 2) := by decide +kernel
theorem dX9_isWill_63 : decode cX9_isWill 63 = .ok (.ifCond .eq 57, 3) := by decide +kernel
theorem dX9_isWill_66 : decode cX9_isWill 66 = .ok (.aload_n 0, 1) := by decide +kernel
theorem dX9_isWill_67 : decode cX9_isWill 67 = .ok (.getfield 7, 3) := by decide +kernel
theorem dX9_isWill_70 : decode cX9_isWill 70 = .ok (.iload 5, 2) := by decide +kernel
theorem dX9_isWill_72 : decode cX9_isWill 72 = .ok (.iaload, 1) := by decide +kernel
theorem dX9_isWill_73 : decode cX9_isWill 73 = .ok (.iload_n 1, 1) := by decide +kernel
theorem dX9_isWill_74 : decode cX9_isWill 74 = .ok (.if_icmp .ne 42, 3) := by decide +kernel
theorem dX9_isWill_77 : decode cX9_isWill 77 = .ok (.aload_n 0, 1) := by decide +kernel
theorem dX9_isWill_78 : decode cX9_isWill 78 = .ok (.getfield 7, 3) := by decide +kernel
theorem dX9_isWill_81 : decode cX9_isWill 81 = .ok (.iload 5, 2) := by decide +kernel
theorem dX9_isWill_83 : decode cX9_isWill 83 = .ok (.iconst 1, 1) := by decide +kernel
theorem dX9_isWill_84 : decode cX9_isWill 84 = .ok (.iadd, 1) := by decide +kernel
theorem dX9_isWill_85 : decode cX9_isWill 85 = .ok (.iaload, 1) := by decide +kernel
theorem dX9_isWill_86 : decode cX9_isWill 86 = .ok (.iload_n 3, 1) := by decide +kernel
theorem dX9_isWill_87 : decode cX9_isWill 87 = .ok (.if_icmp .lt 7, 3) := by decide +kernel
theorem dX9_isWill_90 : decode cX9_isWill 90 = .ok (.iconst 1, 1) := by decide +kernel
theorem dX9_isWill_91 : decode cX9_isWill 91 = .ok (.goto 4, 3) := by decide +kernel
theorem dX9_isWill_94 : decode cX9_isWill 94 = .ok (.iconst 0, 1) := by decide +kernel
theorem dX9_isWill_95 : decode cX9_isWill 95 = .ok (.aload_n 0, 1) := by decide +kernel
theorem dX9_isWill_96 : decode cX9_isWill 96 = .ok (.getfield 7, 3) := by decide +kernel
theorem dX9_isWill_99 : decode cX9_isWill 99 = .ok (.iload 5, 2) := by decide +kernel
theorem dX9_isWill_101 : decode cX9_isWill 101 = .ok (.iconst 2, 1) := by decide +kernel
theorem dX9_isWill_102 : decode cX9_isWill 102 = .ok (.iadd, 1) := by decide +kernel
theorem dX9_isWill_103 : decode cX9_isWill 103 = .ok (.iaload, 1) := by decide +kernel
theorem dX9_isWill_104 : decode cX9_isWill 104 = .ok (.iconst 1, 1) := by decide +kernel
theorem dX9_isWill_105 : decode cX9_isWill 105 = .ok (.if_icmp .ne 7, 3) := by decide +kernel
theorem dX9_isWill_108 : decode cX9_isWill 108 = .ok (.iconst 1, 1) := by decide +kernel
theorem dX9_isWill_109 : decode cX9_isWill 109 = .ok (.goto 4, 3) := by decide +kernel
theorem dX9_isWill_112 : decode cX9_isWill 112 = .ok (.iconst 0, 1) := by decide +kernel
theorem dX9_isWill_113 : decode cX9_isWill 113 = .ok (.if_icmp .ne 7, 3) := by decide +kernel
theorem dX9_isWill_116 : decode cX9_isWill 116 = .ok (.iconst 1, 1) := by decide +kernel
theorem dX9_isWill_117 : decode cX9_isWill 117 = .ok (.goto 4, 3) := by decide +kernel
theorem dX9_isWill_120 : decode cX9_isWill 120 = .ok (.iconst 0, 1) := by decide +kernel
theorem dX9_isWill_121 : decode cX9_isWill 121 = .ok (.istore 4, 2) := by decide +kernel
theorem dX9_isWill_123 : decode cX9_isWill 123 = .ok (.iinc 5 3, 3) := by decide +kernel
theorem dX9_isWill_126 : decode cX9_isWill 126 = .ok (.goto (-82), 3) := by decide +kernel
theorem dX9_isWill_129 : decode cX9_isWill 129 = .ok (.iload 4, 2) := by decide +kernel
theorem dX9_isWill_131 : decode cX9_isWill 131 = .ok (.ireturn, 1) := by decide +kernel
set_option maxRecDepth 20000 in
theorem ggX9_wills_X9_isFamily : GoodIn wsX9_wills wsX9_isFamily := goodIn_r _ [5, 6, 7, 8, 4, 9, 59, 60, 61, 62, 63, 64, 65, 66, 67, 68, 69, 70, 71, 72, 73, 74, 75, 76] (by decide +kernel) (by decide +kernel)
set_option maxRecDepth 20000 in
theorem gX9_wills_X9_isFamily : GoodIn wsX9_wills (wsV RX9 157 RX9 yX9_isFamily wsX9_isFamily) := goodIn_app (goodIn_of _ (by decide +kernel)) ggX9_wills_X9_isFamily
set_option maxRecDepth 20000 in
theorem ggX9_wills_X9_in : GoodIn wsX9_wills wsX9_in := goodIn_r _ [9] (by decide +kernel) (by decide +kernel)
set_option maxRecDepth 20000 in
theorem gX9_wills_X9_in : GoodIn wsX9_wills (va_wsS RX9 52 yX9_in wsX9_in) := goodIn_app (goodIn_of _ (by decide +kernel)) ggX9_wills_X9_in
set_option maxRecDepth 20000 in
theorem ggX9_wills_X9_refuse : GoodIn wsX9_wills wsX9_refuse := goodIn_r _ [13, 14, 59, 60, 61, 62, 63, 64, 65, 66, 67, 68, 69, 70, 71, 72, 73, 74, 75, 76] (by decide +kernel) (by decide +kernel)
set_option maxRecDepth 20000 in
theorem gX9_wills_X9_refuse : GoodIn wsX9_wills (wsV RX9 45 RX9 yX9_refuse wsX9_refuse) := goodIn_app (goodIn_of _ (by decide +kernel)) ggX9_wills_X9_refuse
set_option maxRecDepth 20000 in
theorem ggX9_wills_X9_isWill : GoodIn wsX9_wills wsX9_isWill := goodIn_r _ [18, 6, 19, 20, 21, 4, 22, 23, 24, 25, 26, 27, 28, 29, 30, 31, 32, 33, 34, 35, 36, 37, 38, 39, 40, 41, 42, 43, 44, 45, 46, 47, 48, 49, 50, 51, 52, 53, 54, 55, 56, 57, 58, 59, 60, 61, 62, 63, 64, 65, 66, 67, 68, 69, 70, 71, 72, 73, 74, 75, 76] (by decide +kernel) (by decide +kernel)
set_option maxRecDepth 20000 in
theorem gX9_wills_X9_isWill : GoodIn wsX9_wills (wsV RX9 218 RX9 yX9_isWill wsX9_isWill) := goodIn_app (goodIn_of _ (by decide +kernel)) ggX9_wills_X9_isWill
theorem dX9_wills_0 : decode cX9_wills 0 = .ok (.aload_n 0, 1) := by decide +kernel
theorem dX9_wills_1 : decode cX9_wills 1 = .ok (.iload_n 1, 1) := by decide +kernel
theorem dX9_wills_2 : decode cX9_wills 2 = .ok (.invokevirtual 157, 3) := by decide +kernel
theorem dX9_wills_5 : decode cX9_wills 5 = .ok (.ifCond .eq 12, 3) := by decide +kernel
theorem dX9_wills_8 : decode cX9_wills 8 = .ok (.iload_n 2, 1) := by decide +kernel
theorem dX9_wills_9 : decode cX9_wills 9 = .ok (.iconst 0, 1) := by decide +kernel
theorem dX9_wills_10 : decode cX9_wills 10 = .ok (.iconst 2, 1) := by decide +kernel
theorem dX9_wills_11 : decode cX9_wills 11 = .ok (.invokestatic 52, 3) := by decide +kernel
theorem dX9_wills_14 : decode cX9_wills 14 = .ok (.ifCond .ne 10, 3) := by decide +kernel
theorem dX9_wills_17 : decode cX9_wills 17 = .ok (.aload_n 0, 1) := by decide +kernel
theorem dX9_wills_18 : decode cX9_wills 18 = .ok (.bipush (-2), 2) := by decide +kernel
theorem dX9_wills_20 : decode cX9_wills 20 = .ok (.invokevirtual 45, 3) := by decide +kernel
theorem dX9_wills_23 : decode cX9_wills 23 = .ok (.ireturn, 1) := by decide +kernel
theorem dX9_wills_24 : decode cX9_wills 24 = .ok (.iconst 0, 1) := by decide +kernel
theorem dX9_wills_25 : decode cX9_wills 25 = .ok (.istore_n 3, 1) := by decide +kernel
theorem dX9_wills_26 : decode cX9_wills 26 = .ok (.iconst (-1), 1) := by decide +kernel
theorem dX9_wills_27 : decode cX9_wills 27 = .ok (.istore 4, 2) := by decide +kernel
theorem dX9_wills_29 : decode cX9_wills 29 = .ok (.iconst (-1), 1) := by decide +kernel
theorem dX9_wills_30 : decode cX9_wills 30 = .ok (.istore 5, 2) := by decide +kernel
theorem dX9_wills_32 : decode cX9_wills 32 = .ok (.iconst 1, 1) := by decide +kernel
theorem dX9_wills_33 : decode cX9_wills 33 = .ok (.istore 6, 2) := by decide +kernel
theorem dX9_wills_35 : decode cX9_wills 35 = .ok (.iload 6, 2) := by decide +kernel
theorem dX9_wills_37 : decode cX9_wills 37 = .ok (.bipush 100, 2) := by decide +kernel
theorem dX9_wills_39 : decode cX9_wills 39 = .ok (.if_icmp .ge 65, 3) := by decide +kernel
theorem dX9_wills_42 : decode cX9_wills 42 = .ok (.aload_n 0, 1) := by decide +kernel
theorem dX9_wills_43 : decode cX9_wills 43 = .ok (.iload_n 1, 1) := by decide +kernel
theorem dX9_wills_44 : decode cX9_wills 44 = .ok (.iload 6, 2) := by decide +kernel
theorem dX9_wills_46 : decode cX9_wills 46 = .ok (.invokevirtual 218, 3) := by decide +kernel
theorem dX9_wills_49 : decode cX9_wills 49 = .ok (.istore 7, 2) := by decide +kernel
theorem dX9_wills_51 : decode cX9_wills 51 = .ok (.iload_n 3, 1) := by decide +kernel
theorem dX9_wills_52 : decode cX9_wills 52 = .ok (.iload 7, 2) := by decide +kernel
theorem dX9_wills_54 : decode cX9_wills 54 = .ok (.ifCond .eq 7, 3) := by decide +kernel
theorem dX9_wills_57 : decode cX9_wills 57 = .ok (.iconst 1, 1) := by decide +kernel
theorem dX9_wills_58 : decode cX9_wills 58 = .ok (.goto 4, 3) := by decide +kernel
theorem dX9_wills_61 : decode cX9_wills 61 = .ok (.iconst 0, 1) := by decide +kernel
theorem dX9_wills_62 : decode cX9_wills 62 = .ok (.iadd, 1) := by decide +kernel
theorem dX9_wills_63 : decode cX9_wills 63 = .ok (.istore_n 3, 1) := by decide +kernel
theorem dX9_wills_64 : decode cX9_wills 64 = .ok (.iload 7, 2) := by decide +kernel
theorem dX9_wills_66 : decode cX9_wills 66 = .ok (.ifCond .eq 14, 3) := by decide +kernel
theorem dX9_wills_69 : decode cX9_wills 69 = .ok (.iload 4, 2) := by decide +kernel
theorem dX9_wills_71 : decode cX9_wills 71 = .ok (.iconst (-1), 1) := by decide +kernel
theorem dX9_wills_72 : decode cX9_wills 72 = .ok (.if_icmp .ne 8, 3) := by decide +kernel
theorem dX9_wills_75 : decode cX9_wills 75 = .ok (.iload 6, 2) := by decide +kernel
theorem dX9_wills_77 : decode cX9_wills 77 = .ok (.goto 5, 3) := by decide +kernel
theorem dX9_wills_80 : decode cX9_wills 80 = .ok (.iload 4, 2) := by decide +kernel
theorem dX9_wills_82 : decode cX9_wills 82 = .ok (.istore 4, 2) := by decide +kernel
theorem dX9_wills_84 : decode cX9_wills 84 = .ok (.iload 7, 2) := by decide +kernel
theorem dX9_wills_86 : decode cX9_wills 86 = .ok (.ifCond .eq 8, 3) := by decide +kernel
theorem dX9_wills_89 : decode cX9_wills 89 = .ok (.iload 6, 2) := by decide +kernel
theorem dX9_wills_91 : decode cX9_wills 91 = .ok (.goto 5, 3) := by decide +kernel
theorem dX9_wills_94 : decode cX9_wills 94 = .ok (.iload 5, 2) := by decide +kernel
theorem dX9_wills_96 : decode cX9_wills 96 = .ok (.istore 5, 2) := by decide +kernel
theorem dX9_wills_98 : decode cX9_wills 98 = .ok (.iinc 6 1, 3) := by decide +kernel
theorem dX9_wills_101 : decode cX9_wills 101 = .ok (.goto (-66), 3) := by decide +kernel
theorem dX9_wills_104 : decode cX9_wills 104 = .ok (.iload_n 2, 1) := by decide +kernel
theorem dX9_wills_105 : decode cX9_wills 105 = .ok (.ifCond .ne 7, 3) := by decide +kernel
theorem dX9_wills_108 : decode cX9_wills 108 = .ok (.iload_n 3, 1) := by decide +kernel
theorem dX9_wills_109 : decode cX9_wills 109 = .ok (.goto 15, 3) := by decide +kernel
theorem dX9_wills_112 : decode cX9_wills 112 = .ok (.iload_n 2, 1) := by decide +kernel
theorem dX9_wills_113 : decode cX9_wills 113 = .ok (.iconst 1, 1) := by decide +kernel
theorem dX9_wills_114 : decode cX9_wills 114 = .ok (.if_icmp .ne 8, 3) := by decide +kernel
theorem dX9_wills_117 : decode cX9_wills 117 = .ok (.iload 4, 2) := by decide +kernel
theorem dX9_wills_119 : decode cX9_wills 119 = .ok (.goto 5, 3) := by decide +kernel
theorem dX9_wills_122 : decode cX9_wills 122 = .ok (.iload 5, 2) := by decide +kernel
theorem dX9_wills_124 : decode cX9_wills 124 = .ok (.ireturn, 1) := by decide +kernel
set_option maxRecDepth 20000 in
theorem ggX9_note_X9_isFlitch : GoodIn wsX9_note wsX9_isFlitch := goodIn_r _ [6, 1, 7, 8, 5, 9, 15, 16, 17, 18, 19, 20, 21, 22, 23, 24, 25, 26, 27, 28, 29, 30, 31, 32] (by decide +kernel) (by decide +kernel)
set_option maxRecDepth 20000 in
theorem gX9_note_X9_isFlitch : GoodIn wsX9_note (wsV RX9 160 RX9 yX9_isFlitch wsX9_isFlitch) := goodIn_app (goodIn_of _ (by decide +kernel)) ggX9_note_X9_isFlitch
set_option maxRecDepth 20000 in
theorem ggX9_note_X9_in : GoodIn wsX9_note wsX9_in := goodIn_r _ [9] (by decide +kernel) (by decide +kernel)
set_option maxRecDepth 20000 in
theorem gX9_note_X9_in : GoodIn wsX9_note (va_wsS RX9 52 yX9_in wsX9_in) := goodIn_app (goodIn_of _ (by decide +kernel)) ggX9_note_X9_in
set_option maxRecDepth 20000 in
theorem ggX9_note_X9_refuse : GoodIn wsX9_note wsX9_refuse := goodIn_r _ [13, 14, 15, 16, 17, 18, 19, 20, 21, 22, 23, 24, 25, 26, 27, 28, 29, 30, 31, 32] (by decide +kernel) (by decide +kernel)
set_option maxRecDepth 20000 in
theorem gX9_note_X9_refuse : GoodIn wsX9_note (wsV RX9 45 RX9 yX9_refuse wsX9_refuse) := goodIn_app (goodIn_of _ (by decide +kernel)) ggX9_note_X9_refuse
theorem dX9_note_0 : decode cX9_note 0 = .ok (.aload_n 0, 1) := by decide +kernel
theorem dX9_note_1 : decode cX9_note 1 = .ok (.iload_n 1, 1) := by decide +kernel
theorem dX9_note_2 : decode cX9_note 2 = .ok (.invokevirtual 160, 3) := by decide +kernel
theorem dX9_note_5 : decode cX9_note 5 = .ok (.ifCond .eq 45, 3) := by decide +kernel
theorem dX9_note_8 : decode cX9_note 8 = .ok (.iload_n 2, 1) := by decide +kernel
theorem dX9_note_9 : decode cX9_note 9 = .ok (.iconst 1, 1) := by decide +kernel
theorem dX9_note_10 : decode cX9_note 10 = .ok (.bipush 20, 2) := by decide +kernel
theorem dX9_note_12 : decode cX9_note 12 = .ok (.invokestatic 52, 3) := by decide +kernel
theorem dX9_note_15 : decode cX9_note 15 = .ok (.ifCond .eq 35, 3) := by decide +kernel
theorem dX9_note_18 : decode cX9_note 18 = .ok (.iload_n 3, 1) := by decide +kernel
theorem dX9_note_19 : decode cX9_note 19 = .ok (.iconst 0, 1) := by decide +kernel
theorem dX9_note_20 : decode cX9_note 20 = .ok (.bipush 8, 2) := by decide +kernel
theorem dX9_note_22 : decode cX9_note 22 = .ok (.invokestatic 52, 3) := by decide +kernel
theorem dX9_note_25 : decode cX9_note 25 = .ok (.ifCond .eq 25, 3) := by decide +kernel
theorem dX9_note_28 : decode cX9_note 28 = .ok (.iload 4, 2) := by decide +kernel
theorem dX9_note_30 : decode cX9_note 30 = .ok (.iconst 0, 1) := by decide +kernel
theorem dX9_note_31 : decode cX9_note 31 = .ok (.bipush 99, 2) := by decide +kernel
theorem dX9_note_33 : decode cX9_note 33 = .ok (.invokestatic 52, 3) := by decide +kernel
theorem dX9_note_36 : decode cX9_note 36 = .ok (.ifCond .eq 14, 3) := by decide +kernel
theorem dX9_note_39 : decode cX9_note 39 = .ok (.iload 5, 2) := by decide +kernel
theorem dX9_note_41 : decode cX9_note 41 = .ok (.iconst 0, 1) := by decide +kernel
theorem dX9_note_42 : decode cX9_note 42 = .ok (.bipush 60, 2) := by decide +kernel
theorem dX9_note_44 : decode cX9_note 44 = .ok (.invokestatic 52, 3) := by decide +kernel
theorem dX9_note_47 : decode cX9_note 47 = .ok (.ifCond .ne 10, 3) := by decide +kernel
theorem dX9_note_50 : decode cX9_note 50 = .ok (.aload_n 0, 1) := by decide +kernel
theorem dX9_note_51 : decode cX9_note 51 = .ok (.bipush (-2), 2) := by decide +kernel
theorem dX9_note_53 : decode cX9_note 53 = .ok (.invokevirtual 45, 3) := by decide +kernel
theorem dX9_note_56 : decode cX9_note 56 = .ok (.ireturn, 1) := by decide +kernel
theorem dX9_note_57 : decode cX9_note 57 = .ok (.aload_n 0, 1) := by decide +kernel
theorem dX9_note_58 : decode cX9_note 58 = .ok (.getfield 7, 3) := by decide +kernel
theorem dX9_note_61 : decode cX9_note 61 = .ok (.bipush 58, 2) := by decide +kernel
theorem dX9_note_63 : decode cX9_note 63 = .ok (.iaload, 1) := by decide +kernel
theorem dX9_note_64 : decode cX9_note 64 = .ok (.bipush 6, 2) := by decide +kernel
theorem dX9_note_66 : decode cX9_note 66 = .ok (.if_icmp .ne 10, 3) := by decide +kernel
theorem dX9_note_69 : decode cX9_note 69 = .ok (.aload_n 0, 1) := by decide +kernel
theorem dX9_note_70 : decode cX9_note 70 = .ok (.bipush (-4), 2) := by decide +kernel
theorem dX9_note_72 : decode cX9_note 72 = .ok (.invokevirtual 45, 3) := by decide +kernel
theorem dX9_note_75 : decode cX9_note 75 = .ok (.ireturn, 1) := by decide +kernel
theorem dX9_note_76 : decode cX9_note 76 = .ok (.bipush 59, 2) := by decide +kernel
theorem dX9_note_78 : decode cX9_note 78 = .ok (.iconst 5, 1) := by decide +kernel
theorem dX9_note_79 : decode cX9_note 79 = .ok (.aload_n 0, 1) := by decide +kernel
theorem dX9_note_80 : decode cX9_note 80 = .ok (.getfield 7, 3) := by decide +kernel
theorem dX9_note_83 : decode cX9_note 83 = .ok (.bipush 58, 2) := by decide +kernel
theorem dX9_note_85 : decode cX9_note 85 = .ok (.iaload, 1) := by decide +kernel
theorem dX9_note_86 : decode cX9_note 86 = .ok (.imul, 1) := by decide +kernel
theorem dX9_note_87 : decode cX9_note 87 = .ok (.iadd, 1) := by decide +kernel
theorem dX9_note_88 : decode cX9_note 88 = .ok (.istore 6, 2) := by decide +kernel
theorem dX9_note_90 : decode cX9_note 90 = .ok (.aload_n 0, 1) := by decide +kernel
theorem dX9_note_91 : decode cX9_note 91 = .ok (.getfield 7, 3) := by decide +kernel
theorem dX9_note_94 : decode cX9_note 94 = .ok (.iload 6, 2) := by decide +kernel
theorem dX9_note_96 : decode cX9_note 96 = .ok (.iload_n 1, 1) := by decide +kernel
theorem dX9_note_97 : decode cX9_note 97 = .ok (.iastore, 1) := by decide +kernel
theorem dX9_note_98 : decode cX9_note 98 = .ok (.aload_n 0, 1) := by decide +kernel
theorem dX9_note_99 : decode cX9_note 99 = .ok (.getfield 7, 3) := by decide +kernel
theorem dX9_note_102 : decode cX9_note 102 = .ok (.iload 6, 2) := by decide +kernel
theorem dX9_note_104 : decode cX9_note 104 = .ok (.iconst 1, 1) := by decide +kernel
theorem dX9_note_105 : decode cX9_note 105 = .ok (.iadd, 1) := by decide +kernel
theorem dX9_note_106 : decode cX9_note 106 = .ok (.iload_n 2, 1) := by decide +kernel
theorem dX9_note_107 : decode cX9_note 107 = .ok (.iastore, 1) := by decide +kernel
theorem dX9_note_108 : decode cX9_note 108 = .ok (.aload_n 0, 1) := by decide +kernel
theorem dX9_note_109 : decode cX9_note 109 = .ok (.getfield 7, 3) := by decide +kernel
theorem dX9_note_112 : decode cX9_note 112 = .ok (.iload 6, 2) := by decide +kernel
theorem dX9_note_114 : decode cX9_note 114 = .ok (.iconst 2, 1) := by decide +kernel
theorem dX9_note_115 : decode cX9_note 115 = .ok (.iadd, 1) := by decide +kernel
theorem dX9_note_116 : decode cX9_note 116 = .ok (.iload_n 3, 1) := by decide +kernel
theorem dX9_note_117 : decode cX9_note 117 = .ok (.iastore, 1) := by decide +kernel
theorem dX9_note_118 : decode cX9_note 118 = .ok (.aload_n 0, 1) := by decide +kernel
theorem dX9_note_119 : decode cX9_note 119 = .ok (.getfield 7, 3) := by decide +kernel
theorem dX9_note_122 : decode cX9_note 122 = .ok (.iload 6, 2) := by decide +kernel
theorem dX9_note_124 : decode cX9_note 124 = .ok (.iconst 3, 1) := by decide +kernel
theorem dX9_note_125 : decode cX9_note 125 = .ok (.iadd, 1) := by decide +kernel
theorem dX9_note_126 : decode cX9_note 126 = .ok (.iload 4, 2) := by decide +kernel
theorem dX9_note_128 : decode cX9_note 128 = .ok (.iastore, 1) := by decide +kernel
theorem dX9_note_129 : decode cX9_note 129 = .ok (.aload_n 0, 1) := by decide +kernel
theorem dX9_note_130 : decode cX9_note 130 = .ok (.getfield 7, 3) := by decide +kernel
theorem dX9_note_133 : decode cX9_note 133 = .ok (.iload 6, 2) := by decide +kernel
theorem dX9_note_135 : decode cX9_note 135 = .ok (.iconst 4, 1) := by decide +kernel
theorem dX9_note_136 : decode cX9_note 136 = .ok (.iadd, 1) := by decide +kernel
theorem dX9_note_137 : decode cX9_note 137 = .ok (.iload 5, 2) := by decide +kernel
theorem dX9_note_139 : decode cX9_note 139 = .ok (.iastore, 1) := by decide +kernel
theorem dX9_note_140 : decode cX9_note 140 = .ok (.aload_n 0, 1) := by decide +kernel
theorem dX9_note_141 : decode cX9_note 141 = .ok (.getfield 7, 3) := by decide +kernel
theorem dX9_note_144 : decode cX9_note 144 = .ok (.bipush 58, 2) := by decide +kernel
theorem dX9_note_146 : decode cX9_note 146 = .ok (.dup2, 1) := by decide +kernel
theorem dX9_note_147 : decode cX9_note 147 = .ok (.iaload, 1) := by decide +kernel
theorem dX9_note_148 : decode cX9_note 148 = .ok (.iconst 1, 1) := by decide +kernel
theorem dX9_note_149 : decode cX9_note 149 = .ok (.iadd, 1) := by decide +kernel
theorem dX9_note_150 : decode cX9_note 150 = .ok (.iastore, 1) := by decide +kernel
theorem dX9_note_151 : decode cX9_note 151 = .ok (.aload_n 0, 1) := by decide +kernel
theorem dX9_note_152 : decode cX9_note 152 = .ok (.getfield 7, 3) := by decide +kernel
theorem dX9_note_155 : decode cX9_note 155 = .ok (.bipush 58, 2) := by decide +kernel
theorem dX9_note_157 : decode cX9_note 157 = .ok (.iaload, 1) := by decide +kernel
theorem dX9_note_158 : decode cX9_note 158 = .ok (.ireturn, 1) := by decide +kernel
set_option maxRecDepth 20000 in
theorem ggX9_mark_X9_isFamily : GoodIn wsX9_mark wsX9_isFamily := goodIn_r _ [6, 1, 7, 8, 5, 9, 15, 16, 17, 18, 19, 20, 21, 22, 23, 24, 25, 26, 27, 28, 29, 30, 31, 32] (by decide +kernel) (by decide +kernel)
set_option maxRecDepth 20000 in
theorem gX9_mark_X9_isFamily : GoodIn wsX9_mark (wsV RX9 157 RX9 yX9_isFamily wsX9_isFamily) := goodIn_app (goodIn_of _ (by decide +kernel)) ggX9_mark_X9_isFamily
set_option maxRecDepth 20000 in
theorem ggX9_mark_X9_in : GoodIn wsX9_mark wsX9_in := goodIn_r _ [9] (by decide +kernel) (by decide +kernel)
set_option maxRecDepth 20000 in
theorem gX9_mark_X9_in : GoodIn wsX9_mark (va_wsS RX9 52 yX9_in wsX9_in) := goodIn_app (goodIn_of _ (by decide +kernel)) ggX9_mark_X9_in
set_option maxRecDepth 20000 in
theorem ggX9_mark_X9_refuse : GoodIn wsX9_mark wsX9_refuse := goodIn_r _ [13, 14, 15, 16, 17, 18, 19, 20, 21, 22, 23, 24, 25, 26, 27, 28, 29, 30, 31, 32] (by decide +kernel) (by decide +kernel)
set_option maxRecDepth 20000 in
theorem gX9_mark_X9_refuse : GoodIn wsX9_mark (wsV RX9 45 RX9 yX9_refuse wsX9_refuse) := goodIn_app (goodIn_of _ (by decide +kernel)) ggX9_mark_X9_refuse
theorem dX9_mark_0 : decode cX9_mark 0 = .ok (.aload_n 0, 1) := by decide +kernel
theorem dX9_mark_1 : decode cX9_mark 1 = .ok (.iload_n 1, 1) := by decide +kernel
theorem dX9_mark_2 : decode cX9_mark 2 = .ok (.invokevirtual 157, 3) := by decide +kernel
theorem dX9_mark_5 : decode cX9_mark 5 = .ok (.ifCond .eq 34, 3) := by decide +kernel
theorem dX9_mark_8 : decode cX9_mark 8 = .ok (.iload_n 2, 1) := by decide +kernel
theorem dX9_mark_9 : decode cX9_mark 9 = .ok (.iconst 0, 1) := by decide +kernel
theorem dX9_mark_10 : decode cX9_mark 10 = .ok (.bipush 60, 2) := by decide +kernel
theorem dX9_mark_12 : decode cX9_mark 12 = .ok (.invokestatic 52, 3) := by decide +kernel
theorem dX9_mark_15 : decode cX9_mark 15 = .ok (.ifCond .eq 24, 3) := by decide +kernel
theorem dX9_mark_18 : decode cX9_mark 18 = .ok (.iload_n 3, 1) := by decide +kernel
theorem dX9_mark_19 : decode cX9_mark 19 = .ok (.iconst 0, 1) := by decide +kernel
theorem dX9_mark_20 : decode cX9_mark 20 = .ok (.bipush 99, 2) := by decide +kernel
theorem dX9_mark_22 : decode cX9_mark 22 = .ok (.invokestatic 52, 3) := by decide +kernel
theorem dX9_mark_25 : decode cX9_mark 25 = .ok (.ifCond .eq 14, 3) := by decide +kernel
theorem dX9_mark_28 : decode cX9_mark 28 = .ok (.iload 4, 2) := by decide +kernel
theorem dX9_mark_30 : decode cX9_mark 30 = .ok (.iconst 0, 1) := by decide +kernel
theorem dX9_mark_31 : decode cX9_mark 31 = .ok (.bipush 40, 2) := by decide +kernel
theorem dX9_mark_33 : decode cX9_mark 33 = .ok (.invokestatic 52, 3) := by decide +kernel
theorem dX9_mark_36 : decode cX9_mark 36 = .ok (.ifCond .ne 10, 3) := by decide +kernel
theorem dX9_mark_39 : decode cX9_mark 39 = .ok (.aload_n 0, 1) := by decide +kernel
theorem dX9_mark_40 : decode cX9_mark 40 = .ok (.bipush (-2), 2) := by decide +kernel
theorem dX9_mark_42 : decode cX9_mark 42 = .ok (.invokevirtual 45, 3) := by decide +kernel
theorem dX9_mark_45 : decode cX9_mark 45 = .ok (.ireturn, 1) := by decide +kernel
theorem dX9_mark_46 : decode cX9_mark 46 = .ok (.aload_n 0, 1) := by decide +kernel
theorem dX9_mark_47 : decode cX9_mark 47 = .ok (.getfield 7, 3) := by decide +kernel
theorem dX9_mark_50 : decode cX9_mark 50 = .ok (.bipush 89, 2) := by decide +kernel
theorem dX9_mark_52 : decode cX9_mark 52 = .ok (.iaload, 1) := by decide +kernel
theorem dX9_mark_53 : decode cX9_mark 53 = .ok (.bipush 6, 2) := by decide +kernel
theorem dX9_mark_55 : decode cX9_mark 55 = .ok (.if_icmp .ne 10, 3) := by decide +kernel
theorem dX9_mark_58 : decode cX9_mark 58 = .ok (.aload_n 0, 1) := by decide +kernel
theorem dX9_mark_59 : decode cX9_mark 59 = .ok (.bipush (-4), 2) := by decide +kernel
theorem dX9_mark_61 : decode cX9_mark 61 = .ok (.invokevirtual 45, 3) := by decide +kernel
theorem dX9_mark_64 : decode cX9_mark 64 = .ok (.ireturn, 1) := by decide +kernel
theorem dX9_mark_65 : decode cX9_mark 65 = .ok (.bipush 90, 2) := by decide +kernel
theorem dX9_mark_67 : decode cX9_mark 67 = .ok (.iconst 4, 1) := by decide +kernel
theorem dX9_mark_68 : decode cX9_mark 68 = .ok (.aload_n 0, 1) := by decide +kernel
theorem dX9_mark_69 : decode cX9_mark 69 = .ok (.getfield 7, 3) := by decide +kernel
theorem dX9_mark_72 : decode cX9_mark 72 = .ok (.bipush 89, 2) := by decide +kernel
theorem dX9_mark_74 : decode cX9_mark 74 = .ok (.iaload, 1) := by decide +kernel
theorem dX9_mark_75 : decode cX9_mark 75 = .ok (.imul, 1) := by decide +kernel
theorem dX9_mark_76 : decode cX9_mark 76 = .ok (.iadd, 1) := by decide +kernel
theorem dX9_mark_77 : decode cX9_mark 77 = .ok (.istore 5, 2) := by decide +kernel
theorem dX9_mark_79 : decode cX9_mark 79 = .ok (.aload_n 0, 1) := by decide +kernel
theorem dX9_mark_80 : decode cX9_mark 80 = .ok (.getfield 7, 3) := by decide +kernel
theorem dX9_mark_83 : decode cX9_mark 83 = .ok (.iload 5, 2) := by decide +kernel
theorem dX9_mark_85 : decode cX9_mark 85 = .ok (.iload_n 1, 1) := by decide +kernel
theorem dX9_mark_86 : decode cX9_mark 86 = .ok (.iastore, 1) := by decide +kernel
theorem dX9_mark_87 : decode cX9_mark 87 = .ok (.aload_n 0, 1) := by decide +kernel
theorem dX9_mark_88 : decode cX9_mark 88 = .ok (.getfield 7, 3) := by decide +kernel
theorem dX9_mark_91 : decode cX9_mark 91 = .ok (.iload 5, 2) := by decide +kernel
theorem dX9_mark_93 : decode cX9_mark 93 = .ok (.iconst 1, 1) := by decide +kernel
theorem dX9_mark_94 : decode cX9_mark 94 = .ok (.iadd, 1) := by decide +kernel
theorem dX9_mark_95 : decode cX9_mark 95 = .ok (.iload_n 2, 1) := by decide +kernel
theorem dX9_mark_96 : decode cX9_mark 96 = .ok (.iastore, 1) := by decide +kernel
theorem dX9_mark_97 : decode cX9_mark 97 = .ok (.aload_n 0, 1) := by decide +kernel
theorem dX9_mark_98 : decode cX9_mark 98 = .ok (.getfield 7, 3) := by decide +kernel
theorem dX9_mark_101 : decode cX9_mark 101 = .ok (.iload 5, 2) := by decide +kernel
theorem dX9_mark_103 : decode cX9_mark 103 = .ok (.iconst 2, 1) := by decide +kernel
theorem dX9_mark_104 : decode cX9_mark 104 = .ok (.iadd, 1) := by decide +kernel
theorem dX9_mark_105 : decode cX9_mark 105 = .ok (.iload_n 3, 1) := by decide +kernel
theorem dX9_mark_106 : decode cX9_mark 106 = .ok (.iastore, 1) := by decide +kernel
theorem dX9_mark_107 : decode cX9_mark 107 = .ok (.aload_n 0, 1) := by decide +kernel
theorem dX9_mark_108 : decode cX9_mark 108 = .ok (.getfield 7, 3) := by decide +kernel
theorem dX9_mark_111 : decode cX9_mark 111 = .ok (.iload 5, 2) := by decide +kernel
theorem dX9_mark_113 : decode cX9_mark 113 = .ok (.iconst 3, 1) := by decide +kernel
theorem dX9_mark_114 : decode cX9_mark 114 = .ok (.iadd, 1) := by decide +kernel
theorem dX9_mark_115 : decode cX9_mark 115 = .ok (.iload 4, 2) := by decide +kernel
theorem dX9_mark_117 : decode cX9_mark 117 = .ok (.iastore, 1) := by decide +kernel
theorem dX9_mark_118 : decode cX9_mark 118 = .ok (.aload_n 0, 1) := by decide +kernel
theorem dX9_mark_119 : decode cX9_mark 119 = .ok (.getfield 7, 3) := by decide +kernel
theorem dX9_mark_122 : decode cX9_mark 122 = .ok (.bipush 89, 2) := by decide +kernel
theorem dX9_mark_124 : decode cX9_mark 124 = .ok (.dup2, 1) := by decide +kernel
theorem dX9_mark_125 : decode cX9_mark 125 = .ok (.iaload, 1) := by decide +kernel
theorem dX9_mark_126 : decode cX9_mark 126 = .ok (.iconst 1, 1) := by decide +kernel
theorem dX9_mark_127 : decode cX9_mark 127 = .ok (.iadd, 1) := by decide +kernel
theorem dX9_mark_128 : decode cX9_mark 128 = .ok (.iastore, 1) := by decide +kernel
theorem dX9_mark_129 : decode cX9_mark 129 = .ok (.aload_n 0, 1) := by decide +kernel
theorem dX9_mark_130 : decode cX9_mark 130 = .ok (.getfield 7, 3) := by decide +kernel
theorem dX9_mark_133 : decode cX9_mark 133 = .ok (.bipush 89, 2) := by decide +kernel
theorem dX9_mark_135 : decode cX9_mark 135 = .ok (.iaload, 1) := by decide +kernel
theorem dX9_mark_136 : decode cX9_mark 136 = .ok (.ireturn, 1) := by decide +kernel
set_option maxRecDepth 20000 in
theorem ggX9_forget_X9_in : GoodIn wsX9_forget wsX9_in := goodIn_r _ [5] (by decide +kernel) (by decide +kernel)
set_option maxRecDepth 20000 in
theorem gX9_forget_X9_in : GoodIn wsX9_forget (va_wsS RX9 52 yX9_in wsX9_in) := goodIn_app (goodIn_of _ (by decide +kernel)) ggX9_forget_X9_in
set_option maxRecDepth 20000 in
theorem ggX9_forget_X9_refuse : GoodIn wsX9_forget wsX9_refuse := goodIn_r _ [9, 10, 11, 12, 13, 14, 15, 16, 17, 18, 19, 20, 21, 22, 23, 24, 25, 26, 27, 28] (by decide +kernel) (by decide +kernel)
set_option maxRecDepth 20000 in
theorem gX9_forget_X9_refuse : GoodIn wsX9_forget (wsV RX9 45 RX9 yX9_refuse wsX9_refuse) := goodIn_app (goodIn_of _ (by decide +kernel)) ggX9_forget_X9_refuse
theorem dX9_forget_0 : decode cX9_forget 0 = .ok (.iload_n 1, 1) := by decide +kernel
theorem dX9_forget_1 : decode cX9_forget 1 = .ok (.iconst 0, 1) := by decide +kernel
theorem dX9_forget_2 : decode cX9_forget 2 = .ok (.iconst 2, 1) := by decide +kernel
theorem dX9_forget_3 : decode cX9_forget 3 = .ok (.invokestatic 52, 3) := by decide +kernel
theorem dX9_forget_6 : decode cX9_forget 6 = .ok (.ifCond .ne 10, 3) := by decide +kernel
theorem dX9_forget_9 : decode cX9_forget 9 = .ok (.aload_n 0, 1) := by decide +kernel
theorem dX9_forget_10 : decode cX9_forget 10 = .ok (.bipush (-2), 2) := by decide +kernel
theorem dX9_forget_12 : decode cX9_forget 12 = .ok (.invokevirtual 45, 3) := by decide +kernel
theorem dX9_forget_15 : decode cX9_forget 15 = .ok (.ireturn, 1) := by decide +kernel
theorem dX9_forget_16 : decode cX9_forget 16 = .ok (.iload_n 1, 1) := by decide +kernel
theorem dX9_forget_17 : decode cX9_forget 17 = .ok (.ifCond .ne 8, 3) := by decide +kernel
theorem dX9_forget_20 : decode cX9_forget 20 = .ok (.bipush 42, 2) := by decide +kernel
theorem dX9_forget_22 : decode cX9_forget 22 = .ok (.goto 15, 3) := by decide +kernel
theorem dX9_forget_25 : decode cX9_forget 25 = .ok (.iload_n 1, 1) := by decide +kernel
theorem dX9_forget_26 : decode cX9_forget 26 = .ok (.iconst 1, 1) := by decide +kernel
theorem dX9_forget_27 : decode cX9_forget 27 = .ok (.if_icmp .ne 8, 3) := by decide +kernel
theorem dX9_forget_30 : decode cX9_forget 30 = .ok (.bipush 58, 2) := by decide +kernel
theorem dX9_forget_32 : decode cX9_forget 32 = .ok (.goto 5, 3) := by decide +kernel
theorem dX9_forget_35 : decode cX9_forget 35 = .ok (.bipush 89, 2) := by decide +kernel
theorem dX9_forget_37 : decode cX9_forget 37 = .ok (.istore_n 2, 1) := by decide +kernel
theorem dX9_forget_38 : decode cX9_forget 38 = .ok (.aload_n 0, 1) := by decide +kernel
theorem dX9_forget_39 : decode cX9_forget 39 = .ok (.getfield 7, 3) := by decide +kernel
theorem dX9_forget_42 : decode cX9_forget 42 = .ok (.iload_n 2, 1) := by decide +kernel
theorem dX9_forget_43 : decode cX9_forget 43 = .ok (.iaload, 1) := by decide +kernel
theorem dX9_forget_44 : decode cX9_forget 44 = .ok (.istore_n 3, 1) := by decide +kernel
theorem dX9_forget_45 : decode cX9_forget 45 = .ok (.aload_n 0, 1) := by decide +kernel
theorem dX9_forget_46 : decode cX9_forget 46 = .ok (.getfield 7, 3) := by decide +kernel
theorem dX9_forget_49 : decode cX9_forget 49 = .ok (.iload_n 2, 1) := by decide +kernel
theorem dX9_forget_50 : decode cX9_forget 50 = .ok (.iconst 0, 1) := by decide +kernel
theorem dX9_forget_51 : decode cX9_forget 51 = .ok (.iastore, 1) := by decide +kernel
theorem dX9_forget_52 : decode cX9_forget 52 = .ok (.iload_n 3, 1) := by decide +kernel
theorem dX9_forget_53 : decode cX9_forget 53 = .ok (.ireturn, 1) := by decide +kernel
set_option maxRecDepth 20000 in
theorem ggX9_sortsOf_X9_smellBy : GoodIn wsX9_sortsOf wsX9_smellBy := goodIn_r _ [5] (by decide +kernel) (by decide +kernel)
set_option maxRecDepth 20000 in
theorem gX9_sortsOf_X9_smellBy : GoodIn wsX9_sortsOf (va_wsS RX9 133 yX9_smellBy wsX9_smellBy) := goodIn_app (goodIn_of _ (by decide +kernel)) ggX9_sortsOf_X9_smellBy
theorem dX9_sortsOf_0 : decode cX9_sortsOf 0 = .ok (.bipush 63, 2) := by decide +kernel
theorem dX9_sortsOf_2 : decode cX9_sortsOf 2 = .ok (.istore_n 2, 1) := by decide +kernel
theorem dX9_sortsOf_3 : decode cX9_sortsOf 3 = .ok (.bipush 59, 2) := by decide +kernel
theorem dX9_sortsOf_5 : decode cX9_sortsOf 5 = .ok (.istore_n 3, 1) := by decide +kernel
theorem dX9_sortsOf_6 : decode cX9_sortsOf 6 = .ok (.iload_n 3, 1) := by decide +kernel
theorem dX9_sortsOf_7 : decode cX9_sortsOf 7 = .ok (.bipush 59, 2) := by decide +kernel
theorem dX9_sortsOf_9 : decode cX9_sortsOf 9 = .ok (.iconst 5, 1) := by decide +kernel
theorem dX9_sortsOf_10 : decode cX9_sortsOf 10 = .ok (.aload_n 0, 1) := by decide +kernel
theorem dX9_sortsOf_11 : decode cX9_sortsOf 11 = .ok (.getfield 7, 3) := by decide +kernel
theorem dX9_sortsOf_14 : decode cX9_sortsOf 14 = .ok (.bipush 58, 2) := by decide +kernel
theorem dX9_sortsOf_16 : decode cX9_sortsOf 16 = .ok (.iaload, 1) := by decide +kernel
theorem dX9_sortsOf_17 : decode cX9_sortsOf 17 = .ok (.imul, 1) := by decide +kernel
theorem dX9_sortsOf_18 : decode cX9_sortsOf 18 = .ok (.iadd, 1) := by decide +kernel
theorem dX9_sortsOf_19 : decode cX9_sortsOf 19 = .ok (.if_icmp .ge 101, 3) := by decide +kernel
theorem dX9_sortsOf_22 : decode cX9_sortsOf 22 = .ok (.iconst 0, 1) := by decide +kernel
theorem dX9_sortsOf_23 : decode cX9_sortsOf 23 = .ok (.istore 4, 2) := by decide +kernel
theorem dX9_sortsOf_25 : decode cX9_sortsOf 25 = .ok (.iload 4, 2) := by decide +kernel
theorem dX9_sortsOf_27 : decode cX9_sortsOf 27 = .ok (.bipush 6, 2) := by decide +kernel
theorem dX9_sortsOf_29 : decode cX9_sortsOf 29 = .ok (.if_icmp .ge 85, 3) := by decide +kernel
theorem dX9_sortsOf_32 : decode cX9_sortsOf 32 = .ok (.aload_n 0, 1) := by decide +kernel
theorem dX9_sortsOf_33 : decode cX9_sortsOf 33 = .ok (.getfield 7, 3) := by decide +kernel
theorem dX9_sortsOf_36 : decode cX9_sortsOf 36 = .ok (.iload_n 3, 1) := by decide +kernel
theorem dX9_sortsOf_37 : decode cX9_sortsOf 37 = .ok (.iaload, 1) := by decide +kernel
theorem dX9_sortsOf_38 : decode cX9_sortsOf 38 = .ok (.iload_n 1, 1) := by decide +kernel
theorem dX9_sortsOf_39 : decode cX9_sortsOf 39 = .ok (.if_icmp .ne 43, 3) := by decide +kernel
theorem dX9_sortsOf_42 : decode cX9_sortsOf 42 = .ok (.iload 4, 2) := by decide +kernel
theorem dX9_sortsOf_44 : decode cX9_sortsOf 44 = .ok (.aload_n 0, 1) := by decide +kernel
theorem dX9_sortsOf_45 : decode cX9_sortsOf 45 = .ok (.getfield 7, 3) := by decide +kernel
theorem dX9_sortsOf_48 : decode cX9_sortsOf 48 = .ok (.iload_n 3, 1) := by decide +kernel
theorem dX9_sortsOf_49 : decode cX9_sortsOf 49 = .ok (.iconst 1, 1) := by decide +kernel
theorem dX9_sortsOf_50 : decode cX9_sortsOf 50 = .ok (.iadd, 1) := by decide +kernel
theorem dX9_sortsOf_51 : decode cX9_sortsOf 51 = .ok (.iaload, 1) := by decide +kernel
theorem dX9_sortsOf_52 : decode cX9_sortsOf 52 = .ok (.aload_n 0, 1) := by decide +kernel
theorem dX9_sortsOf_53 : decode cX9_sortsOf 53 = .ok (.getfield 7, 3) := by decide +kernel
theorem dX9_sortsOf_56 : decode cX9_sortsOf 56 = .ok (.iload_n 3, 1) := by decide +kernel
theorem dX9_sortsOf_57 : decode cX9_sortsOf 57 = .ok (.iconst 2, 1) := by decide +kernel
theorem dX9_sortsOf_58 : decode cX9_sortsOf 58 = .ok (.iadd, 1) := by decide +kernel
theorem dX9_sortsOf_59 : decode cX9_sortsOf 59 = .ok (.iaload, 1) := by decide +kernel
theorem dX9_sortsOf_60 : decode cX9_sortsOf 60 = .ok (.aload_n 0, 1) := by decide +kernel
theorem dX9_sortsOf_61 : decode cX9_sortsOf 61 = .ok (.getfield 7, 3) := by decide +kernel
theorem dX9_sortsOf_64 : decode cX9_sortsOf 64 = .ok (.iload_n 3, 1) := by decide +kernel
theorem dX9_sortsOf_65 : decode cX9_sortsOf 65 = .ok (.iconst 3, 1) := by decide +kernel
theorem dX9_sortsOf_66 : decode cX9_sortsOf 66 = .ok (.iadd, 1) := by decide +kernel
theorem dX9_sortsOf_67 : decode cX9_sortsOf 67 = .ok (.iaload, 1) := by decide +kernel
theorem dX9_sortsOf_68 : decode cX9_sortsOf 68 = .ok (.invokestatic 133, 3) := by decide +kernel
theorem dX9_sortsOf_71 : decode cX9_sortsOf 71 = .ok (.aload_n 0, 1) := by decide +kernel
theorem dX9_sortsOf_72 : decode cX9_sortsOf 72 = .ok (.getfield 7, 3) := by decide +kernel
theorem dX9_sortsOf_75 : decode cX9_sortsOf 75 = .ok (.iload_n 3, 1) := by decide +kernel
theorem dX9_sortsOf_76 : decode cX9_sortsOf 76 = .ok (.iconst 4, 1) := by decide +kernel
theorem dX9_sortsOf_77 : decode cX9_sortsOf 77 = .ok (.iadd, 1) := by decide +kernel
theorem dX9_sortsOf_78 : decode cX9_sortsOf 78 = .ok (.iaload, 1) := by decide +kernel
theorem dX9_sortsOf_79 : decode cX9_sortsOf 79 = .ok (.if_icmp .ne 7, 3) := by decide +kernel
theorem dX9_sortsOf_82 : decode cX9_sortsOf 82 = .ok (.iconst 1, 1) := by decide +kernel
theorem dX9_sortsOf_83 : decode cX9_sortsOf 83 = .ok (.goto 4, 3) := by decide +kernel
theorem dX9_sortsOf_86 : decode cX9_sortsOf 86 = .ok (.iconst 0, 1) := by decide +kernel
theorem dX9_sortsOf_87 : decode cX9_sortsOf 87 = .ok (.istore 5, 2) := by decide +kernel
theorem dX9_sortsOf_89 : decode cX9_sortsOf 89 = .ok (.iload_n 2, 1) := by decide +kernel
theorem dX9_sortsOf_90 : decode cX9_sortsOf 90 = .ok (.iload 5, 2) := by decide +kernel
theorem dX9_sortsOf_92 : decode cX9_sortsOf 92 = .ok (.ifCond .eq 8, 3) := by decide +kernel
theorem dX9_sortsOf_95 : decode cX9_sortsOf 95 = .ok (.bipush 63, 2) := by decide +kernel
theorem dX9_sortsOf_97 : decode cX9_sortsOf 97 = .ok (.goto 9, 3) := by decide +kernel
theorem dX9_sortsOf_100 : decode cX9_sortsOf 100 = .ok (.iconst 1, 1) := by decide +kernel
theorem dX9_sortsOf_101 : decode cX9_sortsOf 101 = .ok (.iload 4, 2) := by decide +kernel
theorem dX9_sortsOf_103 : decode cX9_sortsOf 103 = .ok (.ishl, 1) := by decide +kernel
theorem dX9_sortsOf_104 : decode cX9_sortsOf 104 = .ok (.iconst (-1), 1) := by decide +kernel
theorem dX9_sortsOf_105 : decode cX9_sortsOf 105 = .ok (.ixor, 1) := by decide +kernel
theorem dX9_sortsOf_106 : decode cX9_sortsOf 106 = .ok (.iand, 1) := by decide +kernel
theorem dX9_sortsOf_107 : decode cX9_sortsOf 107 = .ok (.istore_n 2, 1) := by decide +kernel
theorem dX9_sortsOf_108 : decode cX9_sortsOf 108 = .ok (.iinc 4 1, 3) := by decide +kernel
theorem dX9_sortsOf_111 : decode cX9_sortsOf 111 = .ok (.goto (-86), 3) := by decide +kernel
theorem dX9_sortsOf_114 : decode cX9_sortsOf 114 = .ok (.iinc 3 5, 3) := by decide +kernel
theorem dX9_sortsOf_117 : decode cX9_sortsOf 117 = .ok (.goto (-111), 3) := by decide +kernel
theorem dX9_sortsOf_120 : decode cX9_sortsOf 120 = .ok (.iload_n 2, 1) := by decide +kernel
theorem dX9_sortsOf_121 : decode cX9_sortsOf 121 = .ok (.ireturn, 1) := by decide +kernel
set_option maxRecDepth 20000 in
theorem ggX9_is_X9_isFlitch : GoodIn wsX9_is wsX9_isFlitch := goodIn_r _ [5, 6, 7, 8, 4, 9, 22, 23, 24, 25, 26, 27, 28, 29, 30, 31, 32, 33, 34, 35, 36, 37, 38, 39] (by decide +kernel) (by decide +kernel)
set_option maxRecDepth 20000 in
theorem gX9_is_X9_isFlitch : GoodIn wsX9_is (wsV RX9 160 RX9 yX9_isFlitch wsX9_isFlitch) := goodIn_app (goodIn_of _ (by decide +kernel)) ggX9_is_X9_isFlitch
set_option maxRecDepth 20000 in
theorem ggX9_is_X9_sortsOf : GoodIn wsX9_is wsX9_sortsOf := goodIn_r _ [13, 6, 14, 15, 4, 16, 22, 23, 24, 25, 26, 27, 28, 29, 30, 31, 32, 33, 34, 35, 36, 37, 38, 39] (by decide +kernel) (by decide +kernel)
set_option maxRecDepth 20000 in
theorem gX9_is_X9_sortsOf : GoodIn wsX9_is (wsV RX9 221 RX9 yX9_sortsOf wsX9_sortsOf) := goodIn_app (goodIn_of _ (by decide +kernel)) ggX9_is_X9_sortsOf
set_option maxRecDepth 20000 in
theorem ggX9_is_X9_refuse : GoodIn wsX9_is wsX9_refuse := goodIn_r _ [20, 21, 22, 23, 24, 25, 26, 27, 28, 29, 30, 31, 32, 33, 34, 35, 36, 37, 38, 39] (by decide +kernel) (by decide +kernel)
set_option maxRecDepth 20000 in
theorem gX9_is_X9_refuse : GoodIn wsX9_is (wsV RX9 45 RX9 yX9_refuse wsX9_refuse) := goodIn_app (goodIn_of _ (by decide +kernel)) ggX9_is_X9_refuse
theorem dX9_is_0 : decode cX9_is 0 = .ok (.aload_n 0, 1) := by decide +kernel
theorem dX9_is_1 : decode cX9_is 1 = .ok (.iload_n 1, 1) := by decide +kernel
theorem dX9_is_2 : decode cX9_is 2 = .ok (.invokevirtual 160, 3) := by decide +kernel
theorem dX9_is_5 : decode cX9_is 5 = .ok (.ifCond .eq 11, 3) := by decide +kernel
theorem dX9_is_8 : decode cX9_is 8 = .ok (.aload_n 0, 1) := by decide +kernel
theorem dX9_is_9 : decode cX9_is 9 = .ok (.iload_n 1, 1) := by decide +kernel
theorem dX9_is_10 : decode cX9_is 10 = .ok (.invokevirtual 221, 3) := by decide +kernel
theorem dX9_is_13 : decode cX9_is 13 = .ok (.goto 9, 3) := by decide +kernel
theorem dX9_is_16 : decode cX9_is 16 = .ok (.aload_n 0, 1) := by decide +kernel
theorem dX9_is_17 : decode cX9_is 17 = .ok (.bipush (-2), 2) := by decide +kernel
theorem dX9_is_19 : decode cX9_is 19 = .ok (.invokevirtual 45, 3) := by decide +kernel
theorem dX9_is_22 : decode cX9_is 22 = .ok (.ireturn, 1) := by decide +kernel
set_option maxRecDepth 20000 in
theorem ggX9_mostAlike_X9_has : GoodIn wsX9_mostAlike wsX9_has := goodIn_r _ [5] (by decide +kernel) (by decide +kernel)
set_option maxRecDepth 20000 in
theorem gX9_mostAlike_X9_has : GoodIn wsX9_mostAlike (va_wsS RX9 126 yX9_has wsX9_has) := goodIn_app (goodIn_of _ (by decide +kernel)) ggX9_mostAlike_X9_has
theorem dX9_mostAlike_0 : decode cX9_mostAlike 0 = .ok (.iconst 0, 1) := by decide +kernel
theorem dX9_mostAlike_1 : decode cX9_mostAlike 1 = .ok (.istore_n 2, 1) := by decide +kernel
theorem dX9_mostAlike_2 : decode cX9_mostAlike 2 = .ok (.iconst 0, 1) := by decide +kernel
theorem dX9_mostAlike_3 : decode cX9_mostAlike 3 = .ok (.istore_n 3, 1) := by decide +kernel
theorem dX9_mostAlike_4 : decode cX9_mostAlike 4 = .ok (.iload_n 3, 1) := by decide +kernel
theorem dX9_mostAlike_5 : decode cX9_mostAlike 5 = .ok (.bipush 6, 2) := by decide +kernel
theorem dX9_mostAlike_7 : decode cX9_mostAlike 7 = .ok (.if_icmp .ge 84, 3) := by decide +kernel
theorem dX9_mostAlike_10 : decode cX9_mostAlike 10 = .ok (.iconst 0, 1) := by decide +kernel
theorem dX9_mostAlike_11 : decode cX9_mostAlike 11 = .ok (.istore 4, 2) := by decide +kernel
theorem dX9_mostAlike_13 : decode cX9_mostAlike 13 = .ok (.iconst 0, 1) := by decide +kernel
theorem dX9_mostAlike_14 : decode cX9_mostAlike 14 = .ok (.istore 5, 2) := by decide +kernel
theorem dX9_mostAlike_16 : decode cX9_mostAlike 16 = .ok (.iload 5, 2) := by decide +kernel
theorem dX9_mostAlike_18 : decode cX9_mostAlike 18 = .ok (.bipush 6, 2) := by decide +kernel
theorem dX9_mostAlike_20 : decode cX9_mostAlike 20 = .ok (.if_icmp .ge 52, 3) := by decide +kernel
theorem dX9_mostAlike_23 : decode cX9_mostAlike 23 = .ok (.iload 4, 2) := by decide +kernel
theorem dX9_mostAlike_25 : decode cX9_mostAlike 25 = .ok (.iload_n 1, 1) := by decide +kernel
theorem dX9_mostAlike_26 : decode cX9_mostAlike 26 = .ok (.iload_n 3, 1) := by decide +kernel
theorem dX9_mostAlike_27 : decode cX9_mostAlike 27 = .ok (.invokestatic 126, 3) := by decide +kernel
theorem dX9_mostAlike_30 : decode cX9_mostAlike 30 = .ok (.ifCond .eq 32, 3) := by decide +kernel
theorem dX9_mostAlike_33 : decode cX9_mostAlike 33 = .ok (.iload_n 1, 1) := by decide +kernel
theorem dX9_mostAlike_34 : decode cX9_mostAlike 34 = .ok (.iload 5, 2) := by decide +kernel
theorem dX9_mostAlike_36 : decode cX9_mostAlike 36 = .ok (.invokestatic 126, 3) := by decide +kernel
theorem dX9_mostAlike_39 : decode cX9_mostAlike 39 = .ok (.ifCond .eq 23, 3) := by decide +kernel
theorem dX9_mostAlike_42 : decode cX9_mostAlike 42 = .ok (.aload_n 0, 1) := by decide +kernel
theorem dX9_mostAlike_43 : decode cX9_mostAlike 43 = .ok (.getfield 42, 3) := by decide +kernel
theorem dX9_mostAlike_46 : decode cX9_mostAlike 46 = .ok (.iload_n 3, 1) := by decide +kernel
theorem dX9_mostAlike_47 : decode cX9_mostAlike 47 = .ok (.iaload, 1) := by decide +kernel
theorem dX9_mostAlike_48 : decode cX9_mostAlike 48 = .ok (.aload_n 0, 1) := by decide +kernel
theorem dX9_mostAlike_49 : decode cX9_mostAlike 49 = .ok (.getfield 42, 3) := by decide +kernel
theorem dX9_mostAlike_52 : decode cX9_mostAlike 52 = .ok (.iload 5, 2) := by decide +kernel
theorem dX9_mostAlike_54 : decode cX9_mostAlike 54 = .ok (.iaload, 1) := by decide +kernel
theorem dX9_mostAlike_55 : decode cX9_mostAlike 55 = .ok (.if_icmp .ne 7, 3) := by decide +kernel
theorem dX9_mostAlike_58 : decode cX9_mostAlike 58 = .ok (.iconst 1, 1) := by decide +kernel
theorem dX9_mostAlike_59 : decode cX9_mostAlike 59 = .ok (.goto 4, 3) := by decide +kernel
theorem dX9_mostAlike_62 : decode cX9_mostAlike 62 = .ok (.iconst 0, 1) := by decide +kernel
theorem dX9_mostAlike_63 : decode cX9_mostAlike 63 = .ok (.iadd, 1) := by decide +kernel
theorem dX9_mostAlike_64 : decode cX9_mostAlike 64 = .ok (.istore 4, 2) := by decide +kernel
theorem dX9_mostAlike_66 : decode cX9_mostAlike 66 = .ok (.iinc 5 1, 3) := by decide +kernel
theorem dX9_mostAlike_69 : decode cX9_mostAlike 69 = .ok (.goto (-53), 3) := by decide +kernel
theorem dX9_mostAlike_72 : decode cX9_mostAlike 72 = .ok (.iload 4, 2) := by decide +kernel
theorem dX9_mostAlike_74 : decode cX9_mostAlike 74 = .ok (.iload_n 2, 1) := by decide +kernel
theorem dX9_mostAlike_75 : decode cX9_mostAlike 75 = .ok (.if_icmp .le 8, 3) := by decide +kernel
theorem dX9_mostAlike_78 : decode cX9_mostAlike 78 = .ok (.iload 4, 2) := by decide +kernel
theorem dX9_mostAlike_80 : decode cX9_mostAlike 80 = .ok (.goto 4, 3) := by decide +kernel
theorem dX9_mostAlike_83 : decode cX9_mostAlike 83 = .ok (.iload_n 2, 1) := by decide +kernel
theorem dX9_mostAlike_84 : decode cX9_mostAlike 84 = .ok (.istore_n 2, 1) := by decide +kernel
theorem dX9_mostAlike_85 : decode cX9_mostAlike 85 = .ok (.iinc 3 1, 3) := by decide +kernel
theorem dX9_mostAlike_88 : decode cX9_mostAlike 88 = .ok (.goto (-84), 3) := by decide +kernel
theorem dX9_mostAlike_91 : decode cX9_mostAlike 91 = .ok (.iload_n 2, 1) := by decide +kernel
theorem dX9_mostAlike_92 : decode cX9_mostAlike 92 = .ok (.ireturn, 1) := by decide +kernel
set_option maxRecDepth 20000 in
theorem ggX9_look_X9_isFlitch : GoodIn wsX9_look wsX9_isFlitch := goodIn_r _ [7, 2, 8, 9, 6, 10, 30, 31, 32, 33, 34, 35, 36, 37, 38, 39, 40, 41, 42, 43, 44, 45, 46, 47] (by decide +kernel) (by decide +kernel)
set_option maxRecDepth 20000 in
theorem gX9_look_X9_isFlitch : GoodIn wsX9_look (wsV RX9 160 RX9 yX9_isFlitch wsX9_isFlitch) := goodIn_app (goodIn_of _ (by decide +kernel)) ggX9_look_X9_isFlitch
set_option maxRecDepth 20000 in
theorem ggX9_look_X9_refuse : GoodIn wsX9_look wsX9_refuse := goodIn_r _ [14, 15, 30, 31, 32, 33, 34, 35, 36, 37, 38, 39, 40, 41, 42, 43, 44, 45, 46, 47] (by decide +kernel) (by decide +kernel)
set_option maxRecDepth 20000 in
theorem gX9_look_X9_refuse : GoodIn wsX9_look (wsV RX9 45 RX9 yX9_refuse wsX9_refuse) := goodIn_app (goodIn_of _ (by decide +kernel)) ggX9_look_X9_refuse
set_option maxRecDepth 20000 in
theorem ggX9_look_X9_sortsOf : GoodIn wsX9_look wsX9_sortsOf := goodIn_r _ [19, 2, 20, 21, 6, 22, 30, 31, 32, 33, 34, 35, 36, 37, 38, 39, 40, 41, 42, 43, 44, 45, 46, 47] (by decide +kernel) (by decide +kernel)
set_option maxRecDepth 20000 in
theorem gX9_look_X9_sortsOf : GoodIn wsX9_look (wsV RX9 221 RX9 yX9_sortsOf wsX9_sortsOf) := goodIn_app (goodIn_of _ (by decide +kernel)) ggX9_look_X9_sortsOf
set_option maxRecDepth 20000 in
theorem ggX9_look_X9_smellBy : GoodIn wsX9_look wsX9_smellBy := goodIn_r _ [22] (by decide +kernel) (by decide +kernel)
set_option maxRecDepth 20000 in
theorem gX9_look_X9_smellBy : GoodIn wsX9_look (va_wsS RX9 133 yX9_smellBy wsX9_smellBy) := goodIn_app (goodIn_of _ (by decide +kernel)) ggX9_look_X9_smellBy
set_option maxRecDepth 20000 in
theorem ggX9_look_X9_mostAlike : GoodIn wsX9_look wsX9_mostAlike := goodIn_r _ [26, 1, 27, 28, 6, 29, 30, 31, 32, 33, 34, 35, 36, 37, 38, 39, 40, 41, 42, 43, 44, 45, 46, 47] (by decide +kernel) (by decide +kernel)
set_option maxRecDepth 20000 in
theorem gX9_look_X9_mostAlike : GoodIn wsX9_look (wsV RX9 224 RX9 yX9_mostAlike wsX9_mostAlike) := goodIn_app (goodIn_of _ (by decide +kernel)) ggX9_look_X9_mostAlike
theorem dX9_look_0 : decode cX9_look 0 = .ok (.aload_n 0, 1) := by decide +kernel
theorem dX9_look_1 : decode cX9_look 1 = .ok (.iload_n 1, 1) := by decide +kernel
theorem dX9_look_2 : decode cX9_look 2 = .ok (.invokevirtual 160, 3) := by decide +kernel
theorem dX9_look_5 : decode cX9_look 5 = .ok (.ifCond .ne 10, 3) := by decide +kernel
theorem dX9_look_8 : decode cX9_look 8 = .ok (.aload_n 0, 1) := by decide +kernel
theorem dX9_look_9 : decode cX9_look 9 = .ok (.bipush (-2), 2) := by decide +kernel
theorem dX9_look_11 : decode cX9_look 11 = .ok (.invokevirtual 45, 3) := by decide +kernel
theorem dX9_look_14 : decode cX9_look 14 = .ok (.ireturn, 1) := by decide +kernel
theorem dX9_look_15 : decode cX9_look 15 = .ok (.aload_n 0, 1) := by decide +kernel
theorem dX9_look_16 : decode cX9_look 16 = .ok (.iload_n 1, 1) := by decide +kernel
theorem dX9_look_17 : decode cX9_look 17 = .ok (.invokevirtual 221, 3) := by decide +kernel
theorem dX9_look_20 : decode cX9_look 20 = .ok (.istore_n 2, 1) := by decide +kernel
theorem dX9_look_21 : decode cX9_look 21 = .ok (.iconst (-1), 1) := by decide +kernel
theorem dX9_look_22 : decode cX9_look 22 = .ok (.istore_n 3, 1) := by decide +kernel
theorem dX9_look_23 : decode cX9_look 23 = .ok (.bipush 99, 2) := by decide +kernel
theorem dX9_look_25 : decode cX9_look 25 = .ok (.istore 4, 2) := by decide +kernel
theorem dX9_look_27 : decode cX9_look 27 = .ok (.iconst 0, 1) := by decide +kernel
theorem dX9_look_28 : decode cX9_look 28 = .ok (.istore 5, 2) := by decide +kernel
theorem dX9_look_30 : decode cX9_look 30 = .ok (.iload 5, 2) := by decide +kernel
theorem dX9_look_32 : decode cX9_look 32 = .ok (.bipush 18, 2) := by decide +kernel
theorem dX9_look_34 : decode cX9_look 34 = .ok (.if_icmp .ge 105, 3) := by decide +kernel
theorem dX9_look_37 : decode cX9_look 37 = .ok (.iload_n 2, 1) := by decide +kernel
theorem dX9_look_38 : decode cX9_look 38 = .ok (.ifCond .eq 101, 3) := by decide +kernel
theorem dX9_look_41 : decode cX9_look 41 = .ok (.iconst 0, 1) := by decide +kernel
theorem dX9_look_42 : decode cX9_look 42 = .ok (.istore 6, 2) := by decide +kernel
theorem dX9_look_44 : decode cX9_look 44 = .ok (.iload 6, 2) := by decide +kernel
theorem dX9_look_46 : decode cX9_look 46 = .ok (.bipush 6, 2) := by decide +kernel
theorem dX9_look_48 : decode cX9_look 48 = .ok (.if_icmp .ge 38, 3) := by decide +kernel
theorem dX9_look_51 : decode cX9_look 51 = .ok (.aload_n 0, 1) := by decide +kernel
theorem dX9_look_52 : decode cX9_look 52 = .ok (.getfield 42, 3) := by decide +kernel
theorem dX9_look_55 : decode cX9_look 55 = .ok (.iload 6, 2) := by decide +kernel
theorem dX9_look_57 : decode cX9_look 57 = .ok (.iload 6, 2) := by decide +kernel
theorem dX9_look_59 : decode cX9_look 59 = .ok (.aload_n 0, 1) := by decide +kernel
theorem dX9_look_60 : decode cX9_look 60 = .ok (.getfield 7, 3) := by decide +kernel
theorem dX9_look_63 : decode cX9_look 63 = .ok (.bipush 24, 2) := by decide +kernel
theorem dX9_look_65 : decode cX9_look 65 = .ok (.iload_n 1, 1) := by decide +kernel
theorem dX9_look_66 : decode cX9_look 66 = .ok (.iadd, 1) := by decide +kernel
theorem dX9_look_67 : decode cX9_look 67 = .ok (.iaload, 1) := by decide +kernel
theorem dX9_look_68 : decode cX9_look 68 = .ok (.iload 5, 2) := by decide +kernel
theorem dX9_look_70 : decode cX9_look 70 = .ok (.iconst 2, 1) := by decide +kernel
theorem dX9_look_71 : decode cX9_look 71 = .ok (.idiv, 1) := by decide +kernel
theorem dX9_look_72 : decode cX9_look 72 = .ok (.iload 5, 2) := by decide +kernel
theorem dX9_look_74 : decode cX9_look 74 = .ok (.iconst 2, 1) := by decide +kernel
theorem dX9_look_75 : decode cX9_look 75 = .ok (.irem, 1) := by decide +kernel
theorem dX9_look_76 : decode cX9_look 76 = .ok (.invokestatic 133, 3) := by decide +kernel
theorem dX9_look_79 : decode cX9_look 79 = .ok (.iastore, 1) := by decide +kernel
theorem dX9_look_80 : decode cX9_look 80 = .ok (.iinc 6 1, 3) := by decide +kernel
theorem dX9_look_83 : decode cX9_look 83 = .ok (.goto (-39), 3) := by decide +kernel
theorem dX9_look_86 : decode cX9_look 86 = .ok (.aload_n 0, 1) := by decide +kernel
theorem dX9_look_87 : decode cX9_look 87 = .ok (.iload_n 2, 1) := by decide +kernel
theorem dX9_look_88 : decode cX9_look 88 = .ok (.invokevirtual 224, 3) := by decide +kernel
theorem dX9_look_91 : decode cX9_look 91 = .ok (.istore 6, 2) := by decide +kernel
theorem dX9_look_93 : decode cX9_look 93 = .ok (.iload 6, 2) := by decide +kernel
theorem dX9_look_95 : decode cX9_look 95 = .ok (.iload 4, 2) := by decide +kernel
theorem dX9_look_97 : decode cX9_look 97 = .ok (.if_icmp .ge 18, 3) := by decide +kernel
theorem dX9_look_100 : decode cX9_look 100 = .ok (.bipush 10, 2) := by decide +kernel
theorem dX9_look_102 : decode cX9_look 102 = .ok (.iload 5, 2) := by decide +kernel
theorem dX9_look_104 : decode cX9_look 104 = .ok (.iconst 2, 1) := by decide +kernel
theorem dX9_look_105 : decode cX9_look 105 = .ok (.idiv, 1) := by decide +kernel
theorem dX9_look_106 : decode cX9_look 106 = .ok (.imul, 1) := by decide +kernel
theorem dX9_look_107 : decode cX9_look 107 = .ok (.iload 5, 2) := by decide +kernel
theorem dX9_look_109 : decode cX9_look 109 = .ok (.iconst 2, 1) := by decide +kernel
theorem dX9_look_110 : decode cX9_look 110 = .ok (.irem, 1) := by decide +kernel
theorem dX9_look_111 : decode cX9_look 111 = .ok (.iadd, 1) := by decide +kernel
theorem dX9_look_112 : decode cX9_look 112 = .ok (.goto 4, 3) := by decide +kernel
theorem dX9_look_115 : decode cX9_look 115 = .ok (.iload_n 3, 1) := by decide +kernel
theorem dX9_look_116 : decode cX9_look 116 = .ok (.istore_n 3, 1) := by decide +kernel
theorem dX9_look_117 : decode cX9_look 117 = .ok (.iload 6, 2) := by decide +kernel
theorem dX9_look_119 : decode cX9_look 119 = .ok (.iload 4, 2) := by decide +kernel
theorem dX9_look_121 : decode cX9_look 121 = .ok (.if_icmp .ge 8, 3) := by decide +kernel
theorem dX9_look_124 : decode cX9_look 124 = .ok (.iload 6, 2) := by decide +kernel
theorem dX9_look_126 : decode cX9_look 126 = .ok (.goto 5, 3) := by decide +kernel
theorem dX9_look_129 : decode cX9_look 129 = .ok (.iload 4, 2) := by decide +kernel
theorem dX9_look_131 : decode cX9_look 131 = .ok (.istore 4, 2) := by decide +kernel
theorem dX9_look_133 : decode cX9_look 133 = .ok (.iinc 5 1, 3) := by decide +kernel
theorem dX9_look_136 : decode cX9_look 136 = .ok (.goto (-106), 3) := by decide +kernel
theorem dX9_look_139 : decode cX9_look 139 = .ok (.iload_n 3, 1) := by decide +kernel
theorem dX9_look_140 : decode cX9_look 140 = .ok (.ireturn, 1) := by decide +kernel
set_option maxRecDepth 20000 in
theorem ggX9_kindsOf_X9_takesBy : GoodIn wsX9_kindsOf wsX9_takesBy := goodIn_r _ [5] (by decide +kernel) (by decide +kernel)
set_option maxRecDepth 20000 in
theorem gX9_kindsOf_X9_takesBy : GoodIn wsX9_kindsOf (va_wsS RX9 141 yX9_takesBy wsX9_takesBy) := goodIn_app (goodIn_of _ (by decide +kernel)) ggX9_kindsOf_X9_takesBy
theorem dX9_kindsOf_0 : decode cX9_kindsOf 0 = .ok (.bipush 63, 2) := by decide +kernel
theorem dX9_kindsOf_2 : decode cX9_kindsOf 2 = .ok (.istore_n 2, 1) := by decide +kernel
theorem dX9_kindsOf_3 : decode cX9_kindsOf 3 = .ok (.bipush 90, 2) := by decide +kernel
theorem dX9_kindsOf_5 : decode cX9_kindsOf 5 = .ok (.istore_n 3, 1) := by decide +kernel
theorem dX9_kindsOf_6 : decode cX9_kindsOf 6 = .ok (.iload_n 3, 1) := by decide +kernel
theorem dX9_kindsOf_7 : decode cX9_kindsOf 7 = .ok (.bipush 90, 2) := by decide +kernel
theorem dX9_kindsOf_9 : decode cX9_kindsOf 9 = .ok (.iconst 4, 1) := by decide +kernel
theorem dX9_kindsOf_10 : decode cX9_kindsOf 10 = .ok (.aload_n 0, 1) := by decide +kernel
theorem dX9_kindsOf_11 : decode cX9_kindsOf 11 = .ok (.getfield 7, 3) := by decide +kernel
theorem dX9_kindsOf_14 : decode cX9_kindsOf 14 = .ok (.bipush 89, 2) := by decide +kernel
theorem dX9_kindsOf_16 : decode cX9_kindsOf 16 = .ok (.iaload, 1) := by decide +kernel
theorem dX9_kindsOf_17 : decode cX9_kindsOf 17 = .ok (.imul, 1) := by decide +kernel
theorem dX9_kindsOf_18 : decode cX9_kindsOf 18 = .ok (.iadd, 1) := by decide +kernel
theorem dX9_kindsOf_19 : decode cX9_kindsOf 19 = .ok (.if_icmp .ge 93, 3) := by decide +kernel
theorem dX9_kindsOf_22 : decode cX9_kindsOf 22 = .ok (.iconst 0, 1) := by decide +kernel
theorem dX9_kindsOf_23 : decode cX9_kindsOf 23 = .ok (.istore 4, 2) := by decide +kernel
theorem dX9_kindsOf_25 : decode cX9_kindsOf 25 = .ok (.iload 4, 2) := by decide +kernel
theorem dX9_kindsOf_27 : decode cX9_kindsOf 27 = .ok (.bipush 6, 2) := by decide +kernel
theorem dX9_kindsOf_29 : decode cX9_kindsOf 29 = .ok (.if_icmp .ge 77, 3) := by decide +kernel
theorem dX9_kindsOf_32 : decode cX9_kindsOf 32 = .ok (.aload_n 0, 1) := by decide +kernel
theorem dX9_kindsOf_33 : decode cX9_kindsOf 33 = .ok (.getfield 7, 3) := by decide +kernel
theorem dX9_kindsOf_36 : decode cX9_kindsOf 36 = .ok (.iload_n 3, 1) := by decide +kernel
theorem dX9_kindsOf_37 : decode cX9_kindsOf 37 = .ok (.iaload, 1) := by decide +kernel
theorem dX9_kindsOf_38 : decode cX9_kindsOf 38 = .ok (.iload_n 1, 1) := by decide +kernel
theorem dX9_kindsOf_39 : decode cX9_kindsOf 39 = .ok (.if_icmp .ne 35, 3) := by decide +kernel
theorem dX9_kindsOf_42 : decode cX9_kindsOf 42 = .ok (.iload 4, 2) := by decide +kernel
theorem dX9_kindsOf_44 : decode cX9_kindsOf 44 = .ok (.aload_n 0, 1) := by decide +kernel
theorem dX9_kindsOf_45 : decode cX9_kindsOf 45 = .ok (.getfield 7, 3) := by decide +kernel
theorem dX9_kindsOf_48 : decode cX9_kindsOf 48 = .ok (.iload_n 3, 1) := by decide +kernel
theorem dX9_kindsOf_49 : decode cX9_kindsOf 49 = .ok (.iconst 1, 1) := by decide +kernel
theorem dX9_kindsOf_50 : decode cX9_kindsOf 50 = .ok (.iadd, 1) := by decide +kernel
theorem dX9_kindsOf_51 : decode cX9_kindsOf 51 = .ok (.iaload, 1) := by decide +kernel
theorem dX9_kindsOf_52 : decode cX9_kindsOf 52 = .ok (.aload_n 0, 1) := by decide +kernel
theorem dX9_kindsOf_53 : decode cX9_kindsOf 53 = .ok (.getfield 7, 3) := by decide +kernel
theorem dX9_kindsOf_56 : decode cX9_kindsOf 56 = .ok (.iload_n 3, 1) := by decide +kernel
theorem dX9_kindsOf_57 : decode cX9_kindsOf 57 = .ok (.iconst 2, 1) := by decide +kernel
theorem dX9_kindsOf_58 : decode cX9_kindsOf 58 = .ok (.iadd, 1) := by decide +kernel
theorem dX9_kindsOf_59 : decode cX9_kindsOf 59 = .ok (.iaload, 1) := by decide +kernel
theorem dX9_kindsOf_60 : decode cX9_kindsOf 60 = .ok (.invokestatic 141, 3) := by decide +kernel
theorem dX9_kindsOf_63 : decode cX9_kindsOf 63 = .ok (.aload_n 0, 1) := by decide +kernel
theorem dX9_kindsOf_64 : decode cX9_kindsOf 64 = .ok (.getfield 7, 3) := by decide +kernel
theorem dX9_kindsOf_67 : decode cX9_kindsOf 67 = .ok (.iload_n 3, 1) := by decide +kernel
theorem dX9_kindsOf_68 : decode cX9_kindsOf 68 = .ok (.iconst 3, 1) := by decide +kernel
theorem dX9_kindsOf_69 : decode cX9_kindsOf 69 = .ok (.iadd, 1) := by decide +kernel
theorem dX9_kindsOf_70 : decode cX9_kindsOf 70 = .ok (.iaload, 1) := by decide +kernel
theorem dX9_kindsOf_71 : decode cX9_kindsOf 71 = .ok (.if_icmp .ne 7, 3) := by decide +kernel
theorem dX9_kindsOf_74 : decode cX9_kindsOf 74 = .ok (.iconst 1, 1) := by decide +kernel
theorem dX9_kindsOf_75 : decode cX9_kindsOf 75 = .ok (.goto 4, 3) := by decide +kernel
theorem dX9_kindsOf_78 : decode cX9_kindsOf 78 = .ok (.iconst 0, 1) := by decide +kernel
theorem dX9_kindsOf_79 : decode cX9_kindsOf 79 = .ok (.istore 5, 2) := by decide +kernel
theorem dX9_kindsOf_81 : decode cX9_kindsOf 81 = .ok (.iload_n 2, 1) := by decide +kernel
theorem dX9_kindsOf_82 : decode cX9_kindsOf 82 = .ok (.iload 5, 2) := by decide +kernel
theorem dX9_kindsOf_84 : decode cX9_kindsOf 84 = .ok (.ifCond .eq 8, 3) := by decide +kernel
theorem dX9_kindsOf_87 : decode cX9_kindsOf 87 = .ok (.bipush 63, 2) := by decide +kernel
theorem dX9_kindsOf_89 : decode cX9_kindsOf 89 = .ok (.goto 9, 3) := by decide +kernel
theorem dX9_kindsOf_92 : decode cX9_kindsOf 92 = .ok (.iconst 1, 1) := by decide +kernel
theorem dX9_kindsOf_93 : decode cX9_kindsOf 93 = .ok (.iload 4, 2) := by decide +kernel
theorem dX9_kindsOf_95 : decode cX9_kindsOf 95 = .ok (.ishl, 1) := by decide +kernel
theorem dX9_kindsOf_96 : decode cX9_kindsOf 96 = .ok (.iconst (-1), 1) := by decide +kernel
theorem dX9_kindsOf_97 : decode cX9_kindsOf 97 = .ok (.ixor, 1) := by decide +kernel
theorem dX9_kindsOf_98 : decode cX9_kindsOf 98 = .ok (.iand, 1) := by decide +kernel
theorem dX9_kindsOf_99 : decode cX9_kindsOf 99 = .ok (.istore_n 2, 1) := by decide +kernel
theorem dX9_kindsOf_100 : decode cX9_kindsOf 100 = .ok (.iinc 4 1, 3) := by decide +kernel
theorem dX9_kindsOf_103 : decode cX9_kindsOf 103 = .ok (.goto (-78), 3) := by decide +kernel
theorem dX9_kindsOf_106 : decode cX9_kindsOf 106 = .ok (.iinc 3 4, 3) := by decide +kernel
theorem dX9_kindsOf_109 : decode cX9_kindsOf 109 = .ok (.goto (-103), 3) := by decide +kernel
theorem dX9_kindsOf_112 : decode cX9_kindsOf 112 = .ok (.iload_n 2, 1) := by decide +kernel
theorem dX9_kindsOf_113 : decode cX9_kindsOf 113 = .ok (.ireturn, 1) := by decide +kernel
set_option maxRecDepth 20000 in
theorem ggX9_kinds_X9_isFamily : GoodIn wsX9_kinds wsX9_isFamily := goodIn_r _ [5, 6, 7, 8, 4, 9, 22, 23, 24, 25, 26, 27, 28, 29, 30, 31, 32, 33, 34, 35, 36, 37, 38, 39] (by decide +kernel) (by decide +kernel)
set_option maxRecDepth 20000 in
theorem gX9_kinds_X9_isFamily : GoodIn wsX9_kinds (wsV RX9 157 RX9 yX9_isFamily wsX9_isFamily) := goodIn_app (goodIn_of _ (by decide +kernel)) ggX9_kinds_X9_isFamily
set_option maxRecDepth 20000 in
theorem ggX9_kinds_X9_kindsOf : GoodIn wsX9_kinds wsX9_kindsOf := goodIn_r _ [13, 6, 14, 15, 4, 16, 22, 23, 24, 25, 26, 27, 28, 29, 30, 31, 32, 33, 34, 35, 36, 37, 38, 39] (by decide +kernel) (by decide +kernel)
set_option maxRecDepth 20000 in
theorem gX9_kinds_X9_kindsOf : GoodIn wsX9_kinds (wsV RX9 227 RX9 yX9_kindsOf wsX9_kindsOf) := goodIn_app (goodIn_of _ (by decide +kernel)) ggX9_kinds_X9_kindsOf
set_option maxRecDepth 20000 in
theorem ggX9_kinds_X9_refuse : GoodIn wsX9_kinds wsX9_refuse := goodIn_r _ [20, 21, 22, 23, 24, 25, 26, 27, 28, 29, 30, 31, 32, 33, 34, 35, 36, 37, 38, 39] (by decide +kernel) (by decide +kernel)
set_option maxRecDepth 20000 in
theorem gX9_kinds_X9_refuse : GoodIn wsX9_kinds (wsV RX9 45 RX9 yX9_refuse wsX9_refuse) := goodIn_app (goodIn_of _ (by decide +kernel)) ggX9_kinds_X9_refuse
theorem dX9_kinds_0 : decode cX9_kinds 0 = .ok (.aload_n 0, 1) := by decide +kernel
theorem dX9_kinds_1 : decode cX9_kinds 1 = .ok (.iload_n 1, 1) := by decide +kernel
theorem dX9_kinds_2 : decode cX9_kinds 2 = .ok (.invokevirtual 157, 3) := by decide +kernel
theorem dX9_kinds_5 : decode cX9_kinds 5 = .ok (.ifCond .eq 11, 3) := by decide +kernel
theorem dX9_kinds_8 : decode cX9_kinds 8 = .ok (.aload_n 0, 1) := by decide +kernel
theorem dX9_kinds_9 : decode cX9_kinds 9 = .ok (.iload_n 1, 1) := by decide +kernel
theorem dX9_kinds_10 : decode cX9_kinds 10 = .ok (.invokevirtual 227, 3) := by decide +kernel
theorem dX9_kinds_13 : decode cX9_kinds 13 = .ok (.goto 9, 3) := by decide +kernel
theorem dX9_kinds_16 : decode cX9_kinds 16 = .ok (.aload_n 0, 1) := by decide +kernel
theorem dX9_kinds_17 : decode cX9_kinds 17 = .ok (.bipush (-2), 2) := by decide +kernel
theorem dX9_kinds_19 : decode cX9_kinds 19 = .ok (.invokevirtual 45, 3) := by decide +kernel
theorem dX9_kinds_22 : decode cX9_kinds 22 = .ok (.ireturn, 1) := by decide +kernel
set_option maxRecDepth 20000 in
theorem ggX9_ask_X9_isFamily : GoodIn wsX9_ask wsX9_isFamily := goodIn_r _ [6, 7, 8, 9, 5, 10, 30, 31, 32, 33, 34, 35, 36, 37, 38, 39, 40, 41, 42, 43, 44, 45, 46, 47] (by decide +kernel) (by decide +kernel)
set_option maxRecDepth 20000 in
theorem gX9_ask_X9_isFamily : GoodIn wsX9_ask (wsV RX9 157 RX9 yX9_isFamily wsX9_isFamily) := goodIn_app (goodIn_of _ (by decide +kernel)) ggX9_ask_X9_isFamily
set_option maxRecDepth 20000 in
theorem ggX9_ask_X9_refuse : GoodIn wsX9_ask wsX9_refuse := goodIn_r _ [14, 15, 30, 31, 32, 33, 34, 35, 36, 37, 38, 39, 40, 41, 42, 43, 44, 45, 46, 47] (by decide +kernel) (by decide +kernel)
set_option maxRecDepth 20000 in
theorem gX9_ask_X9_refuse : GoodIn wsX9_ask (wsV RX9 45 RX9 yX9_refuse wsX9_refuse) := goodIn_app (goodIn_of _ (by decide +kernel)) ggX9_ask_X9_refuse
set_option maxRecDepth 20000 in
theorem ggX9_ask_X9_kindsOf : GoodIn wsX9_ask wsX9_kindsOf := goodIn_r _ [19, 7, 20, 21, 5, 22, 30, 31, 32, 33, 34, 35, 36, 37, 38, 39, 40, 41, 42, 43, 44, 45, 46, 47] (by decide +kernel) (by decide +kernel)
set_option maxRecDepth 20000 in
theorem gX9_ask_X9_kindsOf : GoodIn wsX9_ask (wsV RX9 227 RX9 yX9_kindsOf wsX9_kindsOf) := goodIn_app (goodIn_of _ (by decide +kernel)) ggX9_ask_X9_kindsOf
set_option maxRecDepth 20000 in
theorem ggX9_ask_X9_takesBy : GoodIn wsX9_ask wsX9_takesBy := goodIn_r _ [22] (by decide +kernel) (by decide +kernel)
set_option maxRecDepth 20000 in
theorem gX9_ask_X9_takesBy : GoodIn wsX9_ask (va_wsS RX9 141 yX9_takesBy wsX9_takesBy) := goodIn_app (goodIn_of _ (by decide +kernel)) ggX9_ask_X9_takesBy
set_option maxRecDepth 20000 in
theorem ggX9_ask_X9_mostAlike : GoodIn wsX9_ask wsX9_mostAlike := goodIn_r _ [26, 1, 27, 28, 5, 29, 30, 31, 32, 33, 34, 35, 36, 37, 38, 39, 40, 41, 42, 43, 44, 45, 46, 47] (by decide +kernel) (by decide +kernel)
set_option maxRecDepth 20000 in
theorem gX9_ask_X9_mostAlike : GoodIn wsX9_ask (wsV RX9 224 RX9 yX9_mostAlike wsX9_mostAlike) := goodIn_app (goodIn_of _ (by decide +kernel)) ggX9_ask_X9_mostAlike
theorem dX9_ask_0 : decode cX9_ask 0 = .ok (.aload_n 0, 1) := by decide +kernel
theorem dX9_ask_1 : decode cX9_ask 1 = .ok (.iload_n 1, 1) := by decide +kernel
theorem dX9_ask_2 : decode cX9_ask 2 = .ok (.invokevirtual 157, 3) := by decide +kernel
theorem dX9_ask_5 : decode cX9_ask 5 = .ok (.ifCond .ne 10, 3) := by decide +kernel
theorem dX9_ask_8 : decode cX9_ask 8 = .ok (.aload_n 0, 1) := by decide +kernel
theorem dX9_ask_9 : decode cX9_ask 9 = .ok (.bipush (-2), 2) := by decide +kernel
theorem dX9_ask_11 : decode cX9_ask 11 = .ok (.invokevirtual 45, 3) := by decide +kernel
theorem dX9_ask_14 : decode cX9_ask 14 = .ok (.ireturn, 1) := by decide +kernel
theorem dX9_ask_15 : decode cX9_ask 15 = .ok (.aload_n 0, 1) := by decide +kernel
theorem dX9_ask_16 : decode cX9_ask 16 = .ok (.iload_n 1, 1) := by decide +kernel
theorem dX9_ask_17 : decode cX9_ask 17 = .ok (.invokevirtual 227, 3) := by decide +kernel
theorem dX9_ask_20 : decode cX9_ask 20 = .ok (.istore_n 2, 1) := by decide +kernel
theorem dX9_ask_21 : decode cX9_ask 21 = .ok (.iconst (-1), 1) := by decide +kernel
theorem dX9_ask_22 : decode cX9_ask 22 = .ok (.istore_n 3, 1) := by decide +kernel
theorem dX9_ask_23 : decode cX9_ask 23 = .ok (.bipush 99, 2) := by decide +kernel
theorem dX9_ask_25 : decode cX9_ask 25 = .ok (.istore 4, 2) := by decide +kernel
theorem dX9_ask_27 : decode cX9_ask 27 = .ok (.iconst 0, 1) := by decide +kernel
theorem dX9_ask_28 : decode cX9_ask 28 = .ok (.istore 5, 2) := by decide +kernel
theorem dX9_ask_30 : decode cX9_ask 30 = .ok (.iload 5, 2) := by decide +kernel
theorem dX9_ask_32 : decode cX9_ask 32 = .ok (.bipush 122, 2) := by decide +kernel
theorem dX9_ask_34 : decode cX9_ask 34 = .ok (.if_icmp .ge 100, 3) := by decide +kernel
theorem dX9_ask_37 : decode cX9_ask 37 = .ok (.iload_n 2, 1) := by decide +kernel
theorem dX9_ask_38 : decode cX9_ask 38 = .ok (.ifCond .eq 96, 3) := by decide +kernel
theorem dX9_ask_41 : decode cX9_ask 41 = .ok (.iconst 0, 1) := by decide +kernel
theorem dX9_ask_42 : decode cX9_ask 42 = .ok (.istore 6, 2) := by decide +kernel
theorem dX9_ask_44 : decode cX9_ask 44 = .ok (.iload 6, 2) := by decide +kernel
theorem dX9_ask_46 : decode cX9_ask 46 = .ok (.bipush 6, 2) := by decide +kernel
theorem dX9_ask_48 : decode cX9_ask 48 = .ok (.if_icmp .ge 31, 3) := by decide +kernel
theorem dX9_ask_51 : decode cX9_ask 51 = .ok (.aload_n 0, 1) := by decide +kernel
theorem dX9_ask_52 : decode cX9_ask 52 = .ok (.getfield 42, 3) := by decide +kernel
theorem dX9_ask_55 : decode cX9_ask 55 = .ok (.iload 6, 2) := by decide +kernel
theorem dX9_ask_57 : decode cX9_ask 57 = .ok (.iload 6, 2) := by decide +kernel
theorem dX9_ask_59 : decode cX9_ask 59 = .ok (.iload 5, 2) := by decide +kernel
theorem dX9_ask_61 : decode cX9_ask 61 = .ok (.bipush 61, 2) := by decide +kernel
theorem dX9_ask_63 : decode cX9_ask 63 = .ok (.irem, 1) := by decide +kernel
theorem dX9_ask_64 : decode cX9_ask 64 = .ok (.iload 5, 2) := by decide +kernel
theorem dX9_ask_66 : decode cX9_ask 66 = .ok (.bipush 61, 2) := by decide +kernel
theorem dX9_ask_68 : decode cX9_ask 68 = .ok (.idiv, 1) := by decide +kernel
theorem dX9_ask_69 : decode cX9_ask 69 = .ok (.invokestatic 141, 3) := by decide +kernel
theorem dX9_ask_72 : decode cX9_ask 72 = .ok (.iastore, 1) := by decide +kernel
theorem dX9_ask_73 : decode cX9_ask 73 = .ok (.iinc 6 1, 3) := by decide +kernel
theorem dX9_ask_76 : decode cX9_ask 76 = .ok (.goto (-32), 3) := by decide +kernel
theorem dX9_ask_79 : decode cX9_ask 79 = .ok (.aload_n 0, 1) := by decide +kernel
theorem dX9_ask_80 : decode cX9_ask 80 = .ok (.iload_n 2, 1) := by decide +kernel
theorem dX9_ask_81 : decode cX9_ask 81 = .ok (.invokevirtual 224, 3) := by decide +kernel
theorem dX9_ask_84 : decode cX9_ask 84 = .ok (.istore 6, 2) := by decide +kernel
theorem dX9_ask_86 : decode cX9_ask 86 = .ok (.iload 6, 2) := by decide +kernel
theorem dX9_ask_88 : decode cX9_ask 88 = .ok (.iload 4, 2) := by decide +kernel
theorem dX9_ask_90 : decode cX9_ask 90 = .ok (.if_icmp .ge 20, 3) := by decide +kernel
theorem dX9_ask_93 : decode cX9_ask 93 = .ok (.bipush 100, 2) := by decide +kernel
theorem dX9_ask_95 : decode cX9_ask 95 = .ok (.iload 5, 2) := by decide +kernel
theorem dX9_ask_97 : decode cX9_ask 97 = .ok (.bipush 61, 2) := by decide +kernel
theorem dX9_ask_99 : decode cX9_ask 99 = .ok (.idiv, 1) := by decide +kernel
theorem dX9_ask_100 : decode cX9_ask 100 = .ok (.imul, 1) := by decide +kernel
theorem dX9_ask_101 : decode cX9_ask 101 = .ok (.iload 5, 2) := by decide +kernel
theorem dX9_ask_103 : decode cX9_ask 103 = .ok (.bipush 61, 2) := by decide +kernel
theorem dX9_ask_105 : decode cX9_ask 105 = .ok (.irem, 1) := by decide +kernel
theorem dX9_ask_106 : decode cX9_ask 106 = .ok (.iadd, 1) := by decide +kernel
theorem dX9_ask_107 : decode cX9_ask 107 = .ok (.goto 4, 3) := by decide +kernel
theorem dX9_ask_110 : decode cX9_ask 110 = .ok (.iload_n 3, 1) := by decide +kernel
theorem dX9_ask_111 : decode cX9_ask 111 = .ok (.istore_n 3, 1) := by decide +kernel
theorem dX9_ask_112 : decode cX9_ask 112 = .ok (.iload 6, 2) := by decide +kernel
theorem dX9_ask_114 : decode cX9_ask 114 = .ok (.iload 4, 2) := by decide +kernel
theorem dX9_ask_116 : decode cX9_ask 116 = .ok (.if_icmp .ge 8, 3) := by decide +kernel
theorem dX9_ask_119 : decode cX9_ask 119 = .ok (.iload 6, 2) := by decide +kernel
theorem dX9_ask_121 : decode cX9_ask 121 = .ok (.goto 5, 3) := by decide +kernel
theorem dX9_ask_124 : decode cX9_ask 124 = .ok (.iload 4, 2) := by decide +kernel
theorem dX9_ask_126 : decode cX9_ask 126 = .ok (.istore 4, 2) := by decide +kernel
theorem dX9_ask_128 : decode cX9_ask 128 = .ok (.iinc 5 1, 3) := by decide +kernel
theorem dX9_ask_131 : decode cX9_ask 131 = .ok (.goto (-101), 3) := by decide +kernel
theorem dX9_ask_134 : decode cX9_ask 134 = .ok (.iload_n 3, 1) := by decide +kernel
theorem dX9_ask_135 : decode cX9_ask 135 = .ok (.ireturn, 1) := by decide +kernel
set_option maxRecDepth 20000 in
theorem ggX9_gets_X9_takesToday : GoodIn wsX9_gets wsX9_takesToday := goodIn_r _ [6, 1, 7, 8, 5, 9, 10, 11, 12, 13, 14, 15, 16, 17, 18, 19, 20, 21, 22, 23, 24, 25, 26, 27, 28, 29, 30, 31, 32, 33, 34, 35, 36, 37, 38, 39, 40, 41, 42, 43] (by decide +kernel) (by decide +kernel)
set_option maxRecDepth 20000 in
theorem gX9_gets_X9_takesToday : GoodIn wsX9_gets (wsV RX9 163 RX9 yX9_takesToday wsX9_takesToday) := goodIn_app (goodIn_of _ (by decide +kernel)) ggX9_gets_X9_takesToday
theorem dX9_gets_0 : decode cX9_gets 0 = .ok (.iload_n 2, 1) := by decide +kernel
theorem dX9_gets_1 : decode cX9_gets 1 = .ok (.ifCond .eq 24, 3) := by decide +kernel
theorem dX9_gets_4 : decode cX9_gets 4 = .ok (.iload_n 3, 1) := by decide +kernel
theorem dX9_gets_5 : decode cX9_gets 5 = .ok (.ifCond .eq 20, 3) := by decide +kernel
theorem dX9_gets_8 : decode cX9_gets 8 = .ok (.aload_n 0, 1) := by decide +kernel
theorem dX9_gets_9 : decode cX9_gets 9 = .ok (.getfield 7, 3) := by decide +kernel
theorem dX9_gets_12 : decode cX9_gets 12 = .ok (.iconst 0, 1) := by decide +kernel
theorem dX9_gets_13 : decode cX9_gets 13 = .ok (.iload_n 1, 1) := by decide +kernel
theorem dX9_gets_14 : decode cX9_gets 14 = .ok (.iadd, 1) := by decide +kernel
theorem dX9_gets_15 : decode cX9_gets 15 = .ok (.iaload, 1) := by decide +kernel
theorem dX9_gets_16 : decode cX9_gets 16 = .ok (.aload_n 0, 1) := by decide +kernel
theorem dX9_gets_17 : decode cX9_gets 17 = .ok (.iload_n 1, 1) := by decide +kernel
theorem dX9_gets_18 : decode cX9_gets 18 = .ok (.invokevirtual 163, 3) := by decide +kernel
theorem dX9_gets_21 : decode cX9_gets 21 = .ok (.isub, 1) := by decide +kernel
theorem dX9_gets_22 : decode cX9_gets 22 = .ok (.goto 23, 3) := by decide +kernel
theorem dX9_gets_25 : decode cX9_gets 25 = .ok (.iload_n 2, 1) := by decide +kernel
theorem dX9_gets_26 : decode cX9_gets 26 = .ok (.ifCond .eq 8, 3) := by decide +kernel
theorem dX9_gets_29 : decode cX9_gets 29 = .ok (.bipush 20, 2) := by decide +kernel
theorem dX9_gets_31 : decode cX9_gets 31 = .ok (.goto 14, 3) := by decide +kernel
theorem dX9_gets_34 : decode cX9_gets 34 = .ok (.iload_n 3, 1) := by decide +kernel
theorem dX9_gets_35 : decode cX9_gets 35 = .ok (.ifCond .eq 8, 3) := by decide +kernel
theorem dX9_gets_38 : decode cX9_gets 38 = .ok (.bipush 9, 2) := by decide +kernel
theorem dX9_gets_40 : decode cX9_gets 40 = .ok (.goto 5, 3) := by decide +kernel
theorem dX9_gets_43 : decode cX9_gets 43 = .ok (.bipush 12, 2) := by decide +kernel
theorem dX9_gets_45 : decode cX9_gets 45 = .ok (.ireturn, 1) := by decide +kernel
set_option maxRecDepth 20000 in
theorem ggX9_brothers_X9_isFamily : GoodIn wsX9_brothers wsX9_isFamily := goodIn_r _ [6, 1, 7, 8, 5, 9, 42, 43, 44, 45, 46, 47, 48, 49, 50, 51, 52, 53, 54, 55, 56, 57, 58, 59] (by decide +kernel) (by decide +kernel)
set_option maxRecDepth 20000 in
theorem gX9_brothers_X9_isFamily : GoodIn wsX9_brothers (wsV RX9 157 RX9 yX9_isFamily wsX9_isFamily) := goodIn_app (goodIn_of _ (by decide +kernel)) ggX9_brothers_X9_isFamily
set_option maxRecDepth 20000 in
theorem ggX9_brothers_X9_refuse : GoodIn wsX9_brothers wsX9_refuse := goodIn_r _ [13, 14, 42, 43, 44, 45, 46, 47, 48, 49, 50, 51, 52, 53, 54, 55, 56, 57, 58, 59] (by decide +kernel) (by decide +kernel)
set_option maxRecDepth 20000 in
theorem gX9_brothers_X9_refuse : GoodIn wsX9_brothers (wsV RX9 45 RX9 yX9_refuse wsX9_refuse) := goodIn_app (goodIn_of _ (by decide +kernel)) ggX9_brothers_X9_refuse
set_option maxRecDepth 20000 in
theorem ggX9_brothers_X9_has : GoodIn wsX9_brothers wsX9_has := goodIn_r _ [17] (by decide +kernel) (by decide +kernel)
set_option maxRecDepth 20000 in
theorem gX9_brothers_X9_has : GoodIn wsX9_brothers (va_wsS RX9 126 yX9_has wsX9_has) := goodIn_app (goodIn_of _ (by decide +kernel)) ggX9_brothers_X9_has
set_option maxRecDepth 20000 in
theorem ggX9_brothers_X9_gets : GoodIn wsX9_brothers wsX9_gets := goodIn_r _ [21, 1, 22, 23, 24, 5, 25, 15, 16, 17, 26, 27, 28, 29, 30, 31, 32, 33, 34, 35, 36, 37, 38, 39, 40, 41, 42, 43, 44, 45, 46, 47, 48, 49, 50, 51, 52, 53, 54, 55, 56, 57, 58, 59] (by decide +kernel) (by decide +kernel)
set_option maxRecDepth 20000 in
theorem gX9_brothers_X9_gets : GoodIn wsX9_brothers (wsV RX9 230 RX9 yX9_gets wsX9_gets) := goodIn_app (goodIn_of _ (by decide +kernel)) ggX9_brothers_X9_gets
theorem dX9_brothers_0 : decode cX9_brothers 0 = .ok (.aload_n 0, 1) := by decide +kernel
theorem dX9_brothers_1 : decode cX9_brothers 1 = .ok (.iload_n 1, 1) := by decide +kernel
theorem dX9_brothers_2 : decode cX9_brothers 2 = .ok (.invokevirtual 157, 3) := by decide +kernel
theorem dX9_brothers_5 : decode cX9_brothers 5 = .ok (.ifCond .eq 11, 3) := by decide +kernel
theorem dX9_brothers_8 : decode cX9_brothers 8 = .ok (.aload_n 0, 1) := by decide +kernel
theorem dX9_brothers_9 : decode cX9_brothers 9 = .ok (.iload_n 2, 1) := by decide +kernel
theorem dX9_brothers_10 : decode cX9_brothers 10 = .ok (.invokevirtual 157, 3) := by decide +kernel
theorem dX9_brothers_13 : decode cX9_brothers 13 = .ok (.ifCond .ne 10, 3) := by decide +kernel
theorem dX9_brothers_16 : decode cX9_brothers 16 = .ok (.aload_n 0, 1) := by decide +kernel
theorem dX9_brothers_17 : decode cX9_brothers 17 = .ok (.bipush (-2), 2) := by decide +kernel
theorem dX9_brothers_19 : decode cX9_brothers 19 = .ok (.invokevirtual 45, 3) := by decide +kernel
theorem dX9_brothers_22 : decode cX9_brothers 22 = .ok (.ireturn, 1) := by decide +kernel
theorem dX9_brothers_23 : decode cX9_brothers 23 = .ok (.aload_n 0, 1) := by decide +kernel
theorem dX9_brothers_24 : decode cX9_brothers 24 = .ok (.getfield 7, 3) := by decide +kernel
theorem dX9_brothers_27 : decode cX9_brothers 27 = .ok (.bipush 35, 2) := by decide +kernel
theorem dX9_brothers_29 : decode cX9_brothers 29 = .ok (.iload_n 1, 1) := by decide +kernel
theorem dX9_brothers_30 : decode cX9_brothers 30 = .ok (.iadd, 1) := by decide +kernel
theorem dX9_brothers_31 : decode cX9_brothers 31 = .ok (.iaload, 1) := by decide +kernel
theorem dX9_brothers_32 : decode cX9_brothers 32 = .ok (.aload_n 0, 1) := by decide +kernel
theorem dX9_brothers_33 : decode cX9_brothers 33 = .ok (.getfield 7, 3) := by decide +kernel
theorem dX9_brothers_36 : decode cX9_brothers 36 = .ok (.bipush 35, 2) := by decide +kernel
theorem dX9_brothers_38 : decode cX9_brothers 38 = .ok (.iload_n 2, 1) := by decide +kernel
theorem dX9_brothers_39 : decode cX9_brothers 39 = .ok (.iadd, 1) := by decide +kernel
theorem dX9_brothers_40 : decode cX9_brothers 40 = .ok (.iaload, 1) := by decide +kernel
theorem dX9_brothers_41 : decode cX9_brothers 41 = .ok (.if_icmp .eq 31, 3) := by decide +kernel
theorem dX9_brothers_44 : decode cX9_brothers 44 = .ok (.aload_n 0, 1) := by decide +kernel
theorem dX9_brothers_45 : decode cX9_brothers 45 = .ok (.getfield 7, 3) := by decide +kernel
theorem dX9_brothers_48 : decode cX9_brothers 48 = .ok (.bipush 7, 2) := by decide +kernel
theorem dX9_brothers_50 : decode cX9_brothers 50 = .ok (.iaload, 1) := by decide +kernel
theorem dX9_brothers_51 : decode cX9_brothers 51 = .ok (.iload_n 1, 1) := by decide +kernel
theorem dX9_brothers_52 : decode cX9_brothers 52 = .ok (.invokestatic 126, 3) := by decide +kernel
theorem dX9_brothers_55 : decode cX9_brothers 55 = .ok (.ifCond .ne 17, 3) := by decide +kernel
theorem dX9_brothers_58 : decode cX9_brothers 58 = .ok (.aload_n 0, 1) := by decide +kernel
theorem dX9_brothers_59 : decode cX9_brothers 59 = .ok (.getfield 7, 3) := by decide +kernel
theorem dX9_brothers_62 : decode cX9_brothers 62 = .ok (.bipush 7, 2) := by decide +kernel
theorem dX9_brothers_64 : decode cX9_brothers 64 = .ok (.iaload, 1) := by decide +kernel
theorem dX9_brothers_65 : decode cX9_brothers 65 = .ok (.iload_n 2, 1) := by decide +kernel
theorem dX9_brothers_66 : decode cX9_brothers 66 = .ok (.invokestatic 126, 3) := by decide +kernel
theorem dX9_brothers_69 : decode cX9_brothers 69 = .ok (.ifCond .eq 10, 3) := by decide +kernel
theorem dX9_brothers_72 : decode cX9_brothers 72 = .ok (.aload_n 0, 1) := by decide +kernel
theorem dX9_brothers_73 : decode cX9_brothers 73 = .ok (.bipush (-3), 2) := by decide +kernel
theorem dX9_brothers_75 : decode cX9_brothers 75 = .ok (.invokevirtual 45, 3) := by decide +kernel
theorem dX9_brothers_78 : decode cX9_brothers 78 = .ok (.ireturn, 1) := by decide +kernel
theorem dX9_brothers_79 : decode cX9_brothers 79 = .ok (.iconst 0, 1) := by decide +kernel
theorem dX9_brothers_80 : decode cX9_brothers 80 = .ok (.istore_n 3, 1) := by decide +kernel
theorem dX9_brothers_81 : decode cX9_brothers 81 = .ok (.iconst 0, 1) := by decide +kernel
theorem dX9_brothers_82 : decode cX9_brothers 82 = .ok (.istore 4, 2) := by decide +kernel
theorem dX9_brothers_84 : decode cX9_brothers 84 = .ok (.iload 4, 2) := by decide +kernel
theorem dX9_brothers_86 : decode cX9_brothers 86 = .ok (.iconst 4, 1) := by decide +kernel
theorem dX9_brothers_87 : decode cX9_brothers 87 = .ok (.if_icmp .ge 106, 3) := by decide +kernel
theorem dX9_brothers_90 : decode cX9_brothers 90 = .ok (.iload 4, 2) := by decide +kernel
theorem dX9_brothers_92 : decode cX9_brothers 92 = .ok (.iconst 0, 1) := by decide +kernel
theorem dX9_brothers_93 : decode cX9_brothers 93 = .ok (.invokestatic 126, 3) := by decide +kernel
theorem dX9_brothers_96 : decode cX9_brothers 96 = .ok (.istore 5, 2) := by decide +kernel
theorem dX9_brothers_98 : decode cX9_brothers 98 = .ok (.iload 4, 2) := by decide +kernel
theorem dX9_brothers_100 : decode cX9_brothers 100 = .ok (.iconst 1, 1) := by decide +kernel
theorem dX9_brothers_101 : decode cX9_brothers 101 = .ok (.invokestatic 126, 3) := by decide +kernel
theorem dX9_brothers_104 : decode cX9_brothers 104 = .ok (.istore 6, 2) := by decide +kernel
theorem dX9_brothers_106 : decode cX9_brothers 106 = .ok (.aload_n 0, 1) := by decide +kernel
theorem dX9_brothers_107 : decode cX9_brothers 107 = .ok (.iload_n 1, 1) := by decide +kernel
theorem dX9_brothers_108 : decode cX9_brothers 108 = .ok (.iload 5, 2) := by decide +kernel
theorem dX9_brothers_110 : decode cX9_brothers 110 = .ok (.iload 6, 2) := by decide +kernel
theorem dX9_brothers_112 : decode cX9_brothers 112 = .ok (.invokevirtual 230, 3) := by decide +kernel
theorem dX9_brothers_115 : decode cX9_brothers 115 = .ok (.aload_n 0, 1) := by decide +kernel
theorem dX9_brothers_116 : decode cX9_brothers 116 = .ok (.iload_n 1, 1) := by decide +kernel
theorem dX9_brothers_117 : decode cX9_brothers 117 = .ok (.iload 5, 2) := by decide +kernel
theorem dX9_brothers_119 : decode cX9_brothers 119 = .ok (.ifCond .ne 7, 3) := by decide +kernel
theorem dX9_brothers_122 : decode cX9_brothers 122 = .ok (.iconst 1, 1) := by decide +kernel
theorem dX9_brothers_123 : decode cX9_brothers 123 = .ok (.goto 4, 3) := by decide +kernel
theorem dX9_brothers_126 : decode cX9_brothers 126 = .ok (.iconst 0, 1) := by decide +kernel
theorem dX9_brothers_127 : decode cX9_brothers 127 = .ok (.iload 6, 2) := by decide +kernel
theorem dX9_brothers_129 : decode cX9_brothers 129 = .ok (.invokevirtual 230, 3) := by decide +kernel
theorem dX9_brothers_132 : decode cX9_brothers 132 = .ok (.if_icmp .lt 36, 3) := by decide +kernel
theorem dX9_brothers_135 : decode cX9_brothers 135 = .ok (.aload_n 0, 1) := by decide +kernel
theorem dX9_brothers_136 : decode cX9_brothers 136 = .ok (.iload_n 2, 1) := by decide +kernel
theorem dX9_brothers_137 : decode cX9_brothers 137 = .ok (.iload 6, 2) := by decide +kernel
theorem dX9_brothers_139 : decode cX9_brothers 139 = .ok (.iload 5, 2) := by decide +kernel
theorem dX9_brothers_141 : decode cX9_brothers 141 = .ok (.invokevirtual 230, 3) := by decide +kernel
theorem dX9_brothers_144 : decode cX9_brothers 144 = .ok (.aload_n 0, 1) := by decide +kernel
theorem dX9_brothers_145 : decode cX9_brothers 145 = .ok (.iload_n 2, 1) := by decide +kernel
theorem dX9_brothers_146 : decode cX9_brothers 146 = .ok (.iload 6, 2) := by decide +kernel
theorem dX9_brothers_148 : decode cX9_brothers 148 = .ok (.ifCond .ne 7, 3) := by decide +kernel
theorem dX9_brothers_151 : decode cX9_brothers 151 = .ok (.iconst 1, 1) := by decide +kernel
theorem dX9_brothers_152 : decode cX9_brothers 152 = .ok (.goto 4, 3) := by decide +kernel
theorem dX9_brothers_155 : decode cX9_brothers 155 = .ok (.iconst 0, 1) := by decide +kernel
theorem dX9_brothers_156 : decode cX9_brothers 156 = .ok (.iload 5, 2) := by decide +kernel
theorem dX9_brothers_158 : decode cX9_brothers 158 = .ok (.invokevirtual 230, 3) := by decide +kernel
theorem dX9_brothers_161 : decode cX9_brothers 161 = .ok (.if_icmp .lt 7, 3) := by decide +kernel
theorem dX9_brothers_164 : decode cX9_brothers 164 = .ok (.iconst 1, 1) := by decide +kernel
theorem dX9_brothers_165 : decode cX9_brothers 165 = .ok (.goto 4, 3) := by decide +kernel
theorem dX9_brothers_168 : decode cX9_brothers 168 = .ok (.iconst 0, 1) := by decide +kernel
theorem dX9_brothers_169 : decode cX9_brothers 169 = .ok (.istore 7, 2) := by decide +kernel
theorem dX9_brothers_171 : decode cX9_brothers 171 = .ok (.iload_n 3, 1) := by decide +kernel
theorem dX9_brothers_172 : decode cX9_brothers 172 = .ok (.iload 7, 2) := by decide +kernel
theorem dX9_brothers_174 : decode cX9_brothers 174 = .ok (.ifCond .eq 10, 3) := by decide +kernel
theorem dX9_brothers_177 : decode cX9_brothers 177 = .ok (.iconst 1, 1) := by decide +kernel
theorem dX9_brothers_178 : decode cX9_brothers 178 = .ok (.iload 4, 2) := by decide +kernel
theorem dX9_brothers_180 : decode cX9_brothers 180 = .ok (.ishl, 1) := by decide +kernel
theorem dX9_brothers_181 : decode cX9_brothers 181 = .ok (.goto 4, 3) := by decide +kernel
theorem dX9_brothers_184 : decode cX9_brothers 184 = .ok (.iconst 0, 1) := by decide +kernel
theorem dX9_brothers_185 : decode cX9_brothers 185 = .ok (.ior, 1) := by decide +kernel
theorem dX9_brothers_186 : decode cX9_brothers 186 = .ok (.istore_n 3, 1) := by decide +kernel
theorem dX9_brothers_187 : decode cX9_brothers 187 = .ok (.iinc 4 1, 3) := by decide +kernel
theorem dX9_brothers_190 : decode cX9_brothers 190 = .ok (.goto (-106), 3) := by decide +kernel
theorem dX9_brothers_193 : decode cX9_brothers 193 = .ok (.iload_n 3, 1) := by decide +kernel
theorem dX9_brothers_194 : decode cX9_brothers 194 = .ok (.ireturn, 1) := by decide +kernel
theorem dX9_tellPart_0 : decode cX9_tellPart 0 = .ok (.lload_n 1, 1) := by decide +kernel
theorem dX9_tellPart_1 : decode cX9_tellPart 1 = .ok (.lstore 5, 2) := by decide +kernel
theorem dX9_tellPart_3 : decode cX9_tellPart 3 = .ok (.lload_n 3, 1) := by decide +kernel
theorem dX9_tellPart_4 : decode cX9_tellPart 4 = .ok (.lstore 7, 2) := by decide +kernel
theorem dX9_tellPart_6 : decode cX9_tellPart 6 = .ok (.lload 7, 2) := by decide +kernel
theorem dX9_tellPart_8 : decode cX9_tellPart 8 = .ok (.lconst 0, 1) := by decide +kernel
theorem dX9_tellPart_9 : decode cX9_tellPart 9 = .ok (.lcmp, 1) := by decide +kernel
theorem dX9_tellPart_10 : decode cX9_tellPart 10 = .ok (.ifCond .eq 21, 3) := by decide +kernel
theorem dX9_tellPart_13 : decode cX9_tellPart 13 = .ok (.lload 5, 2) := by decide +kernel
theorem dX9_tellPart_15 : decode cX9_tellPart 15 = .ok (.lload 7, 2) := by decide +kernel
theorem dX9_tellPart_17 : decode cX9_tellPart 17 = .ok (.lrem, 1) := by decide +kernel
theorem dX9_tellPart_18 : decode cX9_tellPart 18 = .ok (.lstore 9, 2) := by decide +kernel
theorem dX9_tellPart_20 : decode cX9_tellPart 20 = .ok (.lload 7, 2) := by decide +kernel
theorem dX9_tellPart_22 : decode cX9_tellPart 22 = .ok (.lstore 5, 2) := by decide +kernel
theorem dX9_tellPart_24 : decode cX9_tellPart 24 = .ok (.lload 9, 2) := by decide +kernel
theorem dX9_tellPart_26 : decode cX9_tellPart 26 = .ok (.lstore 7, 2) := by decide +kernel
theorem dX9_tellPart_28 : decode cX9_tellPart 28 = .ok (.goto (-22), 3) := by decide +kernel
theorem dX9_tellPart_31 : decode cX9_tellPart 31 = .ok (.aload_n 0, 1) := by decide +kernel
theorem dX9_tellPart_32 : decode cX9_tellPart 32 = .ok (.lload_n 1, 1) := by decide +kernel
theorem dX9_tellPart_33 : decode cX9_tellPart 33 = .ok (.lload 5, 2) := by decide +kernel
theorem dX9_tellPart_35 : decode cX9_tellPart 35 = .ok (.ldiv, 1) := by decide +kernel
theorem dX9_tellPart_36 : decode cX9_tellPart 36 = .ok (.putfield 234, 3) := by decide +kernel
theorem dX9_tellPart_39 : decode cX9_tellPart 39 = .ok (.aload_n 0, 1) := by decide +kernel
theorem dX9_tellPart_40 : decode cX9_tellPart 40 = .ok (.lload_n 3, 1) := by decide +kernel
theorem dX9_tellPart_41 : decode cX9_tellPart 41 = .ok (.lload 5, 2) := by decide +kernel
theorem dX9_tellPart_43 : decode cX9_tellPart 43 = .ok (.ldiv, 1) := by decide +kernel
theorem dX9_tellPart_44 : decode cX9_tellPart 44 = .ok (.putfield 20, 3) := by decide +kernel
theorem dX9_tellPart_47 : decode cX9_tellPart 47 = .ok (.return_, 1) := by decide +kernel
set_option maxRecDepth 20000 in
theorem ggX9_mornings_X9_isFamily : GoodIn wsX9_mornings wsX9_isFamily := goodIn_r _ [6, 1, 7, 8, 5, 9, 52, 53, 54, 55, 56, 57, 58, 59, 60, 61, 62, 63, 64, 65, 66, 67, 68, 69] (by decide +kernel) (by decide +kernel)
set_option maxRecDepth 20000 in
theorem gX9_mornings_X9_isFamily : GoodIn wsX9_mornings (wsV RX9 157 RX9 yX9_isFamily wsX9_isFamily) := goodIn_app (goodIn_of _ (by decide +kernel)) ggX9_mornings_X9_isFamily
set_option maxRecDepth 20000 in
theorem ggX9_mornings_X9_in : GoodIn wsX9_mornings wsX9_in := goodIn_r _ [9] (by decide +kernel) (by decide +kernel)
set_option maxRecDepth 20000 in
theorem gX9_mornings_X9_in : GoodIn wsX9_mornings (va_wsS RX9 52 yX9_in wsX9_in) := goodIn_app (goodIn_of _ (by decide +kernel)) ggX9_mornings_X9_in
set_option maxRecDepth 20000 in
theorem ggX9_mornings_X9_refuse : GoodIn wsX9_mornings wsX9_refuse := goodIn_r _ [13, 14, 52, 53, 54, 55, 56, 57, 58, 59, 60, 61, 62, 63, 64, 65, 66, 67, 68, 69] (by decide +kernel) (by decide +kernel)
set_option maxRecDepth 20000 in
theorem gX9_mornings_X9_refuse : GoodIn wsX9_mornings (wsV RX9 45 RX9 yX9_refuse wsX9_refuse) := goodIn_app (goodIn_of _ (by decide +kernel)) ggX9_mornings_X9_refuse
set_option maxRecDepth 20000 in
theorem ggX9_mornings_X9_layTried : GoodIn wsX9_mornings wsX9_layTried := goodIn_r _ [18, 1, 52, 53, 54, 55, 56, 57, 58, 59, 60, 61, 62, 63, 64, 65, 66, 67, 68, 69] (by decide +kernel) (by decide +kernel)
set_option maxRecDepth 20000 in
theorem gX9_mornings_X9_layTried : GoodIn wsX9_mornings (wsV RX9 172 RX9 yX9_layTried wsX9_layTried) := goodIn_app (goodIn_of _ (by decide +kernel)) ggX9_mornings_X9_layTried
set_option maxRecDepth 20000 in
theorem ggX9_mornings_X9_has : GoodIn wsX9_mornings wsX9_has := goodIn_r _ [21] (by decide +kernel) (by decide +kernel)
set_option maxRecDepth 20000 in
theorem gX9_mornings_X9_has : GoodIn wsX9_mornings (va_wsS RX9 126 yX9_has wsX9_has) := goodIn_app (goodIn_of _ (by decide +kernel)) ggX9_mornings_X9_has
set_option maxRecDepth 20000 in
theorem ggX9_mornings_X9_passes : GoodIn wsX9_mornings wsX9_passes := goodIn_r _ [25, 1, 19, 20, 5, 21, 26, 27, 28, 29, 30, 31, 32, 33, 34, 35, 36, 37, 38, 39, 40, 41, 42, 43, 44, 45, 52, 53, 54, 55, 56, 57, 58, 59, 60, 61, 62, 63, 64, 65, 66, 67, 68, 69] (by decide +kernel) (by decide +kernel)
set_option maxRecDepth 20000 in
theorem gX9_mornings_X9_passes : GoodIn wsX9_mornings (wsV RX9 147 RX9 yX9_passes wsX9_passes) := goodIn_app (goodIn_of _ (by decide +kernel)) ggX9_mornings_X9_passes
set_option maxRecDepth 20000 in
theorem ggX9_mornings_X9_tellPart : GoodIn wsX9_mornings wsX9_tellPart := goodIn_r _ [49, 50, 51, 52, 53, 54, 55, 56, 57, 58, 59, 60, 61, 62, 63, 64, 65, 66, 67, 68, 69] (by decide +kernel) (by decide +kernel)
set_option maxRecDepth 20000 in
theorem gX9_mornings_X9_tellPart : GoodIn wsX9_mornings (wsV RX9 237 RX9 yX9_tellPart wsX9_tellPart) := goodIn_app (goodIn_of _ (by decide +kernel)) ggX9_mornings_X9_tellPart
theorem dX9_mornings_0 : decode cX9_mornings 0 = .ok (.aload_n 0, 1) := by decide +kernel
theorem dX9_mornings_1 : decode cX9_mornings 1 = .ok (.iload_n 1, 1) := by decide +kernel
theorem dX9_mornings_2 : decode cX9_mornings 2 = .ok (.invokevirtual 157, 3) := by decide +kernel
theorem dX9_mornings_5 : decode cX9_mornings 5 = .ok (.ifCond .eq 23, 3) := by decide +kernel
theorem dX9_mornings_8 : decode cX9_mornings 8 = .ok (.iload_n 2, 1) := by decide +kernel
theorem dX9_mornings_9 : decode cX9_mornings 9 = .ok (.iconst 0, 1) := by decide +kernel
theorem dX9_mornings_10 : decode cX9_mornings 10 = .ok (.bipush 6, 2) := by decide +kernel
theorem dX9_mornings_12 : decode cX9_mornings 12 = .ok (.invokestatic 52, 3) := by decide +kernel
theorem dX9_mornings_15 : decode cX9_mornings 15 = .ok (.ifCond .eq 13, 3) := by decide +kernel
theorem dX9_mornings_18 : decode cX9_mornings 18 = .ok (.iload_n 3, 1) := by decide +kernel
theorem dX9_mornings_19 : decode cX9_mornings 19 = .ok (.iconst 0, 1) := by decide +kernel
theorem dX9_mornings_20 : decode cX9_mornings 20 = .ok (.bipush 10, 2) := by decide +kernel
theorem dX9_mornings_22 : decode cX9_mornings 22 = .ok (.invokestatic 52, 3) := by decide +kernel
theorem dX9_mornings_25 : decode cX9_mornings 25 = .ok (.ifCond .ne 10, 3) := by decide +kernel
theorem dX9_mornings_28 : decode cX9_mornings 28 = .ok (.aload_n 0, 1) := by decide +kernel
theorem dX9_mornings_29 : decode cX9_mornings 29 = .ok (.bipush (-2), 2) := by decide +kernel
theorem dX9_mornings_31 : decode cX9_mornings 31 = .ok (.invokevirtual 45, 3) := by decide +kernel
theorem dX9_mornings_34 : decode cX9_mornings 34 = .ok (.ireturn, 1) := by decide +kernel
theorem dX9_mornings_35 : decode cX9_mornings 35 = .ok (.lconst 0, 1) := by decide +kernel
theorem dX9_mornings_36 : decode cX9_mornings 36 = .ok (.lstore 4, 2) := by decide +kernel
theorem dX9_mornings_38 : decode cX9_mornings 38 = .ok (.lconst 0, 1) := by decide +kernel
theorem dX9_mornings_39 : decode cX9_mornings 39 = .ok (.lstore 6, 2) := by decide +kernel
theorem dX9_mornings_41 : decode cX9_mornings 41 = .ok (.iconst 0, 1) := by decide +kernel
theorem dX9_mornings_42 : decode cX9_mornings 42 = .ok (.istore 8, 2) := by decide +kernel
theorem dX9_mornings_44 : decode cX9_mornings 44 = .ok (.iload 8, 2) := by decide +kernel
theorem dX9_mornings_46 : decode cX9_mornings 46 = .ok (.iconst 1, 1) := by decide +kernel
theorem dX9_mornings_47 : decode cX9_mornings 47 = .ok (.iload_n 2, 1) := by decide +kernel
theorem dX9_mornings_48 : decode cX9_mornings 48 = .ok (.ishl, 1) := by decide +kernel
theorem dX9_mornings_49 : decode cX9_mornings 49 = .ok (.if_icmp .ge 103, 3) := by decide +kernel
theorem dX9_mornings_52 : decode cX9_mornings 52 = .ok (.lconst 1, 1) := by decide +kernel
theorem dX9_mornings_53 : decode cX9_mornings 53 = .ok (.lstore 9, 2) := by decide +kernel
theorem dX9_mornings_55 : decode cX9_mornings 55 = .ok (.aload_n 0, 1) := by decide +kernel
theorem dX9_mornings_56 : decode cX9_mornings 56 = .ok (.invokevirtual 172, 3) := by decide +kernel
theorem dX9_mornings_59 : decode cX9_mornings 59 = .ok (.iconst 0, 1) := by decide +kernel
theorem dX9_mornings_60 : decode cX9_mornings 60 = .ok (.istore 11, 2) := by decide +kernel
theorem dX9_mornings_62 : decode cX9_mornings 62 = .ok (.iload 11, 2) := by decide +kernel
theorem dX9_mornings_64 : decode cX9_mornings 64 = .ok (.iload_n 2, 1) := by decide +kernel
theorem dX9_mornings_65 : decode cX9_mornings 65 = .ok (.if_icmp .ge 48, 3) := by decide +kernel
theorem dX9_mornings_68 : decode cX9_mornings 68 = .ok (.lload 9, 2) := by decide +kernel
theorem dX9_mornings_70 : decode cX9_mornings 70 = .ok (.iload 8, 2) := by decide +kernel
theorem dX9_mornings_72 : decode cX9_mornings 72 = .ok (.iload 11, 2) := by decide +kernel
theorem dX9_mornings_74 : decode cX9_mornings 74 = .ok (.invokestatic 126, 3) := by decide +kernel
theorem dX9_mornings_77 : decode cX9_mornings 77 = .ok (.ifCond .eq 8, 3) := by decide +kernel
theorem dX9_mornings_80 : decode cX9_mornings 80 = .ok (.iload_n 3, 1) := by decide +kernel
theorem dX9_mornings_81 : decode cX9_mornings 81 = .ok (.i2l, 1) := by decide +kernel
theorem dX9_mornings_82 : decode cX9_mornings 82 = .ok (.goto 8, 3) := by decide +kernel
theorem dX9_mornings_85 : decode cX9_mornings 85 = .ok (.bipush 10, 2) := by decide +kernel
theorem dX9_mornings_87 : decode cX9_mornings 87 = .ok (.iload_n 3, 1) := by decide +kernel
theorem dX9_mornings_88 : decode cX9_mornings 88 = .ok (.isub, 1) := by decide +kernel
theorem dX9_mornings_89 : decode cX9_mornings 89 = .ok (.i2l, 1) := by decide +kernel
theorem dX9_mornings_90 : decode cX9_mornings 90 = .ok (.lmul, 1) := by decide +kernel
theorem dX9_mornings_91 : decode cX9_mornings 91 = .ok (.lstore 9, 2) := by decide +kernel
theorem dX9_mornings_93 : decode cX9_mornings 93 = .ok (.aload_n 0, 1) := by decide +kernel
theorem dX9_mornings_94 : decode cX9_mornings 94 = .ok (.sipush 753, 3) := by decide +kernel
theorem dX9_mornings_97 : decode cX9_mornings 97 = .ok (.iload 8, 2) := by decide +kernel
theorem dX9_mornings_99 : decode cX9_mornings 99 = .ok (.iload 11, 2) := by decide +kernel
theorem dX9_mornings_101 : decode cX9_mornings 101 = .ok (.invokestatic 126, 3) := by decide +kernel
theorem dX9_mornings_104 : decode cX9_mornings 104 = .ok (.invokevirtual 147, 3) := by decide +kernel
theorem dX9_mornings_107 : decode cX9_mornings 107 = .ok (.iinc 11 1, 3) := by decide +kernel
theorem dX9_mornings_110 : decode cX9_mornings 110 = .ok (.goto (-48), 3) := by decide +kernel
theorem dX9_mornings_113 : decode cX9_mornings 113 = .ok (.lload 4, 2) := by decide +kernel
theorem dX9_mornings_115 : decode cX9_mornings 115 = .ok (.aload_n 0, 1) := by decide +kernel
theorem dX9_mornings_116 : decode cX9_mornings 116 = .ok (.getfield 7, 3) := by decide +kernel
theorem dX9_mornings_119 : decode cX9_mornings 119 = .ok (.sipush 760, 3) := by decide +kernel
theorem dX9_mornings_122 : decode cX9_mornings 122 = .ok (.iaload, 1) := by decide +kernel
theorem dX9_mornings_123 : decode cX9_mornings 123 = .ok (.iload_n 1, 1) := by decide +kernel
theorem dX9_mornings_124 : decode cX9_mornings 124 = .ok (.invokestatic 126, 3) := by decide +kernel
theorem dX9_mornings_127 : decode cX9_mornings 127 = .ok (.ifCond .eq 8, 3) := by decide +kernel
theorem dX9_mornings_130 : decode cX9_mornings 130 = .ok (.lload 9, 2) := by decide +kernel
theorem dX9_mornings_132 : decode cX9_mornings 132 = .ok (.goto 4, 3) := by decide +kernel
theorem dX9_mornings_135 : decode cX9_mornings 135 = .ok (.lconst 0, 1) := by decide +kernel
theorem dX9_mornings_136 : decode cX9_mornings 136 = .ok (.ladd, 1) := by decide +kernel
theorem dX9_mornings_137 : decode cX9_mornings 137 = .ok (.lstore 4, 2) := by decide +kernel
theorem dX9_mornings_139 : decode cX9_mornings 139 = .ok (.lload 6, 2) := by decide +kernel
theorem dX9_mornings_141 : decode cX9_mornings 141 = .ok (.lload 9, 2) := by decide +kernel
theorem dX9_mornings_143 : decode cX9_mornings 143 = .ok (.ladd, 1) := by decide +kernel
theorem dX9_mornings_144 : decode cX9_mornings 144 = .ok (.lstore 6, 2) := by decide +kernel
theorem dX9_mornings_146 : decode cX9_mornings 146 = .ok (.iinc 8 1, 3) := by decide +kernel
theorem dX9_mornings_149 : decode cX9_mornings 149 = .ok (.goto (-105), 3) := by decide +kernel
theorem dX9_mornings_152 : decode cX9_mornings 152 = .ok (.aload_n 0, 1) := by decide +kernel
theorem dX9_mornings_153 : decode cX9_mornings 153 = .ok (.lload 4, 2) := by decide +kernel
theorem dX9_mornings_155 : decode cX9_mornings 155 = .ok (.lload 6, 2) := by decide +kernel
theorem dX9_mornings_157 : decode cX9_mornings 157 = .ok (.invokevirtual 237, 3) := by decide +kernel
theorem dX9_mornings_160 : decode cX9_mornings 160 = .ok (.iconst 1, 1) := by decide +kernel
theorem dX9_mornings_161 : decode cX9_mornings 161 = .ok (.ireturn, 1) := by decide +kernel
set_option maxRecDepth 20000 in
theorem ggX9_years_X9_in : GoodIn wsX9_years wsX9_in := goodIn_r _ [13] (by decide +kernel) (by decide +kernel)
set_option maxRecDepth 20000 in
theorem gX9_years_X9_in : GoodIn wsX9_years (va_wsS RX9 52 yX9_in wsX9_in) := goodIn_app (goodIn_of _ (by decide +kernel)) ggX9_years_X9_in
set_option maxRecDepth 20000 in
theorem ggX9_years_X9_refuse : GoodIn wsX9_years wsX9_refuse := goodIn_r _ [17, 18, 61, 62, 63, 64, 65, 66, 67, 68, 69, 70, 71, 72, 73, 74, 75, 76, 77, 78] (by decide +kernel) (by decide +kernel)
set_option maxRecDepth 20000 in
theorem gX9_years_X9_refuse : GoodIn wsX9_years (wsV RX9 45 RX9 yX9_refuse wsX9_refuse) := goodIn_app (goodIn_of _ (by decide +kernel)) ggX9_years_X9_refuse
set_option maxRecDepth 20000 in
theorem ggX9_years_X9_layTried : GoodIn wsX9_years wsX9_layTried := goodIn_r _ [22, 7, 61, 62, 63, 64, 65, 66, 67, 68, 69, 70, 71, 72, 73, 74, 75, 76, 77, 78] (by decide +kernel) (by decide +kernel)
set_option maxRecDepth 20000 in
theorem gX9_years_X9_layTried : GoodIn wsX9_years (wsV RX9 172 RX9 yX9_layTried wsX9_layTried) := goodIn_app (goodIn_of _ (by decide +kernel)) ggX9_years_X9_layTried
set_option maxRecDepth 20000 in
theorem ggX9_years_X9_isFamily : GoodIn wsX9_years wsX9_isFamily := goodIn_r _ [26, 7, 10, 11, 12, 13, 61, 62, 63, 64, 65, 66, 67, 68, 69, 70, 71, 72, 73, 74, 75, 76, 77, 78] (by decide +kernel) (by decide +kernel)
set_option maxRecDepth 20000 in
theorem gX9_years_X9_isFamily : GoodIn wsX9_years (wsV RX9 157 RX9 yX9_isFamily wsX9_isFamily) := goodIn_app (goodIn_of _ (by decide +kernel)) ggX9_years_X9_isFamily
set_option maxRecDepth 20000 in
theorem ggX9_years_X9_passTried : GoodIn wsX9_years wsX9_passTried := goodIn_r _ [30, 31, 32, 33, 12, 34, 7, 35, 36, 37, 38, 39, 40, 41, 42, 43, 44, 45, 46, 47, 48, 49, 50, 51, 52, 53, 54, 55, 56, 57, 61, 62, 63, 64, 65, 66, 67, 68, 69, 70, 71, 72, 73, 74, 75, 76, 77, 78] (by decide +kernel) (by decide +kernel)
set_option maxRecDepth 20000 in
theorem gX9_years_X9_passTried : GoodIn wsX9_years (wsV RX9 175 RX9 yX9_passTried wsX9_passTried) := goodIn_app (goodIn_of _ (by decide +kernel)) ggX9_years_X9_passTried
set_option maxRecDepth 20000 in
theorem ggX9_years_X9_bits : GoodIn wsX9_years wsX9_bits := goodIn_r _ [60] (by decide +kernel) (by decide +kernel)
set_option maxRecDepth 20000 in
theorem gX9_years_X9_bits : GoodIn wsX9_years (va_wsS RX9 154 yX9_bits wsX9_bits) := goodIn_app (goodIn_of _ (by decide +kernel)) ggX9_years_X9_bits
theorem dX9_years_0 : decode cX9_years 0 = .ok (.iload_n 1, 1) := by decide +kernel
theorem dX9_years_1 : decode cX9_years 1 = .ok (.iconst 0, 1) := by decide +kernel
theorem dX9_years_2 : decode cX9_years 2 = .ok (.ldc 241, 2) := by decide +kernel
theorem dX9_years_4 : decode cX9_years 4 = .ok (.invokestatic 52, 3) := by decide +kernel
theorem dX9_years_7 : decode cX9_years 7 = .ok (.ifCond .eq 13, 3) := by decide +kernel
theorem dX9_years_10 : decode cX9_years 10 = .ok (.iload_n 2, 1) := by decide +kernel
theorem dX9_years_11 : decode cX9_years 11 = .ok (.iconst 0, 1) := by decide +kernel
theorem dX9_years_12 : decode cX9_years 12 = .ok (.bipush 60, 2) := by decide +kernel
theorem dX9_years_14 : decode cX9_years 14 = .ok (.invokestatic 52, 3) := by decide +kernel
theorem dX9_years_17 : decode cX9_years 17 = .ok (.ifCond .ne 10, 3) := by decide +kernel
theorem dX9_years_20 : decode cX9_years 20 = .ok (.aload_n 0, 1) := by decide +kernel
theorem dX9_years_21 : decode cX9_years 21 = .ok (.bipush (-2), 2) := by decide +kernel
theorem dX9_years_23 : decode cX9_years 23 = .ok (.invokevirtual 45, 3) := by decide +kernel
theorem dX9_years_26 : decode cX9_years 26 = .ok (.ireturn, 1) := by decide +kernel
theorem dX9_years_27 : decode cX9_years 27 = .ok (.aload_n 0, 1) := by decide +kernel
theorem dX9_years_28 : decode cX9_years 28 = .ok (.invokevirtual 172, 3) := by decide +kernel
theorem dX9_years_31 : decode cX9_years 31 = .ok (.iload_n 1, 1) := by decide +kernel
theorem dX9_years_32 : decode cX9_years 32 = .ok (.i2l, 1) := by decide +kernel
theorem dX9_years_33 : decode cX9_years 33 = .ok (.lstore_n 3, 1) := by decide +kernel
theorem dX9_years_34 : decode cX9_years 34 = .ok (.iconst 0, 1) := by decide +kernel
theorem dX9_years_35 : decode cX9_years 35 = .ok (.istore 5, 2) := by decide +kernel
theorem dX9_years_37 : decode cX9_years 37 = .ok (.iload 5, 2) := by decide +kernel
theorem dX9_years_39 : decode cX9_years 39 = .ok (.iload_n 2, 1) := by decide +kernel
theorem dX9_years_40 : decode cX9_years 40 = .ok (.if_icmp .ge 70, 3) := by decide +kernel

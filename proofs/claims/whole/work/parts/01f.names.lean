theorem dX4_become_170 : decode cX4_become 170 = .ok (.aload_n 0, 1) := by decide +kernel
theorem dX4_become_171 : decode cX4_become 171 = .ok (.aload_n 1, 1) := by decide +kernel
theorem dX4_become_172 : decode cX4_become 172 = .ok (.getfield 61, 3) := by decide +kernel
theorem dX4_become_175 : decode cX4_become 175 = .ok (.putfield 61, 3) := by decide +kernel
theorem dX4_become_178 : decode cX4_become 178 = .ok (.return_, 1) := by decide +kernel
theorem dX4_hang_0 : decode cX4_hang 0 = .ok (.aload_n 0, 1) := by decide +kernel
theorem dX4_hang_1 : decode cX4_hang 1 = .ok (.getfield 51, 3) := by decide +kernel
theorem dX4_hang_4 : decode cX4_hang 4 = .ok (.istore 4, 2) := by decide +kernel
theorem dX4_hang_6 : decode cX4_hang 6 = .ok (.aload_n 0, 1) := by decide +kernel
theorem dX4_hang_7 : decode cX4_hang 7 = .ok (.getfield 9, 3) := by decide +kernel
theorem dX4_hang_10 : decode cX4_hang 10 = .ok (.iload 4, 2) := by decide +kernel
theorem dX4_hang_12 : decode cX4_hang 12 = .ok (.iload_n 1, 1) := by decide +kernel
theorem dX4_hang_13 : decode cX4_hang 13 = .ok (.iastore, 1) := by decide +kernel
theorem dX4_hang_14 : decode cX4_hang 14 = .ok (.aload_n 0, 1) := by decide +kernel
theorem dX4_hang_15 : decode cX4_hang 15 = .ok (.getfield 15, 3) := by decide +kernel
theorem dX4_hang_18 : decode cX4_hang 18 = .ok (.iload 4, 2) := by decide +kernel
theorem dX4_hang_20 : decode cX4_hang 20 = .ok (.iload_n 2, 1) := by decide +kernel
theorem dX4_hang_21 : decode cX4_hang 21 = .ok (.iastore, 1) := by decide +kernel
theorem dX4_hang_22 : decode cX4_hang 22 = .ok (.aload_n 0, 1) := by decide +kernel
theorem dX4_hang_23 : decode cX4_hang 23 = .ok (.getfield 18, 3) := by decide +kernel
theorem dX4_hang_26 : decode cX4_hang 26 = .ok (.iload 4, 2) := by decide +kernel
theorem dX4_hang_28 : decode cX4_hang 28 = .ok (.iload_n 3, 1) := by decide +kernel
theorem dX4_hang_29 : decode cX4_hang 29 = .ok (.iastore, 1) := by decide +kernel
theorem dX4_hang_30 : decode cX4_hang 30 = .ok (.aload_n 0, 1) := by decide +kernel
theorem dX4_hang_31 : decode cX4_hang 31 = .ok (.dup, 1) := by decide +kernel
theorem dX4_hang_32 : decode cX4_hang 32 = .ok (.getfield 58, 3) := by decide +kernel
theorem dX4_hang_35 : decode cX4_hang 35 = .ok (.iconst 1, 1) := by decide +kernel
theorem dX4_hang_36 : decode cX4_hang 36 = .ok (.iload 4, 2) := by decide +kernel
theorem dX4_hang_38 : decode cX4_hang 38 = .ok (.ishl, 1) := by decide +kernel
theorem dX4_hang_39 : decode cX4_hang 39 = .ok (.ior, 1) := by decide +kernel
theorem dX4_hang_40 : decode cX4_hang 40 = .ok (.putfield 58, 3) := by decide +kernel
theorem dX4_hang_43 : decode cX4_hang 43 = .ok (.aload_n 0, 1) := by decide +kernel
theorem dX4_hang_44 : decode cX4_hang 44 = .ok (.dup, 1) := by decide +kernel
theorem dX4_hang_45 : decode cX4_hang 45 = .ok (.getfield 51, 3) := by decide +kernel
theorem dX4_hang_48 : decode cX4_hang 48 = .ok (.iconst 1, 1) := by decide +kernel
theorem dX4_hang_49 : decode cX4_hang 49 = .ok (.iadd, 1) := by decide +kernel
theorem dX4_hang_50 : decode cX4_hang 50 = .ok (.putfield 51, 3) := by decide +kernel
theorem dX4_hang_53 : decode cX4_hang 53 = .ok (.aload_n 0, 1) := by decide +kernel
theorem dX4_hang_54 : decode cX4_hang 54 = .ok (.getfield 38, 3) := by decide +kernel
theorem dX4_hang_57 : decode cX4_hang 57 = .ok (.iconst 0, 1) := by decide +kernel
theorem dX4_hang_58 : decode cX4_hang 58 = .ok (.putfield 64, 3) := by decide +kernel
theorem dX4_hang_61 : decode cX4_hang 61 = .ok (.return_, 1) := by decide +kernel
theorem dX4_settle_0 : decode cX4_settle 0 = .ok (.aload_n 0, 1) := by decide +kernel
theorem dX4_settle_1 : decode cX4_settle 1 = .ok (.getfield 55, 3) := by decide +kernel
theorem dX4_settle_4 : decode cX4_settle 4 = .ok (.istore 5, 2) := by decide +kernel
theorem dX4_settle_6 : decode cX4_settle 6 = .ok (.aload_n 0, 1) := by decide +kernel
theorem dX4_settle_7 : decode cX4_settle 7 = .ok (.getfield 21, 3) := by decide +kernel
theorem dX4_settle_10 : decode cX4_settle 10 = .ok (.iload 5, 2) := by decide +kernel
theorem dX4_settle_12 : decode cX4_settle 12 = .ok (.iload_n 1, 1) := by decide +kernel
theorem dX4_settle_13 : decode cX4_settle 13 = .ok (.iastore, 1) := by decide +kernel
theorem dX4_settle_14 : decode cX4_settle 14 = .ok (.aload_n 0, 1) := by decide +kernel
theorem dX4_settle_15 : decode cX4_settle 15 = .ok (.getfield 24, 3) := by decide +kernel
theorem dX4_settle_18 : decode cX4_settle 18 = .ok (.iload 5, 2) := by decide +kernel
theorem dX4_settle_20 : decode cX4_settle 20 = .ok (.iload_n 2, 1) := by decide +kernel
theorem dX4_settle_21 : decode cX4_settle 21 = .ok (.iastore, 1) := by decide +kernel
theorem dX4_settle_22 : decode cX4_settle 22 = .ok (.aload_n 0, 1) := by decide +kernel
theorem dX4_settle_23 : decode cX4_settle 23 = .ok (.getfield 27, 3) := by decide +kernel
theorem dX4_settle_26 : decode cX4_settle 26 = .ok (.iload 5, 2) := by decide +kernel
theorem dX4_settle_28 : decode cX4_settle 28 = .ok (.iload_n 3, 1) := by decide +kernel
theorem dX4_settle_29 : decode cX4_settle 29 = .ok (.iastore, 1) := by decide +kernel
theorem dX4_settle_30 : decode cX4_settle 30 = .ok (.aload_n 0, 1) := by decide +kernel
theorem dX4_settle_31 : decode cX4_settle 31 = .ok (.getfield 30, 3) := by decide +kernel
theorem dX4_settle_34 : decode cX4_settle 34 = .ok (.iload 5, 2) := by decide +kernel
theorem dX4_settle_36 : decode cX4_settle 36 = .ok (.iload 4, 2) := by decide +kernel
theorem dX4_settle_38 : decode cX4_settle 38 = .ok (.iastore, 1) := by decide +kernel
theorem dX4_settle_39 : decode cX4_settle 39 = .ok (.aload_n 0, 1) := by decide +kernel
theorem dX4_settle_40 : decode cX4_settle 40 = .ok (.dup, 1) := by decide +kernel
theorem dX4_settle_41 : decode cX4_settle 41 = .ok (.getfield 55, 3) := by decide +kernel
theorem dX4_settle_44 : decode cX4_settle 44 = .ok (.iconst 1, 1) := by decide +kernel
theorem dX4_settle_45 : decode cX4_settle 45 = .ok (.iadd, 1) := by decide +kernel
theorem dX4_settle_46 : decode cX4_settle 46 = .ok (.putfield 55, 3) := by decide +kernel
theorem dX4_settle_49 : decode cX4_settle 49 = .ok (.aload_n 0, 1) := by decide +kernel
theorem dX4_settle_50 : decode cX4_settle 50 = .ok (.getfield 38, 3) := by decide +kernel
theorem dX4_settle_53 : decode cX4_settle 53 = .ok (.iconst 0, 1) := by decide +kernel
theorem dX4_settle_54 : decode cX4_settle 54 = .ok (.putfield 64, 3) := by decide +kernel
theorem dX4_settle_57 : decode cX4_settle 57 = .ok (.return_, 1) := by decide +kernel
theorem dX4_turn_0 : decode cX4_turn 0 = .ok (.aload_n 0, 1) := by decide +kernel
theorem dX4_turn_1 : decode cX4_turn 1 = .ok (.dup, 1) := by decide +kernel
theorem dX4_turn_2 : decode cX4_turn 2 = .ok (.getfield 58, 3) := by decide +kernel
theorem dX4_turn_5 : decode cX4_turn 5 = .ok (.iconst 1, 1) := by decide +kernel
theorem dX4_turn_6 : decode cX4_turn 6 = .ok (.iload_n 1, 1) := by decide +kernel
theorem dX4_turn_7 : decode cX4_turn 7 = .ok (.ishl, 1) := by decide +kernel
theorem dX4_turn_8 : decode cX4_turn 8 = .ok (.ixor, 1) := by decide +kernel
theorem dX4_turn_9 : decode cX4_turn 9 = .ok (.putfield 58, 3) := by decide +kernel
theorem dX4_turn_12 : decode cX4_turn 12 = .ok (.return_, 1) := by decide +kernel
theorem dX4_hungBit_0 : decode cX4_hungBit 0 = .ok (.aload_n 0, 1) := by decide +kernel
theorem dX4_hungBit_1 : decode cX4_hungBit 1 = .ok (.getfield 58, 3) := by decide +kernel
theorem dX4_hungBit_4 : decode cX4_hungBit 4 = .ok (.iload_n 1, 1) := by decide +kernel
theorem dX4_hungBit_5 : decode cX4_hungBit 5 = .ok (.ishr, 1) := by decide +kernel
theorem dX4_hungBit_6 : decode cX4_hungBit 6 = .ok (.iconst 1, 1) := by decide +kernel
theorem dX4_hungBit_7 : decode cX4_hungBit 7 = .ok (.iand, 1) := by decide +kernel
theorem dX4_hungBit_8 : decode cX4_hungBit 8 = .ok (.ireturn, 1) := by decide +kernel
theorem dX4_hasLapsed_0 : decode cX4_hasLapsed 0 = .ok (.aload_n 0, 1) := by decide +kernel
theorem dX4_hasLapsed_1 : decode cX4_hasLapsed 1 = .ok (.getfield 30, 3) := by decide +kernel
theorem dX4_hasLapsed_4 : decode cX4_hasLapsed 4 = .ok (.iload_n 1, 1) := by decide +kernel
theorem dX4_hasLapsed_5 : decode cX4_hasLapsed 5 = .ok (.iaload, 1) := by decide +kernel
theorem dX4_hasLapsed_6 : decode cX4_hasLapsed 6 = .ok (.iconst 1, 1) := by decide +kernel
theorem dX4_hasLapsed_7 : decode cX4_hasLapsed 7 = .ok (.if_icmp .ge 7, 3) := by decide +kernel
theorem dX4_hasLapsed_10 : decode cX4_hasLapsed 10 = .ok (.iconst 1, 1) := by decide +kernel
theorem dX4_hasLapsed_11 : decode cX4_hasLapsed 11 = .ok (.goto 4, 3) := by decide +kernel
theorem dX4_hasLapsed_14 : decode cX4_hasLapsed 14 = .ok (.iconst 0, 1) := by decide +kernel
theorem dX4_hasLapsed_15 : decode cX4_hasLapsed 15 = .ok (.ireturn, 1) := by decide +kernel
set_option maxRecDepth 20000 in
theorem ggX4_lapsedCount_X4_lapsedOf : GoodIn wsX4_lapsedCount wsX4_lapsedOf := goodIn_r _ [6, 7, 8, 9, 10, 11, 12, 13, 14, 15, 16, 17, 18, 19, 20, 21, 22] (by decide +kernel) (by decide +kernel)
set_option maxRecDepth 20000 in
theorem gX4_lapsedCount_X4_lapsedOf : GoodIn wsX4_lapsedCount (wsV RX4 77 RX4 yX4_lapsedOf wsX4_lapsedOf) := goodIn_app (goodIn_of _ (by decide +kernel)) ggX4_lapsedCount_X4_lapsedOf
theorem dX4_lapsedCount_0 : decode cX4_lapsedCount 0 = .ok (.aload_n 0, 1) := by decide +kernel
theorem dX4_lapsedCount_1 : decode cX4_lapsedCount 1 = .ok (.aload_n 0, 1) := by decide +kernel
theorem dX4_lapsedCount_2 : decode cX4_lapsedCount 2 = .ok (.getfield 30, 3) := by decide +kernel
theorem dX4_lapsedCount_5 : decode cX4_lapsedCount 5 = .ok (.invokevirtual 77, 3) := by decide +kernel
theorem dX4_lapsedCount_8 : decode cX4_lapsedCount 8 = .ok (.ireturn, 1) := by decide +kernel
theorem dX4_lapsedOf_0 : decode cX4_lapsedOf 0 = .ok (.iconst 0, 1) := by decide +kernel
theorem dX4_lapsedOf_1 : decode cX4_lapsedOf 1 = .ok (.istore_n 2, 1) := by decide +kernel
theorem dX4_lapsedOf_2 : decode cX4_lapsedOf 2 = .ok (.iconst 0, 1) := by decide +kernel
theorem dX4_lapsedOf_3 : decode cX4_lapsedOf 3 = .ok (.istore_n 3, 1) := by decide +kernel
theorem dX4_lapsedOf_4 : decode cX4_lapsedOf 4 = .ok (.iload_n 3, 1) := by decide +kernel
theorem dX4_lapsedOf_5 : decode cX4_lapsedOf 5 = .ok (.aload_n 0, 1) := by decide +kernel
theorem dX4_lapsedOf_6 : decode cX4_lapsedOf 6 = .ok (.getfield 55, 3) := by decide +kernel
theorem dX4_lapsedOf_9 : decode cX4_lapsedOf 9 = .ok (.if_icmp .ge 19, 3) := by decide +kernel
theorem dX4_lapsedOf_12 : decode cX4_lapsedOf 12 = .ok (.aload_n 1, 1) := by decide +kernel
theorem dX4_lapsedOf_13 : decode cX4_lapsedOf 13 = .ok (.iload_n 3, 1) := by decide +kernel
theorem dX4_lapsedOf_14 : decode cX4_lapsedOf 14 = .ok (.iaload, 1) := by decide +kernel
theorem dX4_lapsedOf_15 : decode cX4_lapsedOf 15 = .ok (.iconst 1, 1) := by decide +kernel
theorem dX4_lapsedOf_16 : decode cX4_lapsedOf 16 = .ok (.if_icmp .ge 6, 3) := by decide +kernel
theorem dX4_lapsedOf_19 : decode cX4_lapsedOf 19 = .ok (.iinc 2 1, 3) := by decide +kernel
theorem dX4_lapsedOf_22 : decode cX4_lapsedOf 22 = .ok (.iinc 3 1, 3) := by decide +kernel
theorem dX4_lapsedOf_25 : decode cX4_lapsedOf 25 = .ok (.goto (-21), 3) := by decide +kernel
theorem dX4_lapsedOf_28 : decode cX4_lapsedOf 28 = .ok (.iload_n 2, 1) := by decide +kernel
theorem dX4_lapsedOf_29 : decode cX4_lapsedOf 29 = .ok (.ireturn, 1) := by decide +kernel
theorem dX4_willOfAll_0 : decode cX4_willOfAll 0 = .ok (.iconst 0, 1) := by decide +kernel
theorem dX4_willOfAll_1 : decode cX4_willOfAll 1 = .ok (.istore_n 1, 1) := by decide +kernel
theorem dX4_willOfAll_2 : decode cX4_willOfAll 2 = .ok (.iconst 0, 1) := by decide +kernel
theorem dX4_willOfAll_3 : decode cX4_willOfAll 3 = .ok (.istore_n 2, 1) := by decide +kernel
theorem dX4_willOfAll_4 : decode cX4_willOfAll 4 = .ok (.iload_n 2, 1) := by decide +kernel
theorem dX4_willOfAll_5 : decode cX4_willOfAll 5 = .ok (.aload_n 0, 1) := by decide +kernel
theorem dX4_willOfAll_6 : decode cX4_willOfAll 6 = .ok (.getfield 55, 3) := by decide +kernel
theorem dX4_willOfAll_9 : decode cX4_willOfAll 9 = .ok (.if_icmp .ge 18, 3) := by decide +kernel
theorem dX4_willOfAll_12 : decode cX4_willOfAll 12 = .ok (.iload_n 1, 1) := by decide +kernel
theorem dX4_willOfAll_13 : decode cX4_willOfAll 13 = .ok (.aload_n 0, 1) := by decide +kernel
theorem dX4_willOfAll_14 : decode cX4_willOfAll 14 = .ok (.getfield 30, 3) := by decide +kernel
theorem dX4_willOfAll_17 : decode cX4_willOfAll 17 = .ok (.iload_n 2, 1) := by decide +kernel
theorem dX4_willOfAll_18 : decode cX4_willOfAll 18 = .ok (.iaload, 1) := by decide +kernel
theorem dX4_willOfAll_19 : decode cX4_willOfAll 19 = .ok (.iadd, 1) := by decide +kernel
theorem dX4_willOfAll_20 : decode cX4_willOfAll 20 = .ok (.istore_n 1, 1) := by decide +kernel
theorem dX4_willOfAll_21 : decode cX4_willOfAll 21 = .ok (.iinc 2 1, 3) := by decide +kernel
theorem dX4_willOfAll_24 : decode cX4_willOfAll 24 = .ok (.goto (-20), 3) := by decide +kernel
theorem dX4_willOfAll_27 : decode cX4_willOfAll 27 = .ok (.iload_n 1, 1) := by decide +kernel
theorem dX4_willOfAll_28 : decode cX4_willOfAll 28 = .ok (.ireturn, 1) := by decide +kernel
set_option maxRecDepth 20000 in
theorem ggX4_scentAt_X3_scent : GoodIn wsX4_scentAt wsX3_scent := goodIn_r _ [12] (by decide +kernel) (by decide +kernel)
set_option maxRecDepth 20000 in
theorem gX4_scentAt_X3_scent : GoodIn wsX4_scentAt (va_wsS RX4 87 yX3_scent wsX3_scent) := goodIn_app (goodIn_of _ (by decide +kernel)) ggX4_scentAt_X3_scent
theorem dX4_scentAt_0 : decode cX4_scentAt 0 = .ok (.iconst 0, 1) := by decide +kernel
theorem dX4_scentAt_1 : decode cX4_scentAt 1 = .ok (.istore 4, 2) := by decide +kernel
theorem dX4_scentAt_3 : decode cX4_scentAt 3 = .ok (.iconst 0, 1) := by decide +kernel
theorem dX4_scentAt_4 : decode cX4_scentAt 4 = .ok (.istore 5, 2) := by decide +kernel
theorem dX4_scentAt_6 : decode cX4_scentAt 6 = .ok (.iload 5, 2) := by decide +kernel
theorem dX4_scentAt_8 : decode cX4_scentAt 8 = .ok (.aload_n 0, 1) := by decide +kernel
theorem dX4_scentAt_9 : decode cX4_scentAt 9 = .ok (.getfield 51, 3) := by decide +kernel
theorem dX4_scentAt_12 : decode cX4_scentAt 12 = .ok (.if_icmp .ge 83, 3) := by decide +kernel
theorem dX4_scentAt_15 : decode cX4_scentAt 15 = .ok (.iload_n 3, 1) := by decide +kernel
theorem dX4_scentAt_16 : decode cX4_scentAt 16 = .ok (.iload 5, 2) := by decide +kernel
theorem dX4_scentAt_18 : decode cX4_scentAt 18 = .ok (.ishr, 1) := by decide +kernel
theorem dX4_scentAt_19 : decode cX4_scentAt 19 = .ok (.iconst 1, 1) := by decide +kernel
theorem dX4_scentAt_20 : decode cX4_scentAt 20 = .ok (.iand, 1) := by decide +kernel
theorem dX4_scentAt_21 : decode cX4_scentAt 21 = .ok (.iconst 1, 1) := by decide +kernel
theorem dX4_scentAt_22 : decode cX4_scentAt 22 = .ok (.if_icmp .ne 67, 3) := by decide +kernel
theorem dX4_scentAt_25 : decode cX4_scentAt 25 = .ok (.iload_n 1, 1) := by decide +kernel
theorem dX4_scentAt_26 : decode cX4_scentAt 26 = .ok (.iconst 5, 1) := by decide +kernel
theorem dX4_scentAt_27 : decode cX4_scentAt 27 = .ok (.idiv, 1) := by decide +kernel
theorem dX4_scentAt_28 : decode cX4_scentAt 28 = .ok (.aload_n 0, 1) := by decide +kernel
theorem dX4_scentAt_29 : decode cX4_scentAt 29 = .ok (.getfield 15, 3) := by decide +kernel
theorem dX4_scentAt_32 : decode cX4_scentAt 32 = .ok (.iload 5, 2) := by decide +kernel
theorem dX4_scentAt_34 : decode cX4_scentAt 34 = .ok (.iaload, 1) := by decide +kernel
theorem dX4_scentAt_35 : decode cX4_scentAt 35 = .ok (.iconst 5, 1) := by decide +kernel
theorem dX4_scentAt_36 : decode cX4_scentAt 36 = .ok (.idiv, 1) := by decide +kernel
theorem dX4_scentAt_37 : decode cX4_scentAt 37 = .ok (.isub, 1) := by decide +kernel
theorem dX4_scentAt_38 : decode cX4_scentAt 38 = .ok (.invokestatic 81, 3) := by decide +kernel
theorem dX4_scentAt_41 : decode cX4_scentAt 41 = .ok (.istore 6, 2) := by decide +kernel
theorem dX4_scentAt_43 : decode cX4_scentAt 43 = .ok (.iload_n 1, 1) := by decide +kernel
theorem dX4_scentAt_44 : decode cX4_scentAt 44 = .ok (.iconst 5, 1) := by decide +kernel
theorem dX4_scentAt_45 : decode cX4_scentAt 45 = .ok (.irem, 1) := by decide +kernel
theorem dX4_scentAt_46 : decode cX4_scentAt 46 = .ok (.aload_n 0, 1) := by decide +kernel
theorem dX4_scentAt_47 : decode cX4_scentAt 47 = .ok (.getfield 15, 3) := by decide +kernel
theorem dX4_scentAt_50 : decode cX4_scentAt 50 = .ok (.iload 5, 2) := by decide +kernel
theorem dX4_scentAt_52 : decode cX4_scentAt 52 = .ok (.iaload, 1) := by decide +kernel
theorem dX4_scentAt_53 : decode cX4_scentAt 53 = .ok (.iconst 5, 1) := by decide +kernel
theorem dX4_scentAt_54 : decode cX4_scentAt 54 = .ok (.irem, 1) := by decide +kernel
theorem dX4_scentAt_55 : decode cX4_scentAt 55 = .ok (.isub, 1) := by decide +kernel
theorem dX4_scentAt_56 : decode cX4_scentAt 56 = .ok (.invokestatic 81, 3) := by decide +kernel
theorem dX4_scentAt_59 : decode cX4_scentAt 59 = .ok (.istore 7, 2) := by decide +kernel
theorem dX4_scentAt_61 : decode cX4_scentAt 61 = .ok (.iload 4, 2) := by decide +kernel
theorem dX4_scentAt_63 : decode cX4_scentAt 63 = .ok (.aload_n 0, 1) := by decide +kernel
theorem dX4_scentAt_64 : decode cX4_scentAt 64 = .ok (.getfield 9, 3) := by decide +kernel
theorem dX4_scentAt_67 : decode cX4_scentAt 67 = .ok (.iload 5, 2) := by decide +kernel
theorem dX4_scentAt_69 : decode cX4_scentAt 69 = .ok (.iaload, 1) := by decide +kernel
theorem dX4_scentAt_70 : decode cX4_scentAt 70 = .ok (.aload_n 0, 1) := by decide +kernel
theorem dX4_scentAt_71 : decode cX4_scentAt 71 = .ok (.getfield 18, 3) := by decide +kernel
theorem dX4_scentAt_74 : decode cX4_scentAt 74 = .ok (.iload 5, 2) := by decide +kernel
theorem dX4_scentAt_76 : decode cX4_scentAt 76 = .ok (.iaload, 1) := by decide +kernel
theorem dX4_scentAt_77 : decode cX4_scentAt 77 = .ok (.iload 6, 2) := by decide +kernel
theorem dX4_scentAt_79 : decode cX4_scentAt 79 = .ok (.iload 7, 2) := by decide +kernel
theorem dX4_scentAt_81 : decode cX4_scentAt 81 = .ok (.iadd, 1) := by decide +kernel
theorem dX4_scentAt_82 : decode cX4_scentAt 82 = .ok (.iload_n 2, 1) := by decide +kernel
theorem dX4_scentAt_83 : decode cX4_scentAt 83 = .ok (.invokestatic 87, 3) := by decide +kernel
theorem dX4_scentAt_86 : decode cX4_scentAt 86 = .ok (.iadd, 1) := by decide +kernel
theorem dX4_scentAt_87 : decode cX4_scentAt 87 = .ok (.istore 4, 2) := by decide +kernel
theorem dX4_scentAt_89 : decode cX4_scentAt 89 = .ok (.iinc 5 1, 3) := by decide +kernel
theorem dX4_scentAt_92 : decode cX4_scentAt 92 = .ok (.goto (-86), 3) := by decide +kernel
theorem dX4_scentAt_95 : decode cX4_scentAt 95 = .ok (.iload 4, 2) := by decide +kernel
theorem dX4_scentAt_97 : decode cX4_scentAt 97 = .ok (.ireturn, 1) := by decide +kernel
set_option maxRecDepth 20000 in
theorem ggX4_takenToday_X4_hasLapsed : GoodIn wsX4_takenToday wsX4_hasLapsed := goodIn_r _ [9, 10, 36, 37, 38, 39, 40, 41, 42, 43, 44, 45, 46, 47, 48, 49, 50] (by decide +kernel) (by decide +kernel)
set_option maxRecDepth 20000 in
theorem gX4_takenToday_X4_hasLapsed : GoodIn wsX4_takenToday (wsV RX4 93 RX4 yX4_hasLapsed wsX4_hasLapsed) := goodIn_app (goodIn_of _ (by decide +kernel)) ggX4_takenToday_X4_hasLapsed
set_option maxRecDepth 20000 in
theorem ggX4_takenToday_X4_scentAt : GoodIn wsX4_takenToday wsX4_scentAt := goodIn_r _ [14, 15, 16, 17, 18, 19, 20, 21, 22, 23, 24, 25, 26, 36, 37, 38, 39, 40, 41, 42, 43, 44, 45, 46, 47, 48, 49, 50] (by decide +kernel) (by decide +kernel)
set_option maxRecDepth 20000 in
theorem gX4_takenToday_X4_scentAt : GoodIn wsX4_takenToday (wsV RX4 97 RX4 yX4_scentAt wsX4_scentAt) := goodIn_app (goodIn_of _ (by decide +kernel)) ggX4_takenToday_X4_scentAt
set_option maxRecDepth 20000 in
theorem ggX4_takenToday_X3_loss : GoodIn wsX4_takenToday wsX3_loss := goodIn_r _ [29, 30, 31, 19, 32, 33, 34, 35] (by decide +kernel) (by decide +kernel)
set_option maxRecDepth 20000 in
theorem gX4_takenToday_X3_loss : GoodIn wsX4_takenToday (va_wsS RX4 101 yX3_loss wsX3_loss) := goodIn_app (goodIn_of _ (by decide +kernel)) ggX4_takenToday_X3_loss
theorem dX4_takenToday_0 : decode cX4_takenToday 0 = .ok (.aload_n 0, 1) := by decide +kernel
theorem dX4_takenToday_1 : decode cX4_takenToday 1 = .ok (.iload_n 1, 1) := by decide +kernel
theorem dX4_takenToday_2 : decode cX4_takenToday 2 = .ok (.invokevirtual 93, 3) := by decide +kernel
theorem dX4_takenToday_5 : decode cX4_takenToday 5 = .ok (.ifCond .eq 5, 3) := by decide +kernel
theorem dX4_takenToday_8 : decode cX4_takenToday 8 = .ok (.iconst 0, 1) := by decide +kernel
theorem dX4_takenToday_9 : decode cX4_takenToday 9 = .ok (.ireturn, 1) := by decide +kernel
theorem dX4_takenToday_10 : decode cX4_takenToday 10 = .ok (.aload_n 0, 1) := by decide +kernel
theorem dX4_takenToday_11 : decode cX4_takenToday 11 = .ok (.getfield 21, 3) := by decide +kernel
theorem dX4_takenToday_14 : decode cX4_takenToday 14 = .ok (.iload_n 1, 1) := by decide +kernel
theorem dX4_takenToday_15 : decode cX4_takenToday 15 = .ok (.iaload, 1) := by decide +kernel
theorem dX4_takenToday_16 : decode cX4_takenToday 16 = .ok (.aload_n 0, 1) := by decide +kernel
theorem dX4_takenToday_17 : decode cX4_takenToday 17 = .ok (.aload_n 0, 1) := by decide +kernel
theorem dX4_takenToday_18 : decode cX4_takenToday 18 = .ok (.getfield 27, 3) := by decide +kernel
theorem dX4_takenToday_21 : decode cX4_takenToday 21 = .ok (.iload_n 1, 1) := by decide +kernel
theorem dX4_takenToday_22 : decode cX4_takenToday 22 = .ok (.iaload, 1) := by decide +kernel
theorem dX4_takenToday_23 : decode cX4_takenToday 23 = .ok (.aload_n 0, 1) := by decide +kernel
theorem dX4_takenToday_24 : decode cX4_takenToday 24 = .ok (.getfield 61, 3) := by decide +kernel
theorem dX4_takenToday_27 : decode cX4_takenToday 27 = .ok (.aload_n 0, 1) := by decide +kernel
theorem dX4_takenToday_28 : decode cX4_takenToday 28 = .ok (.getfield 58, 3) := by decide +kernel
theorem dX4_takenToday_31 : decode cX4_takenToday 31 = .ok (.invokevirtual 97, 3) := by decide +kernel
theorem dX4_takenToday_34 : decode cX4_takenToday 34 = .ok (.aload_n 0, 1) := by decide +kernel
theorem dX4_takenToday_35 : decode cX4_takenToday 35 = .ok (.getfield 61, 3) := by decide +kernel
theorem dX4_takenToday_38 : decode cX4_takenToday 38 = .ok (.invokestatic 101, 3) := by decide +kernel
theorem dX4_takenToday_41 : decode cX4_takenToday 41 = .ok (.ireturn, 1) := by decide +kernel
set_option maxRecDepth 20000 in
theorem ggX4_passDays_X4_wearDown : GoodIn wsX4_passDays wsX4_wearDown := goodIn_r _ [8, 9, 10, 11, 12, 13, 14, 15, 16, 17, 18, 7, 19, 20, 21, 22, 23, 24, 25, 26, 27, 28, 29, 30, 31, 32, 33, 34, 35, 36, 37, 38, 39, 40, 41, 42, 43, 44, 45, 46, 47, 48, 49, 50, 51, 52] (by decide +kernel) (by decide +kernel)
set_option maxRecDepth 20000 in
theorem gX4_passDays_X4_wearDown : GoodIn wsX4_passDays (wsV RX4 104 RX4 yX4_wearDown wsX4_wearDown) := goodIn_app (goodIn_of _ (by decide +kernel)) ggX4_passDays_X4_wearDown
theorem dX4_passDays_0 : decode cX4_passDays 0 = .ok (.iconst 0, 1) := by decide +kernel
theorem dX4_passDays_1 : decode cX4_passDays 1 = .ok (.istore_n 2, 1) := by decide +kernel
theorem dX4_passDays_2 : decode cX4_passDays 2 = .ok (.iload_n 2, 1) := by decide +kernel
theorem dX4_passDays_3 : decode cX4_passDays 3 = .ok (.iload_n 1, 1) := by decide +kernel
theorem dX4_passDays_4 : decode cX4_passDays 4 = .ok (.if_icmp .ge 45, 3) := by decide +kernel
theorem dX4_passDays_7 : decode cX4_passDays 7 = .ok (.aload_n 0, 1) := by decide +kernel
theorem dX4_passDays_8 : decode cX4_passDays 8 = .ok (.getfield 61, 3) := by decide +kernel
theorem dX4_passDays_11 : decode cX4_passDays 11 = .ok (.sipush 9999, 3) := by decide +kernel
theorem dX4_passDays_14 : decode cX4_passDays 14 = .ok (.if_icmp .ge 35, 3) := by decide +kernel
theorem dX4_passDays_17 : decode cX4_passDays 17 = .ok (.aload_n 0, 1) := by decide +kernel
theorem dX4_passDays_18 : decode cX4_passDays 18 = .ok (.aload_n 0, 1) := by decide +kernel
theorem dX4_passDays_19 : decode cX4_passDays 19 = .ok (.getfield 27, 3) := by decide +kernel
theorem dX4_passDays_22 : decode cX4_passDays 22 = .ok (.aload_n 0, 1) := by decide +kernel
theorem dX4_passDays_23 : decode cX4_passDays 23 = .ok (.getfield 30, 3) := by decide +kernel
theorem dX4_passDays_26 : decode cX4_passDays 26 = .ok (.aload_n 0, 1) := by decide +kernel
theorem dX4_passDays_27 : decode cX4_passDays 27 = .ok (.getfield 61, 3) := by decide +kernel
theorem dX4_passDays_30 : decode cX4_passDays 30 = .ok (.invokevirtual 104, 3) := by decide +kernel
theorem dX4_passDays_33 : decode cX4_passDays 33 = .ok (.aload_n 0, 1) := by decide +kernel
theorem dX4_passDays_34 : decode cX4_passDays 34 = .ok (.dup, 1) := by decide +kernel
theorem dX4_passDays_35 : decode cX4_passDays 35 = .ok (.getfield 61, 3) := by decide +kernel
theorem dX4_passDays_38 : decode cX4_passDays 38 = .ok (.iconst 1, 1) := by decide +kernel
theorem dX4_passDays_39 : decode cX4_passDays 39 = .ok (.iadd, 1) := by decide +kernel
theorem dX4_passDays_40 : decode cX4_passDays 40 = .ok (.putfield 61, 3) := by decide +kernel
theorem dX4_passDays_43 : decode cX4_passDays 43 = .ok (.iinc 2 1, 3) := by decide +kernel
theorem dX4_passDays_46 : decode cX4_passDays 46 = .ok (.goto (-44), 3) := by decide +kernel
theorem dX4_passDays_49 : decode cX4_passDays 49 = .ok (.return_, 1) := by decide +kernel
set_option maxRecDepth 20000 in
theorem ggX4_wearDown_X4_scentAt : GoodIn wsX4_wearDown wsX4_scentAt := goodIn_r _ [12, 13, 14, 15, 16, 6, 17, 18, 19, 20, 21, 22, 23, 31, 32, 33, 34, 35, 36, 37, 38, 39, 40, 41, 42, 43, 44, 45] (by decide +kernel) (by decide +kernel)
set_option maxRecDepth 20000 in
theorem gX4_wearDown_X4_scentAt : GoodIn wsX4_wearDown (wsV RX4 97 RX4 yX4_scentAt wsX4_scentAt) := goodIn_app (goodIn_of _ (by decide +kernel)) ggX4_wearDown_X4_scentAt
set_option maxRecDepth 20000 in
theorem ggX4_wearDown_X3_loss : GoodIn wsX4_wearDown wsX3_loss := goodIn_r _ [26, 27, 5, 6, 7, 28, 29, 30] (by decide +kernel) (by decide +kernel)
set_option maxRecDepth 20000 in
theorem gX4_wearDown_X3_loss : GoodIn wsX4_wearDown (va_wsS RX4 101 yX3_loss wsX3_loss) := goodIn_app (goodIn_of _ (by decide +kernel)) ggX4_wearDown_X3_loss
theorem dX4_wearDown_0 : decode cX4_wearDown 0 = .ok (.iconst 0, 1) := by decide +kernel
theorem dX4_wearDown_1 : decode cX4_wearDown 1 = .ok (.istore 4, 2) := by decide +kernel
theorem dX4_wearDown_3 : decode cX4_wearDown 3 = .ok (.iload 4, 2) := by decide +kernel
theorem dX4_wearDown_5 : decode cX4_wearDown 5 = .ok (.aload_n 0, 1) := by decide +kernel
theorem dX4_wearDown_6 : decode cX4_wearDown 6 = .ok (.getfield 55, 3) := by decide +kernel
theorem dX4_wearDown_9 : decode cX4_wearDown 9 = .ok (.if_icmp .ge 58, 3) := by decide +kernel
theorem dX4_wearDown_12 : decode cX4_wearDown 12 = .ok (.aload_n 2, 1) := by decide +kernel
theorem dX4_wearDown_13 : decode cX4_wearDown 13 = .ok (.iload 4, 2) := by decide +kernel
theorem dX4_wearDown_15 : decode cX4_wearDown 15 = .ok (.iaload, 1) := by decide +kernel
theorem dX4_wearDown_16 : decode cX4_wearDown 16 = .ok (.iconst 1, 1) := by decide +kernel
theorem dX4_wearDown_17 : decode cX4_wearDown 17 = .ok (.if_icmp .lt 44, 3) := by decide +kernel
theorem dX4_wearDown_20 : decode cX4_wearDown 20 = .ok (.aload_n 0, 1) := by decide +kernel
theorem dX4_wearDown_21 : decode cX4_wearDown 21 = .ok (.getfield 21, 3) := by decide +kernel
theorem dX4_wearDown_24 : decode cX4_wearDown 24 = .ok (.iload 4, 2) := by decide +kernel
theorem dX4_wearDown_26 : decode cX4_wearDown 26 = .ok (.iaload, 1) := by decide +kernel
theorem dX4_wearDown_27 : decode cX4_wearDown 27 = .ok (.aload_n 0, 1) := by decide +kernel
theorem dX4_wearDown_28 : decode cX4_wearDown 28 = .ok (.aload_n 1, 1) := by decide +kernel
theorem dX4_wearDown_29 : decode cX4_wearDown 29 = .ok (.iload 4, 2) := by decide +kernel
theorem dX4_wearDown_31 : decode cX4_wearDown 31 = .ok (.iaload, 1) := by decide +kernel
theorem dX4_wearDown_32 : decode cX4_wearDown 32 = .ok (.iload_n 3, 1) := by decide +kernel
theorem dX4_wearDown_33 : decode cX4_wearDown 33 = .ok (.aload_n 0, 1) := by decide +kernel
theorem dX4_wearDown_34 : decode cX4_wearDown 34 = .ok (.getfield 58, 3) := by decide +kernel
theorem dX4_wearDown_37 : decode cX4_wearDown 37 = .ok (.invokevirtual 97, 3) := by decide +kernel
theorem dX4_wearDown_40 : decode cX4_wearDown 40 = .ok (.iload_n 3, 1) := by decide +kernel
theorem dX4_wearDown_41 : decode cX4_wearDown 41 = .ok (.invokestatic 101, 3) := by decide +kernel
theorem dX4_wearDown_44 : decode cX4_wearDown 44 = .ok (.istore 5, 2) := by decide +kernel
theorem dX4_wearDown_46 : decode cX4_wearDown 46 = .ok (.aload_n 2, 1) := by decide +kernel
theorem dX4_wearDown_47 : decode cX4_wearDown 47 = .ok (.iload 4, 2) := by decide +kernel
theorem dX4_wearDown_49 : decode cX4_wearDown 49 = .ok (.iconst 0, 1) := by decide +kernel
theorem dX4_wearDown_50 : decode cX4_wearDown 50 = .ok (.aload_n 2, 1) := by decide +kernel
theorem dX4_wearDown_51 : decode cX4_wearDown 51 = .ok (.iload 4, 2) := by decide +kernel
theorem dX4_wearDown_53 : decode cX4_wearDown 53 = .ok (.iaload, 1) := by decide +kernel
theorem dX4_wearDown_54 : decode cX4_wearDown 54 = .ok (.iload 5, 2) := by decide +kernel
theorem dX4_wearDown_56 : decode cX4_wearDown 56 = .ok (.isub, 1) := by decide +kernel
theorem dX4_wearDown_57 : decode cX4_wearDown 57 = .ok (.invokestatic 108, 3) := by decide +kernel
theorem dX4_wearDown_60 : decode cX4_wearDown 60 = .ok (.iastore, 1) := by decide +kernel
theorem dX4_wearDown_61 : decode cX4_wearDown 61 = .ok (.iinc 4 1, 3) := by decide +kernel
theorem dX4_wearDown_64 : decode cX4_wearDown 64 = .ok (.goto (-61), 3) := by decide +kernel
theorem dX4_wearDown_67 : decode cX4_wearDown 67 = .ok (.return_, 1) := by decide +kernel
set_option maxRecDepth 20000 in
theorem ggX4_remember_X6_isFull : GoodIn wsX4_remember wsX6_isFull := goodIn_r _ [11, 12, 13, 43, 44, 45, 46] (by decide +kernel) (by decide +kernel)
set_option maxRecDepth 20000 in
theorem gX4_remember_X6_isFull : GoodIn wsX4_remember (wsV RX4 112 RX6 yX6_isFull wsX6_isFull) := goodIn_app (goodIn_of _ (by decide +kernel)) ggX4_remember_X6_isFull
set_option maxRecDepth 20000 in
theorem ggX4_remember_X6_dropFirst : GoodIn wsX4_remember wsX6_dropFirst := goodIn_r _ [17, 18, 19, 13, 20, 21, 22, 23, 12, 43, 44, 45, 46] (by decide +kernel) (by decide +kernel)
set_option maxRecDepth 20000 in
theorem gX4_remember_X6_dropFirst : GoodIn wsX4_remember (wsV RX4 116 RX6 yX6_dropFirst wsX6_dropFirst) := goodIn_app (goodIn_of _ (by decide +kernel)) ggX4_remember_X6_dropFirst
set_option maxRecDepth 20000 in
theorem ggX4_remember_X6_put : GoodIn wsX4_remember wsX6_put := goodIn_r _ [27, 18, 19, 43, 44, 45, 46] (by decide +kernel) (by decide +kernel)
set_option maxRecDepth 20000 in
theorem gX4_remember_X6_put : GoodIn wsX4_remember (wsV RX4 119 RX6 yX6_put wsX6_put) := goodIn_app (goodIn_of _ (by decide +kernel)) ggX4_remember_X6_put
theorem dX4_remember_0 : decode cX4_remember 0 = .ok (.aload_n 0, 1) := by decide +kernel
theorem dX4_remember_1 : decode cX4_remember 1 = .ok (.getfield 38, 3) := by decide +kernel
theorem dX4_remember_4 : decode cX4_remember 4 = .ok (.invokevirtual 112, 3) := by decide +kernel
theorem dX4_remember_7 : decode cX4_remember 7 = .ok (.ifCond .eq 10, 3) := by decide +kernel
theorem dX4_remember_10 : decode cX4_remember 10 = .ok (.aload_n 0, 1) := by decide +kernel
theorem dX4_remember_11 : decode cX4_remember 11 = .ok (.getfield 38, 3) := by decide +kernel
theorem dX4_remember_14 : decode cX4_remember 14 = .ok (.invokevirtual 116, 3) := by decide +kernel
theorem dX4_remember_17 : decode cX4_remember 17 = .ok (.aload_n 0, 1) := by decide +kernel
theorem dX4_remember_18 : decode cX4_remember 18 = .ok (.getfield 38, 3) := by decide +kernel
theorem dX4_remember_21 : decode cX4_remember 21 = .ok (.getfield 64, 3) := by decide +kernel
theorem dX4_remember_24 : decode cX4_remember 24 = .ok (.istore_n 1, 1) := by decide +kernel
theorem dX4_remember_25 : decode cX4_remember 25 = .ok (.aload_n 0, 1) := by decide +kernel
theorem dX4_remember_26 : decode cX4_remember 26 = .ok (.getfield 38, 3) := by decide +kernel
theorem dX4_remember_29 : decode cX4_remember 29 = .ok (.iload_n 1, 1) := by decide +kernel
theorem dX4_remember_30 : decode cX4_remember 30 = .ok (.iconst 0, 1) := by decide +kernel
theorem dX4_remember_31 : decode cX4_remember 31 = .ok (.aload_n 0, 1) := by decide +kernel
theorem dX4_remember_32 : decode cX4_remember 32 = .ok (.getfield 61, 3) := by decide +kernel
theorem dX4_remember_35 : decode cX4_remember 35 = .ok (.invokevirtual 119, 3) := by decide +kernel
theorem dX4_remember_38 : decode cX4_remember 38 = .ok (.aload_n 0, 1) := by decide +kernel
theorem dX4_remember_39 : decode cX4_remember 39 = .ok (.getfield 38, 3) := by decide +kernel
theorem dX4_remember_42 : decode cX4_remember 42 = .ok (.iload_n 1, 1) := by decide +kernel
theorem dX4_remember_43 : decode cX4_remember 43 = .ok (.iconst 1, 1) := by decide +kernel
theorem dX4_remember_44 : decode cX4_remember 44 = .ok (.aload_n 0, 1) := by decide +kernel
theorem dX4_remember_45 : decode cX4_remember 45 = .ok (.getfield 58, 3) := by decide +kernel
theorem dX4_remember_48 : decode cX4_remember 48 = .ok (.invokevirtual 119, 3) := by decide +kernel
theorem dX4_remember_51 : decode cX4_remember 51 = .ok (.iconst 0, 1) := by decide +kernel
theorem dX4_remember_52 : decode cX4_remember 52 = .ok (.istore_n 2, 1) := by decide +kernel
theorem dX4_remember_53 : decode cX4_remember 53 = .ok (.iload_n 2, 1) := by decide +kernel
theorem dX4_remember_54 : decode cX4_remember 54 = .ok (.bipush 7, 2) := by decide +kernel
theorem dX4_remember_56 : decode cX4_remember 56 = .ok (.if_icmp .ge 44, 3) := by decide +kernel
theorem dX4_remember_59 : decode cX4_remember 59 = .ok (.aload_n 0, 1) := by decide +kernel
theorem dX4_remember_60 : decode cX4_remember 60 = .ok (.getfield 38, 3) := by decide +kernel
theorem dX4_remember_63 : decode cX4_remember 63 = .ok (.iload_n 1, 1) := by decide +kernel
theorem dX4_remember_64 : decode cX4_remember 64 = .ok (.iconst 2, 1) := by decide +kernel
theorem dX4_remember_65 : decode cX4_remember 65 = .ok (.iload_n 2, 1) := by decide +kernel
theorem dX4_remember_66 : decode cX4_remember 66 = .ok (.iadd, 1) := by decide +kernel
theorem dX4_remember_67 : decode cX4_remember 67 = .ok (.aload_n 0, 1) := by decide +kernel
theorem dX4_remember_68 : decode cX4_remember 68 = .ok (.getfield 30, 3) := by decide +kernel
theorem dX4_remember_71 : decode cX4_remember 71 = .ok (.iload_n 2, 1) := by decide +kernel
theorem dX4_remember_72 : decode cX4_remember 72 = .ok (.iaload, 1) := by decide +kernel
theorem dX4_remember_73 : decode cX4_remember 73 = .ok (.invokevirtual 119, 3) := by decide +kernel
theorem dX4_remember_76 : decode cX4_remember 76 = .ok (.aload_n 0, 1) := by decide +kernel
theorem dX4_remember_77 : decode cX4_remember 77 = .ok (.getfield 38, 3) := by decide +kernel
theorem dX4_remember_80 : decode cX4_remember 80 = .ok (.iload_n 1, 1) := by decide +kernel
theorem dX4_remember_81 : decode cX4_remember 81 = .ok (.bipush 9, 2) := by decide +kernel
theorem dX4_remember_83 : decode cX4_remember 83 = .ok (.iload_n 2, 1) := by decide +kernel
theorem dX4_remember_84 : decode cX4_remember 84 = .ok (.iadd, 1) := by decide +kernel
theorem dX4_remember_85 : decode cX4_remember 85 = .ok (.aload_n 0, 1) := by decide +kernel
theorem dX4_remember_86 : decode cX4_remember 86 = .ok (.getfield 27, 3) := by decide +kernel
theorem dX4_remember_89 : decode cX4_remember 89 = .ok (.iload_n 2, 1) := by decide +kernel
theorem dX4_remember_90 : decode cX4_remember 90 = .ok (.iaload, 1) := by decide +kernel
theorem dX4_remember_91 : decode cX4_remember 91 = .ok (.invokevirtual 119, 3) := by decide +kernel
theorem dX4_remember_94 : decode cX4_remember 94 = .ok (.iinc 2 1, 3) := by decide +kernel
theorem dX4_remember_97 : decode cX4_remember 97 = .ok (.goto (-44), 3) := by decide +kernel
theorem dX4_remember_100 : decode cX4_remember 100 = .ok (.aload_n 0, 1) := by decide +kernel
theorem dX4_remember_101 : decode cX4_remember 101 = .ok (.getfield 38, 3) := by decide +kernel
theorem dX4_remember_104 : decode cX4_remember 104 = .ok (.dup, 1) := by decide +kernel
theorem dX4_remember_105 : decode cX4_remember 105 = .ok (.getfield 64, 3) := by decide +kernel
theorem dX4_remember_108 : decode cX4_remember 108 = .ok (.iconst 1, 1) := by decide +kernel
theorem dX4_remember_109 : decode cX4_remember 109 = .ok (.iadd, 1) := by decide +kernel
theorem dX4_remember_110 : decode cX4_remember 110 = .ok (.putfield 64, 3) := by decide +kernel
theorem dX4_remember_113 : decode cX4_remember 113 = .ok (.return_, 1) := by decide +kernel
set_option maxRecDepth 20000 in
theorem ggX4_goBack_X6_at : GoodIn wsX4_goBack wsX6_at := goodIn_r _ [11, 12, 13, 29, 30, 31, 32] (by decide +kernel) (by decide +kernel)
set_option maxRecDepth 20000 in
theorem gX4_goBack_X6_at : GoodIn wsX4_goBack (wsV RX4 123 RX6 yX6_at wsX6_at) := goodIn_app (goodIn_of _ (by decide +kernel)) ggX4_goBack_X6_at
theorem dX4_goBack_0 : decode cX4_goBack 0 = .ok (.aload_n 0, 1) := by decide +kernel
theorem dX4_goBack_1 : decode cX4_goBack 1 = .ok (.getfield 38, 3) := by decide +kernel
theorem dX4_goBack_4 : decode cX4_goBack 4 = .ok (.getfield 64, 3) := by decide +kernel
theorem dX4_goBack_7 : decode cX4_goBack 7 = .ok (.iconst 1, 1) := by decide +kernel
theorem dX4_goBack_8 : decode cX4_goBack 8 = .ok (.if_icmp .ge 5, 3) := by decide +kernel
theorem dX4_goBack_11 : decode cX4_goBack 11 = .ok (.iconst 0, 1) := by decide +kernel
theorem dX4_goBack_12 : decode cX4_goBack 12 = .ok (.ireturn, 1) := by decide +kernel
theorem dX4_goBack_13 : decode cX4_goBack 13 = .ok (.aload_n 0, 1) := by decide +kernel
theorem dX4_goBack_14 : decode cX4_goBack 14 = .ok (.getfield 38, 3) := by decide +kernel
theorem dX4_goBack_17 : decode cX4_goBack 17 = .ok (.dup, 1) := by decide +kernel
theorem dX4_goBack_18 : decode cX4_goBack 18 = .ok (.getfield 64, 3) := by decide +kernel
theorem dX4_goBack_21 : decode cX4_goBack 21 = .ok (.iconst 1, 1) := by decide +kernel
theorem dX4_goBack_22 : decode cX4_goBack 22 = .ok (.isub, 1) := by decide +kernel
theorem dX4_goBack_23 : decode cX4_goBack 23 = .ok (.putfield 64, 3) := by decide +kernel
theorem dX4_goBack_26 : decode cX4_goBack 26 = .ok (.aload_n 0, 1) := by decide +kernel
theorem dX4_goBack_27 : decode cX4_goBack 27 = .ok (.getfield 38, 3) := by decide +kernel
theorem dX4_goBack_30 : decode cX4_goBack 30 = .ok (.getfield 64, 3) := by decide +kernel
theorem dX4_goBack_33 : decode cX4_goBack 33 = .ok (.istore_n 1, 1) := by decide +kernel
theorem dX4_goBack_34 : decode cX4_goBack 34 = .ok (.aload_n 0, 1) := by decide +kernel
theorem dX4_goBack_35 : decode cX4_goBack 35 = .ok (.aload_n 0, 1) := by decide +kernel
theorem dX4_goBack_36 : decode cX4_goBack 36 = .ok (.getfield 38, 3) := by decide +kernel
theorem dX4_goBack_39 : decode cX4_goBack 39 = .ok (.iload_n 1, 1) := by decide +kernel
theorem dX4_goBack_40 : decode cX4_goBack 40 = .ok (.iconst 0, 1) := by decide +kernel
theorem dX4_goBack_41 : decode cX4_goBack 41 = .ok (.invokevirtual 123, 3) := by decide +kernel
theorem dX4_goBack_44 : decode cX4_goBack 44 = .ok (.putfield 61, 3) := by decide +kernel
theorem dX4_goBack_47 : decode cX4_goBack 47 = .ok (.aload_n 0, 1) := by decide +kernel
theorem dX4_goBack_48 : decode cX4_goBack 48 = .ok (.aload_n 0, 1) := by decide +kernel
theorem dX4_goBack_49 : decode cX4_goBack 49 = .ok (.getfield 38, 3) := by decide +kernel
theorem dX4_goBack_52 : decode cX4_goBack 52 = .ok (.iload_n 1, 1) := by decide +kernel
theorem dX4_goBack_53 : decode cX4_goBack 53 = .ok (.iconst 1, 1) := by decide +kernel
theorem dX4_goBack_54 : decode cX4_goBack 54 = .ok (.invokevirtual 123, 3) := by decide +kernel
theorem dX4_goBack_57 : decode cX4_goBack 57 = .ok (.putfield 58, 3) := by decide +kernel
theorem dX4_goBack_60 : decode cX4_goBack 60 = .ok (.iconst 0, 1) := by decide +kernel
theorem dX4_goBack_61 : decode cX4_goBack 61 = .ok (.istore_n 2, 1) := by decide +kernel
theorem dX4_goBack_62 : decode cX4_goBack 62 = .ok (.iload_n 2, 1) := by decide +kernel
theorem dX4_goBack_63 : decode cX4_goBack 63 = .ok (.bipush 7, 2) := by decide +kernel
theorem dX4_goBack_65 : decode cX4_goBack 65 = .ok (.if_icmp .ge 44, 3) := by decide +kernel
theorem dX4_goBack_68 : decode cX4_goBack 68 = .ok (.aload_n 0, 1) := by decide +kernel
theorem dX4_goBack_69 : decode cX4_goBack 69 = .ok (.getfield 30, 3) := by decide +kernel
theorem dX4_goBack_72 : decode cX4_goBack 72 = .ok (.iload_n 2, 1) := by decide +kernel
theorem dX4_goBack_73 : decode cX4_goBack 73 = .ok (.aload_n 0, 1) := by decide +kernel
theorem dX4_goBack_74 : decode cX4_goBack 74 = .ok (.getfield 38, 3) := by decide +kernel
theorem dX4_goBack_77 : decode cX4_goBack 77 = .ok (.iload_n 1, 1) := by decide +kernel
theorem dX4_goBack_78 : decode cX4_goBack 78 = .ok (.iconst 2, 1) := by decide +kernel
theorem dX4_goBack_79 : decode cX4_goBack 79 = .ok (.iload_n 2, 1) := by decide +kernel
theorem dX4_goBack_80 : decode cX4_goBack 80 = .ok (.iadd, 1) := by decide +kernel
theorem dX4_goBack_81 : decode cX4_goBack 81 = .ok (.invokevirtual 123, 3) := by decide +kernel
theorem dX4_goBack_84 : decode cX4_goBack 84 = .ok (.iastore, 1) := by decide +kernel
theorem dX4_goBack_85 : decode cX4_goBack 85 = .ok (.aload_n 0, 1) := by decide +kernel
theorem dX4_goBack_86 : decode cX4_goBack 86 = .ok (.getfield 27, 3) := by decide +kernel
theorem dX4_goBack_89 : decode cX4_goBack 89 = .ok (.iload_n 2, 1) := by decide +kernel
theorem dX4_goBack_90 : decode cX4_goBack 90 = .ok (.aload_n 0, 1) := by decide +kernel
theorem dX4_goBack_91 : decode cX4_goBack 91 = .ok (.getfield 38, 3) := by decide +kernel
theorem dX4_goBack_94 : decode cX4_goBack 94 = .ok (.iload_n 1, 1) := by decide +kernel
theorem dX4_goBack_95 : decode cX4_goBack 95 = .ok (.bipush 9, 2) := by decide +kernel
theorem dX4_goBack_97 : decode cX4_goBack 97 = .ok (.iload_n 2, 1) := by decide +kernel
theorem dX4_goBack_98 : decode cX4_goBack 98 = .ok (.iadd, 1) := by decide +kernel
theorem dX4_goBack_99 : decode cX4_goBack 99 = .ok (.invokevirtual 123, 3) := by decide +kernel
theorem dX4_goBack_102 : decode cX4_goBack 102 = .ok (.iastore, 1) := by decide +kernel
theorem dX4_goBack_103 : decode cX4_goBack 103 = .ok (.iinc 2 1, 3) := by decide +kernel
theorem dX4_goBack_106 : decode cX4_goBack 106 = .ok (.goto (-44), 3) := by decide +kernel
theorem dX4_goBack_109 : decode cX4_goBack 109 = .ok (.iconst 1, 1) := by decide +kernel
theorem dX4_goBack_110 : decode cX4_goBack 110 = .ok (.ireturn, 1) := by decide +kernel
set_option maxRecDepth 20000 in
theorem ggX4_familyFact_X4_hasLapsed : GoodIn wsX4_familyFact wsX4_hasLapsed := goodIn_r _ [9, 4, 10, 11, 12, 13, 14, 15, 16, 17, 18, 19, 20, 21, 22, 23, 24] (by decide +kernel) (by decide +kernel)
set_option maxRecDepth 20000 in
theorem gX4_familyFact_X4_hasLapsed : GoodIn wsX4_familyFact (wsV RX4 93 RX4 yX4_hasLapsed wsX4_hasLapsed) := goodIn_app (goodIn_of _ (by decide +kernel)) ggX4_familyFact_X4_hasLapsed
theorem dX4_familyFact_0 : decode cX4_familyFact 0 = .ok (.iload_n 2, 1) := by decide +kernel
theorem dX4_familyFact_1 : decode cX4_familyFact 1 = .ok (.tableswitch 59 0 3 #[31, 38, 45, 52], 31) := by decide +kernel
theorem dX4_familyFact_32 : decode cX4_familyFact 32 = .ok (.aload_n 0, 1) := by decide +kernel
theorem dX4_familyFact_33 : decode cX4_familyFact 33 = .ok (.getfield 21, 3) := by decide +kernel
theorem dX4_familyFact_36 : decode cX4_familyFact 36 = .ok (.iload_n 1, 1) := by decide +kernel
theorem dX4_familyFact_37 : decode cX4_familyFact 37 = .ok (.iaload, 1) := by decide +kernel
theorem dX4_familyFact_38 : decode cX4_familyFact 38 = .ok (.ireturn, 1) := by decide +kernel
theorem dX4_familyFact_39 : decode cX4_familyFact 39 = .ok (.aload_n 0, 1) := by decide +kernel
theorem dX4_familyFact_40 : decode cX4_familyFact 40 = .ok (.getfield 24, 3) := by decide +kernel
theorem dX4_familyFact_43 : decode cX4_familyFact 43 = .ok (.iload_n 1, 1) := by decide +kernel
theorem dX4_familyFact_44 : decode cX4_familyFact 44 = .ok (.iaload, 1) := by decide +kernel
theorem dX4_familyFact_45 : decode cX4_familyFact 45 = .ok (.ireturn, 1) := by decide +kernel
theorem dX4_familyFact_46 : decode cX4_familyFact 46 = .ok (.aload_n 0, 1) := by decide +kernel
theorem dX4_familyFact_47 : decode cX4_familyFact 47 = .ok (.getfield 27, 3) := by decide +kernel
theorem dX4_familyFact_50 : decode cX4_familyFact 50 = .ok (.iload_n 1, 1) := by decide +kernel
theorem dX4_familyFact_51 : decode cX4_familyFact 51 = .ok (.iaload, 1) := by decide +kernel
theorem dX4_familyFact_52 : decode cX4_familyFact 52 = .ok (.ireturn, 1) := by decide +kernel
theorem dX4_familyFact_53 : decode cX4_familyFact 53 = .ok (.aload_n 0, 1) := by decide +kernel
theorem dX4_familyFact_54 : decode cX4_familyFact 54 = .ok (.getfield 30, 3) := by decide +kernel
theorem dX4_familyFact_57 : decode cX4_familyFact 57 = .ok (.iload_n 1, 1) := by decide +kernel
theorem dX4_familyFact_58 : decode cX4_familyFact 58 = .ok (.iaload, 1) := by decide +kernel
theorem dX4_familyFact_59 : decode cX4_familyFact 59 = .ok (.ireturn, 1) := by decide +kernel
theorem dX4_familyFact_60 : decode cX4_familyFact 60 = .ok (.aload_n 0, 1) := by decide +kernel
theorem dX4_familyFact_61 : decode cX4_familyFact 61 = .ok (.iload_n 1, 1) := by decide +kernel
theorem dX4_familyFact_62 : decode cX4_familyFact 62 = .ok (.invokevirtual 93, 3) := by decide +kernel
theorem dX4_familyFact_65 : decode cX4_familyFact 65 = .ok (.ifCond .eq 7, 3) := by decide +kernel
theorem dX4_familyFact_68 : decode cX4_familyFact 68 = .ok (.iconst 1, 1) := by decide +kernel
theorem dX4_familyFact_69 : decode cX4_familyFact 69 = .ok (.goto 4, 3) := by decide +kernel
theorem dX4_familyFact_72 : decode cX4_familyFact 72 = .ok (.iconst 0, 1) := by decide +kernel
theorem dX4_familyFact_73 : decode cX4_familyFact 73 = .ok (.ireturn, 1) := by decide +kernel
set_option maxRecDepth 20000 in
theorem ggX4_flitchFact_X4_hungBit : GoodIn wsX4_flitchFact wsX4_hungBit := goodIn_r _ [8, 9, 10, 11, 12, 13, 14, 15, 16, 17, 18, 19, 20, 21, 22, 23, 24] (by decide +kernel) (by decide +kernel)
set_option maxRecDepth 20000 in
theorem gX4_flitchFact_X4_hungBit : GoodIn wsX4_flitchFact (wsV RX4 126 RX4 yX4_hungBit wsX4_hungBit) := goodIn_app (goodIn_of _ (by decide +kernel)) ggX4_flitchFact_X4_hungBit
theorem dX4_flitchFact_0 : decode cX4_flitchFact 0 = .ok (.iload_n 2, 1) := by decide +kernel
theorem dX4_flitchFact_1 : decode cX4_flitchFact 1 = .ok (.tableswitch 48 0 2 #[27, 34, 41], 27) := by decide +kernel
theorem dX4_flitchFact_28 : decode cX4_flitchFact 28 = .ok (.aload_n 0, 1) := by decide +kernel
theorem dX4_flitchFact_29 : decode cX4_flitchFact 29 = .ok (.getfield 9, 3) := by decide +kernel
theorem dX4_flitchFact_32 : decode cX4_flitchFact 32 = .ok (.iload_n 1, 1) := by decide +kernel
theorem dX4_flitchFact_33 : decode cX4_flitchFact 33 = .ok (.iaload, 1) := by decide +kernel
theorem dX4_flitchFact_34 : decode cX4_flitchFact 34 = .ok (.ireturn, 1) := by decide +kernel
theorem dX4_flitchFact_35 : decode cX4_flitchFact 35 = .ok (.aload_n 0, 1) := by decide +kernel
theorem dX4_flitchFact_36 : decode cX4_flitchFact 36 = .ok (.getfield 15, 3) := by decide +kernel
theorem dX4_flitchFact_39 : decode cX4_flitchFact 39 = .ok (.iload_n 1, 1) := by decide +kernel
theorem dX4_flitchFact_40 : decode cX4_flitchFact 40 = .ok (.iaload, 1) := by decide +kernel
theorem dX4_flitchFact_41 : decode cX4_flitchFact 41 = .ok (.ireturn, 1) := by decide +kernel
theorem dX4_flitchFact_42 : decode cX4_flitchFact 42 = .ok (.aload_n 0, 1) := by decide +kernel
theorem dX4_flitchFact_43 : decode cX4_flitchFact 43 = .ok (.getfield 18, 3) := by decide +kernel
theorem dX4_flitchFact_46 : decode cX4_flitchFact 46 = .ok (.iload_n 1, 1) := by decide +kernel
theorem dX4_flitchFact_47 : decode cX4_flitchFact 47 = .ok (.iaload, 1) := by decide +kernel
theorem dX4_flitchFact_48 : decode cX4_flitchFact 48 = .ok (.ireturn, 1) := by decide +kernel
theorem dX4_flitchFact_49 : decode cX4_flitchFact 49 = .ok (.aload_n 0, 1) := by decide +kernel
theorem dX4_flitchFact_50 : decode cX4_flitchFact 50 = .ok (.iload_n 1, 1) := by decide +kernel
theorem dX4_flitchFact_51 : decode cX4_flitchFact 51 = .ok (.invokevirtual 126, 3) := by decide +kernel
theorem dX4_flitchFact_54 : decode cX4_flitchFact 54 = .ok (.ireturn, 1) := by decide +kernel
set_option maxRecDepth 20000 in
theorem ggX4_digestOn_X4_flitchFact : GoodIn wsX4_digestOn wsX4_flitchFact := goodIn_r _ [11, 12, 13, 14, 15, 16, 17, 10, 18, 19, 41, 42, 43, 44, 45, 46, 47, 48, 49, 50, 51, 52, 53, 54, 55] (by decide +kernel) (by decide +kernel)
set_option maxRecDepth 20000 in
theorem gX4_digestOn_X4_flitchFact : GoodIn wsX4_digestOn (wsV RX4 131 RX4 yX4_flitchFact wsX4_flitchFact) := goodIn_app (goodIn_of _ (by decide +kernel)) ggX4_digestOn_X4_flitchFact
set_option maxRecDepth 20000 in
theorem ggX4_digestOn_X4_familyFact : GoodIn wsX4_digestOn wsX4_familyFact := goodIn_r _ [23, 24, 25, 26, 27, 28, 29, 30, 10, 31, 41, 42, 43, 44, 45, 46, 47, 48, 49, 50, 51, 52, 53, 54, 55] (by decide +kernel) (by decide +kernel)
set_option maxRecDepth 20000 in
theorem gX4_digestOn_X4_familyFact : GoodIn wsX4_digestOn (wsV RX4 134 RX4 yX4_familyFact wsX4_familyFact) := goodIn_app (goodIn_of _ (by decide +kernel)) ggX4_digestOn_X4_familyFact
set_option maxRecDepth 20000 in
theorem ggX4_digestOn_X6_digestOn : GoodIn wsX4_digestOn wsX6_digestOn := goodIn_r _ [36, 37, 38, 39, 40, 56, 57, 58, 59] (by decide +kernel) (by decide +kernel)
set_option maxRecDepth 20000 in
theorem gX4_digestOn_X6_digestOn : GoodIn wsX4_digestOn (wsV RX4 137 RX6 yX6_digestOn wsX6_digestOn) := goodIn_app (goodIn_of _ (by decide +kernel)) ggX4_digestOn_X6_digestOn
theorem dX4_digestOn_0 : decode cX4_digestOn 0 = .ok (.lload_n 1, 1) := by decide +kernel
theorem dX4_digestOn_1 : decode cX4_digestOn 1 = .ok (.lstore_n 3, 1) := by decide +kernel
theorem dX4_digestOn_2 : decode cX4_digestOn 2 = .ok (.iconst 0, 1) := by decide +kernel
theorem dX4_digestOn_3 : decode cX4_digestOn 3 = .ok (.istore 5, 2) := by decide +kernel
theorem dX4_digestOn_5 : decode cX4_digestOn 5 = .ok (.iload 5, 2) := by decide +kernel
theorem dX4_digestOn_7 : decode cX4_digestOn 7 = .ok (.aload_n 0, 1) := by decide +kernel
theorem dX4_digestOn_8 : decode cX4_digestOn 8 = .ok (.getfield 51, 3) := by decide +kernel
theorem dX4_digestOn_11 : decode cX4_digestOn 11 = .ok (.if_icmp .ge 40, 3) := by decide +kernel
theorem dX4_digestOn_14 : decode cX4_digestOn 14 = .ok (.iconst 0, 1) := by decide +kernel
theorem dX4_digestOn_15 : decode cX4_digestOn 15 = .ok (.istore 6, 2) := by decide +kernel
theorem dX4_digestOn_17 : decode cX4_digestOn 17 = .ok (.iload 6, 2) := by decide +kernel
theorem dX4_digestOn_19 : decode cX4_digestOn 19 = .ok (.iconst 4, 1) := by decide +kernel
theorem dX4_digestOn_20 : decode cX4_digestOn 20 = .ok (.if_icmp .ge 25, 3) := by decide +kernel
theorem dX4_digestOn_23 : decode cX4_digestOn 23 = .ok (.ldc2_w 129, 3) := by decide +kernel
theorem dX4_digestOn_26 : decode cX4_digestOn 26 = .ok (.lload_n 3, 1) := by decide +kernel
theorem dX4_digestOn_27 : decode cX4_digestOn 27 = .ok (.lmul, 1) := by decide +kernel
theorem dX4_digestOn_28 : decode cX4_digestOn 28 = .ok (.aload_n 0, 1) := by decide +kernel
theorem dX4_digestOn_29 : decode cX4_digestOn 29 = .ok (.iload 5, 2) := by decide +kernel
theorem dX4_digestOn_31 : decode cX4_digestOn 31 = .ok (.iload 6, 2) := by decide +kernel
theorem dX4_digestOn_33 : decode cX4_digestOn 33 = .ok (.invokevirtual 131, 3) := by decide +kernel
theorem dX4_digestOn_36 : decode cX4_digestOn 36 = .ok (.i2l, 1) := by decide +kernel
theorem dX4_digestOn_37 : decode cX4_digestOn 37 = .ok (.ladd, 1) := by decide +kernel
theorem dX4_digestOn_38 : decode cX4_digestOn 38 = .ok (.lstore_n 3, 1) := by decide +kernel
theorem dX4_digestOn_39 : decode cX4_digestOn 39 = .ok (.iinc 6 1, 3) := by decide +kernel
theorem dX4_digestOn_42 : decode cX4_digestOn 42 = .ok (.goto (-25), 3) := by decide +kernel
theorem dX4_digestOn_45 : decode cX4_digestOn 45 = .ok (.iinc 5 1, 3) := by decide +kernel
theorem dX4_digestOn_48 : decode cX4_digestOn 48 = .ok (.goto (-43), 3) := by decide +kernel
theorem dX4_digestOn_51 : decode cX4_digestOn 51 = .ok (.iconst 0, 1) := by decide +kernel
theorem dX4_digestOn_52 : decode cX4_digestOn 52 = .ok (.istore 5, 2) := by decide +kernel
theorem dX4_digestOn_54 : decode cX4_digestOn 54 = .ok (.iload 5, 2) := by decide +kernel
theorem dX4_digestOn_56 : decode cX4_digestOn 56 = .ok (.aload_n 0, 1) := by decide +kernel
theorem dX4_digestOn_57 : decode cX4_digestOn 57 = .ok (.getfield 55, 3) := by decide +kernel
theorem dX4_digestOn_60 : decode cX4_digestOn 60 = .ok (.if_icmp .ge 40, 3) := by decide +kernel
theorem dX4_digestOn_63 : decode cX4_digestOn 63 = .ok (.iconst 0, 1) := by decide +kernel
theorem dX4_digestOn_64 : decode cX4_digestOn 64 = .ok (.istore 6, 2) := by decide +kernel
theorem dX4_digestOn_66 : decode cX4_digestOn 66 = .ok (.iload 6, 2) := by decide +kernel
theorem dX4_digestOn_68 : decode cX4_digestOn 68 = .ok (.iconst 5, 1) := by decide +kernel
theorem dX4_digestOn_69 : decode cX4_digestOn 69 = .ok (.if_icmp .ge 25, 3) := by decide +kernel
theorem dX4_digestOn_72 : decode cX4_digestOn 72 = .ok (.ldc2_w 129, 3) := by decide +kernel
theorem dX4_digestOn_75 : decode cX4_digestOn 75 = .ok (.lload_n 3, 1) := by decide +kernel
theorem dX4_digestOn_76 : decode cX4_digestOn 76 = .ok (.lmul, 1) := by decide +kernel
theorem dX4_digestOn_77 : decode cX4_digestOn 77 = .ok (.aload_n 0, 1) := by decide +kernel
theorem dX4_digestOn_78 : decode cX4_digestOn 78 = .ok (.iload 5, 2) := by decide +kernel
theorem dX4_digestOn_80 : decode cX4_digestOn 80 = .ok (.iload 6, 2) := by decide +kernel
theorem dX4_digestOn_82 : decode cX4_digestOn 82 = .ok (.invokevirtual 134, 3) := by decide +kernel
theorem dX4_digestOn_85 : decode cX4_digestOn 85 = .ok (.i2l, 1) := by decide +kernel
theorem dX4_digestOn_86 : decode cX4_digestOn 86 = .ok (.ladd, 1) := by decide +kernel
theorem dX4_digestOn_87 : decode cX4_digestOn 87 = .ok (.lstore_n 3, 1) := by decide +kernel
theorem dX4_digestOn_88 : decode cX4_digestOn 88 = .ok (.iinc 6 1, 3) := by decide +kernel
theorem dX4_digestOn_91 : decode cX4_digestOn 91 = .ok (.goto (-25), 3) := by decide +kernel
theorem dX4_digestOn_94 : decode cX4_digestOn 94 = .ok (.iinc 5 1, 3) := by decide +kernel
theorem dX4_digestOn_97 : decode cX4_digestOn 97 = .ok (.goto (-43), 3) := by decide +kernel
theorem dX4_digestOn_100 : decode cX4_digestOn 100 = .ok (.aload_n 0, 1) := by decide +kernel
theorem dX4_digestOn_101 : decode cX4_digestOn 101 = .ok (.getfield 48, 3) := by decide +kernel
theorem dX4_digestOn_104 : decode cX4_digestOn 104 = .ok (.aload_n 0, 1) := by decide +kernel
theorem dX4_digestOn_105 : decode cX4_digestOn 105 = .ok (.getfield 45, 3) := by decide +kernel
theorem dX4_digestOn_108 : decode cX4_digestOn 108 = .ok (.aload_n 0, 1) := by decide +kernel
theorem dX4_digestOn_109 : decode cX4_digestOn 109 = .ok (.getfield 42, 3) := by decide +kernel
theorem dX4_digestOn_112 : decode cX4_digestOn 112 = .ok (.lload_n 3, 1) := by decide +kernel
theorem dX4_digestOn_113 : decode cX4_digestOn 113 = .ok (.invokevirtual 137, 3) := by decide +kernel
theorem dX4_digestOn_116 : decode cX4_digestOn 116 = .ok (.invokevirtual 137, 3) := by decide +kernel
theorem dX4_digestOn_119 : decode cX4_digestOn 119 = .ok (.invokevirtual 137, 3) := by decide +kernel
theorem dX4_digestOn_122 : decode cX4_digestOn 122 = .ok (.lreturn, 1) := by decide +kernel
theorem dX5_init_0 : decode cX5_init 0 = .ok (.aload_n 0, 1) := by decide +kernel
theorem dX5_init_1 : decode cX5_init 1 = .ok (.invokespecial 3, 3) := by decide +kernel
theorem dX5_init_4 : decode cX5_init 4 = .ok (.aload_n 0, 1) := by decide +kernel
theorem dX5_init_5 : decode cX5_init 5 = .ok (.bipush 25, 2) := by decide +kernel
theorem dX5_init_7 : decode cX5_init 7 = .ok (.newarray .int, 2) := by decide +kernel
theorem dX5_init_9 : decode cX5_init 9 = .ok (.putfield 9, 3) := by decide +kernel
theorem dX5_init_12 : decode cX5_init 12 = .ok (.aload_n 0, 1) := by decide +kernel
theorem dX5_init_13 : decode cX5_init 13 = .ok (.bipush 25, 2) := by decide +kernel
theorem dX5_init_15 : decode cX5_init 15 = .ok (.newarray .int, 2) := by decide +kernel
theorem dX5_init_17 : decode cX5_init 17 = .ok (.putfield 15, 3) := by decide +kernel
theorem dX5_init_20 : decode cX5_init 20 = .ok (.aload_n 0, 1) := by decide +kernel
theorem dX5_init_21 : decode cX5_init 21 = .ok (.aload_n 1, 1) := by decide +kernel
theorem dX5_init_22 : decode cX5_init 22 = .ok (.putfield 18, 3) := by decide +kernel
theorem dX5_init_25 : decode cX5_init 25 = .ok (.return_, 1) := by decide +kernel
set_option maxRecDepth 20000 in
theorem ggX5_leadTo_X4_scentAt : GoodIn wsX5_leadTo wsX4_scentAt := goodIn_r _ [12, 13, 14, 15, 16, 17, 18, 19, 20, 21, 22, 23, 24, 37, 38, 39, 40, 41, 42, 43, 44, 45, 46, 47, 48, 49, 50, 51] (by decide +kernel) (by decide +kernel)
set_option maxRecDepth 20000 in
theorem gX5_leadTo_X4_scentAt : GoodIn wsX5_leadTo (wsV RX5 34 RX4 yX4_scentAt wsX4_scentAt) := goodIn_app (goodIn_of _ (by decide +kernel)) ggX5_leadTo_X4_scentAt
set_option maxRecDepth 20000 in
theorem ggX5_leadTo_X5_improve : GoodIn wsX5_leadTo wsX5_improve := goodIn_r _ [29, 6, 2, 30, 31, 28, 32, 33, 34, 35, 36] (by decide +kernel) (by decide +kernel)
set_option maxRecDepth 20000 in
theorem gX5_leadTo_X5_improve : GoodIn wsX5_leadTo (wsV RX5 39 RX5 yX5_improve wsX5_improve) := goodIn_app (goodIn_of _ (by decide +kernel)) ggX5_leadTo_X5_improve
theorem dX5_leadTo_0 : decode cX5_leadTo 0 = .ok (.aload_n 0, 1) := by decide +kernel
theorem dX5_leadTo_1 : decode cX5_leadTo 1 = .ok (.iload_n 1, 1) := by decide +kernel
theorem dX5_leadTo_2 : decode cX5_leadTo 2 = .ok (.putfield 22, 3) := by decide +kernel
theorem dX5_leadTo_5 : decode cX5_leadTo 5 = .ok (.iconst 0, 1) := by decide +kernel
theorem dX5_leadTo_6 : decode cX5_leadTo 6 = .ok (.istore_n 2, 1) := by decide +kernel
theorem dX5_leadTo_7 : decode cX5_leadTo 7 = .ok (.iload_n 2, 1) := by decide +kernel
theorem dX5_leadTo_8 : decode cX5_leadTo 8 = .ok (.bipush 25, 2) := by decide +kernel
theorem dX5_leadTo_10 : decode cX5_leadTo 10 = .ok (.if_icmp .ge 50, 3) := by decide +kernel
theorem dX5_leadTo_13 : decode cX5_leadTo 13 = .ok (.aload_n 0, 1) := by decide +kernel
theorem dX5_leadTo_14 : decode cX5_leadTo 14 = .ok (.getfield 9, 3) := by decide +kernel
theorem dX5_leadTo_17 : decode cX5_leadTo 17 = .ok (.iload_n 2, 1) := by decide +kernel
theorem dX5_leadTo_18 : decode cX5_leadTo 18 = .ok (.aload_n 0, 1) := by decide +kernel
theorem dX5_leadTo_19 : decode cX5_leadTo 19 = .ok (.getfield 18, 3) := by decide +kernel
theorem dX5_leadTo_22 : decode cX5_leadTo 22 = .ok (.iload_n 2, 1) := by decide +kernel
theorem dX5_leadTo_23 : decode cX5_leadTo 23 = .ok (.aload_n 0, 1) := by decide +kernel
theorem dX5_leadTo_24 : decode cX5_leadTo 24 = .ok (.getfield 18, 3) := by decide +kernel
theorem dX5_leadTo_27 : decode cX5_leadTo 27 = .ok (.getfield 26, 3) := by decide +kernel
theorem dX5_leadTo_30 : decode cX5_leadTo 30 = .ok (.aload_n 0, 1) := by decide +kernel
theorem dX5_leadTo_31 : decode cX5_leadTo 31 = .ok (.getfield 18, 3) := by decide +kernel
theorem dX5_leadTo_34 : decode cX5_leadTo 34 = .ok (.getfield 31, 3) := by decide +kernel
theorem dX5_leadTo_37 : decode cX5_leadTo 37 = .ok (.invokevirtual 34, 3) := by decide +kernel
theorem dX5_leadTo_40 : decode cX5_leadTo 40 = .ok (.bipush 64, 2) := by decide +kernel
theorem dX5_leadTo_42 : decode cX5_leadTo 42 = .ok (.imul, 1) := by decide +kernel
theorem dX5_leadTo_43 : decode cX5_leadTo 43 = .ok (.iconst 1, 1) := by decide +kernel
theorem dX5_leadTo_44 : decode cX5_leadTo 44 = .ok (.iadd, 1) := by decide +kernel
theorem dX5_leadTo_45 : decode cX5_leadTo 45 = .ok (.iastore, 1) := by decide +kernel
theorem dX5_leadTo_46 : decode cX5_leadTo 46 = .ok (.aload_n 0, 1) := by decide +kernel
theorem dX5_leadTo_47 : decode cX5_leadTo 47 = .ok (.getfield 15, 3) := by decide +kernel
theorem dX5_leadTo_50 : decode cX5_leadTo 50 = .ok (.iload_n 2, 1) := by decide +kernel
theorem dX5_leadTo_51 : decode cX5_leadTo 51 = .ok (.ldc 38, 2) := by decide +kernel
theorem dX5_leadTo_53 : decode cX5_leadTo 53 = .ok (.iastore, 1) := by decide +kernel
theorem dX5_leadTo_54 : decode cX5_leadTo 54 = .ok (.iinc 2 1, 3) := by decide +kernel
theorem dX5_leadTo_57 : decode cX5_leadTo 57 = .ok (.goto (-50), 3) := by decide +kernel
theorem dX5_leadTo_60 : decode cX5_leadTo 60 = .ok (.aload_n 0, 1) := by decide +kernel
theorem dX5_leadTo_61 : decode cX5_leadTo 61 = .ok (.getfield 15, 3) := by decide +kernel
theorem dX5_leadTo_64 : decode cX5_leadTo 64 = .ok (.iload_n 1, 1) := by decide +kernel
theorem dX5_leadTo_65 : decode cX5_leadTo 65 = .ok (.iconst 0, 1) := by decide +kernel
theorem dX5_leadTo_66 : decode cX5_leadTo 66 = .ok (.iastore, 1) := by decide +kernel
theorem dX5_leadTo_67 : decode cX5_leadTo 67 = .ok (.iconst 1, 1) := by decide +kernel
theorem dX5_leadTo_68 : decode cX5_leadTo 68 = .ok (.istore_n 2, 1) := by decide +kernel
theorem dX5_leadTo_69 : decode cX5_leadTo 69 = .ok (.iconst 0, 1) := by decide +kernel
theorem dX5_leadTo_70 : decode cX5_leadTo 70 = .ok (.istore_n 3, 1) := by decide +kernel
theorem dX5_leadTo_71 : decode cX5_leadTo 71 = .ok (.iload_n 3, 1) := by decide +kernel
theorem dX5_leadTo_72 : decode cX5_leadTo 72 = .ok (.bipush 25, 2) := by decide +kernel
theorem dX5_leadTo_74 : decode cX5_leadTo 74 = .ok (.if_icmp .ge 50, 3) := by decide +kernel
theorem dX5_leadTo_77 : decode cX5_leadTo 77 = .ok (.iload_n 2, 1) := by decide +kernel
theorem dX5_leadTo_78 : decode cX5_leadTo 78 = .ok (.ifCond .eq 46, 3) := by decide +kernel
theorem dX5_leadTo_81 : decode cX5_leadTo 81 = .ok (.iconst 0, 1) := by decide +kernel
theorem dX5_leadTo_82 : decode cX5_leadTo 82 = .ok (.istore_n 2, 1) := by decide +kernel
theorem dX5_leadTo_83 : decode cX5_leadTo 83 = .ok (.iconst 0, 1) := by decide +kernel
theorem dX5_leadTo_84 : decode cX5_leadTo 84 = .ok (.istore 4, 2) := by decide +kernel
theorem dX5_leadTo_86 : decode cX5_leadTo 86 = .ok (.iload 4, 2) := by decide +kernel
theorem dX5_leadTo_88 : decode cX5_leadTo 88 = .ok (.bipush 25, 2) := by decide +kernel
theorem dX5_leadTo_90 : decode cX5_leadTo 90 = .ok (.if_icmp .ge 28, 3) := by decide +kernel
theorem dX5_leadTo_93 : decode cX5_leadTo 93 = .ok (.aload_n 0, 1) := by decide +kernel
theorem dX5_leadTo_94 : decode cX5_leadTo 94 = .ok (.iload 4, 2) := by decide +kernel
theorem dX5_leadTo_96 : decode cX5_leadTo 96 = .ok (.invokevirtual 39, 3) := by decide +kernel
theorem dX5_leadTo_99 : decode cX5_leadTo 99 = .ok (.ifCond .ne 7, 3) := by decide +kernel
theorem dX5_leadTo_102 : decode cX5_leadTo 102 = .ok (.iload_n 2, 1) := by decide +kernel
theorem dX5_leadTo_103 : decode cX5_leadTo 103 = .ok (.ifCond .eq 7, 3) := by decide +kernel
theorem dX5_leadTo_106 : decode cX5_leadTo 106 = .ok (.iconst 1, 1) := by decide +kernel
theorem dX5_leadTo_107 : decode cX5_leadTo 107 = .ok (.goto 4, 3) := by decide +kernel
theorem dX5_leadTo_110 : decode cX5_leadTo 110 = .ok (.iconst 0, 1) := by decide +kernel
theorem dX5_leadTo_111 : decode cX5_leadTo 111 = .ok (.istore_n 2, 1) := by decide +kernel
theorem dX5_leadTo_112 : decode cX5_leadTo 112 = .ok (.iinc 4 1, 3) := by decide +kernel
theorem dX5_leadTo_115 : decode cX5_leadTo 115 = .ok (.goto (-29), 3) := by decide +kernel
theorem dX5_leadTo_118 : decode cX5_leadTo 118 = .ok (.iinc 3 1, 3) := by decide +kernel
theorem dX5_leadTo_121 : decode cX5_leadTo 121 = .ok (.goto (-50), 3) := by decide +kernel
theorem dX5_leadTo_124 : decode cX5_leadTo 124 = .ok (.return_, 1) := by decide +kernel
set_option maxRecDepth 20000 in
theorem ggX5_improve_X5_beside : GoodIn wsX5_improve wsX5_beside := goodIn_r _ [6] (by decide +kernel) (by decide +kernel)
set_option maxRecDepth 20000 in
theorem gX5_improve_X5_beside : GoodIn wsX5_improve (va_wsS RX5 43 yX5_beside wsX5_beside) := goodIn_app (goodIn_of _ (by decide +kernel)) ggX5_improve_X5_beside
theorem dX5_improve_0 : decode cX5_improve 0 = .ok (.iconst 0, 1) := by decide +kernel
theorem dX5_improve_1 : decode cX5_improve 1 = .ok (.istore_n 2, 1) := by decide +kernel
theorem dX5_improve_2 : decode cX5_improve 2 = .ok (.iconst 0, 1) := by decide +kernel
theorem dX5_improve_3 : decode cX5_improve 3 = .ok (.istore_n 3, 1) := by decide +kernel
theorem dX5_improve_4 : decode cX5_improve 4 = .ok (.iload_n 3, 1) := by decide +kernel
theorem dX5_improve_5 : decode cX5_improve 5 = .ok (.iconst 4, 1) := by decide +kernel
theorem dX5_improve_6 : decode cX5_improve 6 = .ok (.if_icmp .ge 69, 3) := by decide +kernel
theorem dX5_improve_9 : decode cX5_improve 9 = .ok (.iload_n 1, 1) := by decide +kernel
theorem dX5_improve_10 : decode cX5_improve 10 = .ok (.iload_n 3, 1) := by decide +kernel
theorem dX5_improve_11 : decode cX5_improve 11 = .ok (.invokestatic 43, 3) := by decide +kernel
theorem dX5_improve_14 : decode cX5_improve 14 = .ok (.istore 4, 2) := by decide +kernel
theorem dX5_improve_16 : decode cX5_improve 16 = .ok (.iload 4, 2) := by decide +kernel
theorem dX5_improve_18 : decode cX5_improve 18 = .ok (.iconst (-1), 1) := by decide +kernel
theorem dX5_improve_19 : decode cX5_improve 19 = .ok (.if_icmp .eq 50, 3) := by decide +kernel
theorem dX5_improve_22 : decode cX5_improve 22 = .ok (.aload_n 0, 1) := by decide +kernel
theorem dX5_improve_23 : decode cX5_improve 23 = .ok (.getfield 15, 3) := by decide +kernel
theorem dX5_improve_26 : decode cX5_improve 26 = .ok (.iload 4, 2) := by decide +kernel
theorem dX5_improve_28 : decode cX5_improve 28 = .ok (.iaload, 1) := by decide +kernel
theorem dX5_improve_29 : decode cX5_improve 29 = .ok (.aload_n 0, 1) := by decide +kernel
theorem dX5_improve_30 : decode cX5_improve 30 = .ok (.getfield 9, 3) := by decide +kernel
theorem dX5_improve_33 : decode cX5_improve 33 = .ok (.iload 4, 2) := by decide +kernel
theorem dX5_improve_35 : decode cX5_improve 35 = .ok (.iaload, 1) := by decide +kernel
theorem dX5_improve_36 : decode cX5_improve 36 = .ok (.iadd, 1) := by decide +kernel
theorem dX5_improve_37 : decode cX5_improve 37 = .ok (.aload_n 0, 1) := by decide +kernel
theorem dX5_improve_38 : decode cX5_improve 38 = .ok (.getfield 15, 3) := by decide +kernel
theorem dX5_improve_41 : decode cX5_improve 41 = .ok (.iload_n 1, 1) := by decide +kernel
theorem dX5_improve_42 : decode cX5_improve 42 = .ok (.iaload, 1) := by decide +kernel
theorem dX5_improve_43 : decode cX5_improve 43 = .ok (.if_icmp .ge 26, 3) := by decide +kernel
theorem dX5_improve_46 : decode cX5_improve 46 = .ok (.aload_n 0, 1) := by decide +kernel
theorem dX5_improve_47 : decode cX5_improve 47 = .ok (.getfield 15, 3) := by decide +kernel
theorem dX5_improve_50 : decode cX5_improve 50 = .ok (.iload_n 1, 1) := by decide +kernel
theorem dX5_improve_51 : decode cX5_improve 51 = .ok (.aload_n 0, 1) := by decide +kernel
theorem dX5_improve_52 : decode cX5_improve 52 = .ok (.getfield 15, 3) := by decide +kernel
theorem dX5_improve_55 : decode cX5_improve 55 = .ok (.iload 4, 2) := by decide +kernel
theorem dX5_improve_57 : decode cX5_improve 57 = .ok (.iaload, 1) := by decide +kernel
theorem dX5_improve_58 : decode cX5_improve 58 = .ok (.aload_n 0, 1) := by decide +kernel
theorem dX5_improve_59 : decode cX5_improve 59 = .ok (.getfield 9, 3) := by decide +kernel
theorem dX5_improve_62 : decode cX5_improve 62 = .ok (.iload 4, 2) := by decide +kernel
theorem dX5_improve_64 : decode cX5_improve 64 = .ok (.iaload, 1) := by decide +kernel
theorem dX5_improve_65 : decode cX5_improve 65 = .ok (.iadd, 1) := by decide +kernel
theorem dX5_improve_66 : decode cX5_improve 66 = .ok (.iastore, 1) := by decide +kernel
theorem dX5_improve_67 : decode cX5_improve 67 = .ok (.iconst 1, 1) := by decide +kernel
theorem dX5_improve_68 : decode cX5_improve 68 = .ok (.istore_n 2, 1) := by decide +kernel
theorem dX5_improve_69 : decode cX5_improve 69 = .ok (.iinc 3 1, 3) := by decide +kernel
theorem dX5_improve_72 : decode cX5_improve 72 = .ok (.goto (-68), 3) := by decide +kernel
theorem dX5_improve_75 : decode cX5_improve 75 = .ok (.iload_n 2, 1) := by decide +kernel
theorem dX5_improve_76 : decode cX5_improve 76 = .ok (.ireturn, 1) := by decide +kernel
theorem dX5_beside_0 : decode cX5_beside 0 = .ok (.iload_n 1, 1) := by decide +kernel
theorem dX5_beside_1 : decode cX5_beside 1 = .ok (.tableswitch 69 0 2 #[27, 40, 54], 27) := by decide +kernel
theorem dX5_beside_28 : decode cX5_beside 28 = .ok (.iload_n 0, 1) := by decide +kernel
theorem dX5_beside_29 : decode cX5_beside 29 = .ok (.iconst 5, 1) := by decide +kernel
theorem dX5_beside_30 : decode cX5_beside 30 = .ok (.if_icmp .lt 9, 3) := by decide +kernel
theorem dX5_beside_33 : decode cX5_beside 33 = .ok (.iload_n 0, 1) := by decide +kernel
theorem dX5_beside_34 : decode cX5_beside 34 = .ok (.iconst 5, 1) := by decide +kernel
theorem dX5_beside_35 : decode cX5_beside 35 = .ok (.isub, 1) := by decide +kernel
theorem dX5_beside_36 : decode cX5_beside 36 = .ok (.goto 4, 3) := by decide +kernel
theorem dX5_beside_39 : decode cX5_beside 39 = .ok (.iconst (-1), 1) := by decide +kernel
theorem dX5_beside_40 : decode cX5_beside 40 = .ok (.ireturn, 1) := by decide +kernel
theorem dX5_beside_41 : decode cX5_beside 41 = .ok (.iload_n 0, 1) := by decide +kernel
theorem dX5_beside_42 : decode cX5_beside 42 = .ok (.iconst 5, 1) := by decide +kernel
theorem dX5_beside_43 : decode cX5_beside 43 = .ok (.irem, 1) := by decide +kernel
theorem dX5_beside_44 : decode cX5_beside 44 = .ok (.ifCond .le 9, 3) := by decide +kernel
theorem dX5_beside_47 : decode cX5_beside 47 = .ok (.iload_n 0, 1) := by decide +kernel
theorem dX5_beside_48 : decode cX5_beside 48 = .ok (.iconst 1, 1) := by decide +kernel
theorem dX5_beside_49 : decode cX5_beside 49 = .ok (.isub, 1) := by decide +kernel
theorem dX5_beside_50 : decode cX5_beside 50 = .ok (.goto 4, 3) := by decide +kernel
theorem dX5_beside_53 : decode cX5_beside 53 = .ok (.iconst (-1), 1) := by decide +kernel
theorem dX5_beside_54 : decode cX5_beside 54 = .ok (.ireturn, 1) := by decide +kernel
theorem dX5_beside_55 : decode cX5_beside 55 = .ok (.iload_n 0, 1) := by decide +kernel
theorem dX5_beside_56 : decode cX5_beside 56 = .ok (.iconst 5, 1) := by decide +kernel
theorem dX5_beside_57 : decode cX5_beside 57 = .ok (.irem, 1) := by decide +kernel
theorem dX5_beside_58 : decode cX5_beside 58 = .ok (.iconst 4, 1) := by decide +kernel
theorem dX5_beside_59 : decode cX5_beside 59 = .ok (.if_icmp .ge 9, 3) := by decide +kernel
theorem dX5_beside_62 : decode cX5_beside 62 = .ok (.iload_n 0, 1) := by decide +kernel
theorem dX5_beside_63 : decode cX5_beside 63 = .ok (.iconst 1, 1) := by decide +kernel
theorem dX5_beside_64 : decode cX5_beside 64 = .ok (.iadd, 1) := by decide +kernel
theorem dX5_beside_65 : decode cX5_beside 65 = .ok (.goto 4, 3) := by decide +kernel
theorem dX5_beside_68 : decode cX5_beside 68 = .ok (.iconst (-1), 1) := by decide +kernel
theorem dX5_beside_69 : decode cX5_beside 69 = .ok (.ireturn, 1) := by decide +kernel
theorem dX5_beside_70 : decode cX5_beside 70 = .ok (.iload_n 0, 1) := by decide +kernel
theorem dX5_beside_71 : decode cX5_beside 71 = .ok (.iconst 5, 1) := by decide +kernel
theorem dX5_beside_72 : decode cX5_beside 72 = .ok (.iadd, 1) := by decide +kernel
theorem dX5_beside_73 : decode cX5_beside 73 = .ok (.bipush 25, 2) := by decide +kernel
theorem dX5_beside_75 : decode cX5_beside 75 = .ok (.if_icmp .ge 9, 3) := by decide +kernel
theorem dX5_beside_78 : decode cX5_beside 78 = .ok (.iload_n 0, 1) := by decide +kernel
theorem dX5_beside_79 : decode cX5_beside 79 = .ok (.iconst 5, 1) := by decide +kernel
theorem dX5_beside_80 : decode cX5_beside 80 = .ok (.iadd, 1) := by decide +kernel
theorem dX5_beside_81 : decode cX5_beside 81 = .ok (.goto 4, 3) := by decide +kernel
theorem dX5_beside_84 : decode cX5_beside 84 = .ok (.iconst (-1), 1) := by decide +kernel
theorem dX5_beside_85 : decode cX5_beside 85 = .ok (.ireturn, 1) := by decide +kernel
theorem dX5_smellFrom_0 : decode cX5_smellFrom 0 = .ok (.aload_n 0, 1) := by decide +kernel
theorem dX5_smellFrom_1 : decode cX5_smellFrom 1 = .ok (.getfield 15, 3) := by decide +kernel
theorem dX5_smellFrom_4 : decode cX5_smellFrom 4 = .ok (.iload_n 1, 1) := by decide +kernel
theorem dX5_smellFrom_5 : decode cX5_smellFrom 5 = .ok (.iaload, 1) := by decide +kernel
theorem dX5_smellFrom_6 : decode cX5_smellFrom 6 = .ok (.bipush 64, 2) := by decide +kernel
theorem dX5_smellFrom_8 : decode cX5_smellFrom 8 = .ok (.idiv, 1) := by decide +kernel
theorem dX5_smellFrom_9 : decode cX5_smellFrom 9 = .ok (.ireturn, 1) := by decide +kernel
theorem dX5_stepsFrom_0 : decode cX5_stepsFrom 0 = .ok (.aload_n 0, 1) := by decide +kernel
theorem dX5_stepsFrom_1 : decode cX5_stepsFrom 1 = .ok (.getfield 15, 3) := by decide +kernel
theorem dX5_stepsFrom_4 : decode cX5_stepsFrom 4 = .ok (.iload_n 1, 1) := by decide +kernel
theorem dX5_stepsFrom_5 : decode cX5_stepsFrom 5 = .ok (.iaload, 1) := by decide +kernel
theorem dX5_stepsFrom_6 : decode cX5_stepsFrom 6 = .ok (.bipush 64, 2) := by decide +kernel
theorem dX5_stepsFrom_8 : decode cX5_stepsFrom 8 = .ok (.irem, 1) := by decide +kernel
theorem dX5_stepsFrom_9 : decode cX5_stepsFrom 9 = .ok (.ireturn, 1) := by decide +kernel
set_option maxRecDepth 20000 in
theorem ggX5_cellOfStep_X5_stepFrom : GoodIn wsX5_cellOfStep wsX5_stepFrom := goodIn_r _ [6, 7, 8, 9, 10, 5, 11, 12, 13, 14, 15] (by decide +kernel) (by decide +kernel)
set_option maxRecDepth 20000 in
theorem gX5_cellOfStep_X5_stepFrom : GoodIn wsX5_cellOfStep (wsV RX5 47 RX5 yX5_stepFrom wsX5_stepFrom) := goodIn_app (goodIn_of _ (by decide +kernel)) ggX5_cellOfStep_X5_stepFrom
theorem dX5_cellOfStep_0 : decode cX5_cellOfStep 0 = .ok (.iload_n 1, 1) := by decide +kernel
theorem dX5_cellOfStep_1 : decode cX5_cellOfStep 1 = .ok (.istore_n 3, 1) := by decide +kernel
theorem dX5_cellOfStep_2 : decode cX5_cellOfStep 2 = .ok (.iconst 0, 1) := by decide +kernel
theorem dX5_cellOfStep_3 : decode cX5_cellOfStep 3 = .ok (.istore 4, 2) := by decide +kernel
theorem dX5_cellOfStep_5 : decode cX5_cellOfStep 5 = .ok (.iload 4, 2) := by decide +kernel
theorem dX5_cellOfStep_7 : decode cX5_cellOfStep 7 = .ok (.iload_n 2, 1) := by decide +kernel
theorem dX5_cellOfStep_8 : decode cX5_cellOfStep 8 = .ok (.if_icmp .gt 30, 3) := by decide +kernel
theorem dX5_cellOfStep_11 : decode cX5_cellOfStep 11 = .ok (.iload 4, 2) := by decide +kernel
theorem dX5_cellOfStep_13 : decode cX5_cellOfStep 13 = .ok (.bipush 25, 2) := by decide +kernel
theorem dX5_cellOfStep_15 : decode cX5_cellOfStep 15 = .ok (.if_icmp .ge 23, 3) := by decide +kernel
theorem dX5_cellOfStep_18 : decode cX5_cellOfStep 18 = .ok (.iload_n 3, 1) := by decide +kernel
theorem dX5_cellOfStep_19 : decode cX5_cellOfStep 19 = .ok (.aload_n 0, 1) := by decide +kernel
theorem dX5_cellOfStep_20 : decode cX5_cellOfStep 20 = .ok (.getfield 22, 3) := by decide +kernel
theorem dX5_cellOfStep_23 : decode cX5_cellOfStep 23 = .ok (.if_icmp .eq 15, 3) := by decide +kernel
theorem dX5_cellOfStep_26 : decode cX5_cellOfStep 26 = .ok (.aload_n 0, 1) := by decide +kernel
theorem dX5_cellOfStep_27 : decode cX5_cellOfStep 27 = .ok (.iload_n 3, 1) := by decide +kernel
theorem dX5_cellOfStep_28 : decode cX5_cellOfStep 28 = .ok (.invokevirtual 47, 3) := by decide +kernel
theorem dX5_cellOfStep_31 : decode cX5_cellOfStep 31 = .ok (.istore_n 3, 1) := by decide +kernel
theorem dX5_cellOfStep_32 : decode cX5_cellOfStep 32 = .ok (.iinc 4 1, 3) := by decide +kernel
theorem dX5_cellOfStep_35 : decode cX5_cellOfStep 35 = .ok (.goto (-30), 3) := by decide +kernel
theorem dX5_cellOfStep_38 : decode cX5_cellOfStep 38 = .ok (.iload_n 3, 1) := by decide +kernel
theorem dX5_cellOfStep_39 : decode cX5_cellOfStep 39 = .ok (.ireturn, 1) := by decide +kernel
set_option maxRecDepth 20000 in
theorem ggX5_stepFrom_X5_beside : GoodIn wsX5_stepFrom wsX5_beside := goodIn_r _ [6] (by decide +kernel) (by decide +kernel)
set_option maxRecDepth 20000 in
theorem gX5_stepFrom_X5_beside : GoodIn wsX5_stepFrom (va_wsS RX5 43 yX5_beside wsX5_beside) := goodIn_app (goodIn_of _ (by decide +kernel)) ggX5_stepFrom_X5_beside
theorem dX5_stepFrom_0 : decode cX5_stepFrom 0 = .ok (.iconst 0, 1) := by decide +kernel
theorem dX5_stepFrom_1 : decode cX5_stepFrom 1 = .ok (.istore_n 2, 1) := by decide +kernel
theorem dX5_stepFrom_2 : decode cX5_stepFrom 2 = .ok (.iload_n 2, 1) := by decide +kernel
theorem dX5_stepFrom_3 : decode cX5_stepFrom 3 = .ok (.iconst 4, 1) := by decide +kernel
theorem dX5_stepFrom_4 : decode cX5_stepFrom 4 = .ok (.if_icmp .ge 44, 3) := by decide +kernel
theorem dX5_stepFrom_7 : decode cX5_stepFrom 7 = .ok (.iload_n 1, 1) := by decide +kernel
theorem dX5_stepFrom_8 : decode cX5_stepFrom 8 = .ok (.iload_n 2, 1) := by decide +kernel
theorem dX5_stepFrom_9 : decode cX5_stepFrom 9 = .ok (.invokestatic 43, 3) := by decide +kernel
theorem dX5_stepFrom_12 : decode cX5_stepFrom 12 = .ok (.istore_n 3, 1) := by decide +kernel
theorem dX5_stepFrom_13 : decode cX5_stepFrom 13 = .ok (.iload_n 3, 1) := by decide +kernel
theorem dX5_stepFrom_14 : decode cX5_stepFrom 14 = .ok (.iconst (-1), 1) := by decide +kernel
theorem dX5_stepFrom_15 : decode cX5_stepFrom 15 = .ok (.if_icmp .eq 27, 3) := by decide +kernel
theorem dX5_stepFrom_18 : decode cX5_stepFrom 18 = .ok (.aload_n 0, 1) := by decide +kernel
theorem dX5_stepFrom_19 : decode cX5_stepFrom 19 = .ok (.getfield 15, 3) := by decide +kernel
theorem dX5_stepFrom_22 : decode cX5_stepFrom 22 = .ok (.iload_n 3, 1) := by decide +kernel
theorem dX5_stepFrom_23 : decode cX5_stepFrom 23 = .ok (.iaload, 1) := by decide +kernel
theorem dX5_stepFrom_24 : decode cX5_stepFrom 24 = .ok (.aload_n 0, 1) := by decide +kernel
theorem dX5_stepFrom_25 : decode cX5_stepFrom 25 = .ok (.getfield 9, 3) := by decide +kernel
theorem dX5_stepFrom_28 : decode cX5_stepFrom 28 = .ok (.iload_n 3, 1) := by decide +kernel
theorem dX5_stepFrom_29 : decode cX5_stepFrom 29 = .ok (.iaload, 1) := by decide +kernel
theorem dX5_stepFrom_30 : decode cX5_stepFrom 30 = .ok (.iadd, 1) := by decide +kernel
theorem dX5_stepFrom_31 : decode cX5_stepFrom 31 = .ok (.aload_n 0, 1) := by decide +kernel
theorem dX5_stepFrom_32 : decode cX5_stepFrom 32 = .ok (.getfield 15, 3) := by decide +kernel
theorem dX5_stepFrom_35 : decode cX5_stepFrom 35 = .ok (.iload_n 1, 1) := by decide +kernel
theorem dX5_stepFrom_36 : decode cX5_stepFrom 36 = .ok (.iaload, 1) := by decide +kernel
theorem dX5_stepFrom_37 : decode cX5_stepFrom 37 = .ok (.if_icmp .ne 5, 3) := by decide +kernel
theorem dX5_stepFrom_40 : decode cX5_stepFrom 40 = .ok (.iload_n 3, 1) := by decide +kernel
theorem dX5_stepFrom_41 : decode cX5_stepFrom 41 = .ok (.ireturn, 1) := by decide +kernel
theorem dX5_stepFrom_42 : decode cX5_stepFrom 42 = .ok (.iinc 2 1, 3) := by decide +kernel
theorem dX5_stepFrom_45 : decode cX5_stepFrom 45 = .ok (.goto (-43), 3) := by decide +kernel
theorem dX5_stepFrom_48 : decode cX5_stepFrom 48 = .ok (.iload_n 1, 1) := by decide +kernel
theorem dX5_stepFrom_49 : decode cX5_stepFrom 49 = .ok (.ireturn, 1) := by decide +kernel
theorem dX6_init_0 : decode cX6_init 0 = .ok (.aload_n 0, 1) := by decide +kernel
theorem dX6_init_1 : decode cX6_init 1 = .ok (.invokespecial 1, 3) := by decide +kernel
theorem dX6_init_4 : decode cX6_init 4 = .ok (.aload_n 0, 1) := by decide +kernel
theorem dX6_init_5 : decode cX6_init 5 = .ok (.iload_n 1, 1) := by decide +kernel
theorem dX6_init_6 : decode cX6_init 6 = .ok (.putfield 7, 3) := by decide +kernel
theorem dX6_init_9 : decode cX6_init 9 = .ok (.aload_n 0, 1) := by decide +kernel
theorem dX6_init_10 : decode cX6_init 10 = .ok (.iload_n 2, 1) := by decide +kernel
theorem dX6_init_11 : decode cX6_init 11 = .ok (.putfield 13, 3) := by decide +kernel
theorem dX6_init_14 : decode cX6_init 14 = .ok (.aload_n 0, 1) := by decide +kernel
theorem dX6_init_15 : decode cX6_init 15 = .ok (.iload_n 1, 1) := by decide +kernel
theorem dX6_init_16 : decode cX6_init 16 = .ok (.iload_n 2, 1) := by decide +kernel
theorem dX6_init_17 : decode cX6_init 17 = .ok (.imul, 1) := by decide +kernel
theorem dX6_init_18 : decode cX6_init 18 = .ok (.newarray .int, 2) := by decide +kernel
theorem dX6_init_20 : decode cX6_init 20 = .ok (.putfield 16, 3) := by decide +kernel
theorem dX6_init_23 : decode cX6_init 23 = .ok (.return_, 1) := by decide +kernel
theorem dX6_isFull_0 : decode cX6_isFull 0 = .ok (.aload_n 0, 1) := by decide +kernel
theorem dX6_isFull_1 : decode cX6_isFull 1 = .ok (.getfield 20, 3) := by decide +kernel
theorem dX6_isFull_4 : decode cX6_isFull 4 = .ok (.aload_n 0, 1) := by decide +kernel
theorem dX6_isFull_5 : decode cX6_isFull 5 = .ok (.getfield 13, 3) := by decide +kernel
theorem dX6_isFull_8 : decode cX6_isFull 8 = .ok (.if_icmp .lt 7, 3) := by decide +kernel
theorem dX6_isFull_11 : decode cX6_isFull 11 = .ok (.iconst 1, 1) := by decide +kernel
theorem dX6_isFull_12 : decode cX6_isFull 12 = .ok (.goto 4, 3) := by decide +kernel
theorem dX6_isFull_15 : decode cX6_isFull 15 = .ok (.iconst 0, 1) := by decide +kernel
theorem dX6_isFull_16 : decode cX6_isFull 16 = .ok (.ireturn, 1) := by decide +kernel
theorem dX6_at_0 : decode cX6_at 0 = .ok (.aload_n 0, 1) := by decide +kernel
theorem dX6_at_1 : decode cX6_at 1 = .ok (.getfield 16, 3) := by decide +kernel
theorem dX6_at_4 : decode cX6_at 4 = .ok (.iload_n 1, 1) := by decide +kernel
theorem dX6_at_5 : decode cX6_at 5 = .ok (.aload_n 0, 1) := by decide +kernel
theorem dX6_at_6 : decode cX6_at 6 = .ok (.getfield 7, 3) := by decide +kernel
theorem dX6_at_9 : decode cX6_at 9 = .ok (.imul, 1) := by decide +kernel
theorem dX6_at_10 : decode cX6_at 10 = .ok (.iload_n 2, 1) := by decide +kernel
theorem dX6_at_11 : decode cX6_at 11 = .ok (.iadd, 1) := by decide +kernel
theorem dX6_at_12 : decode cX6_at 12 = .ok (.iaload, 1) := by decide +kernel
theorem dX6_at_13 : decode cX6_at 13 = .ok (.ireturn, 1) := by decide +kernel
theorem dX6_put_0 : decode cX6_put 0 = .ok (.aload_n 0, 1) := by decide +kernel
theorem dX6_put_1 : decode cX6_put 1 = .ok (.getfield 16, 3) := by decide +kernel
theorem dX6_put_4 : decode cX6_put 4 = .ok (.iload_n 1, 1) := by decide +kernel
theorem dX6_put_5 : decode cX6_put 5 = .ok (.aload_n 0, 1) := by decide +kernel
theorem dX6_put_6 : decode cX6_put 6 = .ok (.getfield 7, 3) := by decide +kernel
theorem dX6_put_9 : decode cX6_put 9 = .ok (.imul, 1) := by decide +kernel
theorem dX6_put_10 : decode cX6_put 10 = .ok (.iload_n 2, 1) := by decide +kernel
theorem dX6_put_11 : decode cX6_put 11 = .ok (.iadd, 1) := by decide +kernel
theorem dX6_put_12 : decode cX6_put 12 = .ok (.iload_n 3, 1) := by decide +kernel
theorem dX6_put_13 : decode cX6_put 13 = .ok (.iastore, 1) := by decide +kernel
theorem dX6_put_14 : decode cX6_put 14 = .ok (.return_, 1) := by decide +kernel
set_option maxRecDepth 20000 in
theorem ggX6_enter_X6_put : GoodIn wsX6_enter wsX6_put := goodIn_r _ [7, 8, 2, 9, 10, 11, 12] (by decide +kernel) (by decide +kernel)
set_option maxRecDepth 20000 in
theorem gX6_enter_X6_put : GoodIn wsX6_enter (wsV RX6 23 RX6 yX6_put wsX6_put) := goodIn_app (goodIn_of _ (by decide +kernel)) ggX6_enter_X6_put
theorem dX6_enter_0 : decode cX6_enter 0 = .ok (.aload_n 0, 1) := by decide +kernel
theorem dX6_enter_1 : decode cX6_enter 1 = .ok (.getfield 20, 3) := by decide +kernel
theorem dX6_enter_4 : decode cX6_enter 4 = .ok (.istore 6, 2) := by decide +kernel
theorem dX6_enter_6 : decode cX6_enter 6 = .ok (.aload_n 0, 1) := by decide +kernel
theorem dX6_enter_7 : decode cX6_enter 7 = .ok (.iload 6, 2) := by decide +kernel
theorem dX6_enter_9 : decode cX6_enter 9 = .ok (.iconst 0, 1) := by decide +kernel
theorem dX6_enter_10 : decode cX6_enter 10 = .ok (.iload_n 1, 1) := by decide +kernel
theorem dX6_enter_11 : decode cX6_enter 11 = .ok (.invokevirtual 23, 3) := by decide +kernel
theorem dX6_enter_14 : decode cX6_enter 14 = .ok (.aload_n 0, 1) := by decide +kernel
theorem dX6_enter_15 : decode cX6_enter 15 = .ok (.iload 6, 2) := by decide +kernel
theorem dX6_enter_17 : decode cX6_enter 17 = .ok (.iconst 1, 1) := by decide +kernel
theorem dX6_enter_18 : decode cX6_enter 18 = .ok (.iload_n 2, 1) := by decide +kernel
theorem dX6_enter_19 : decode cX6_enter 19 = .ok (.invokevirtual 23, 3) := by decide +kernel
theorem dX6_enter_22 : decode cX6_enter 22 = .ok (.aload_n 0, 1) := by decide +kernel
theorem dX6_enter_23 : decode cX6_enter 23 = .ok (.iload 6, 2) := by decide +kernel
theorem dX6_enter_25 : decode cX6_enter 25 = .ok (.iconst 2, 1) := by decide +kernel
theorem dX6_enter_26 : decode cX6_enter 26 = .ok (.iload_n 3, 1) := by decide +kernel
theorem dX6_enter_27 : decode cX6_enter 27 = .ok (.invokevirtual 23, 3) := by decide +kernel
theorem dX6_enter_30 : decode cX6_enter 30 = .ok (.aload_n 0, 1) := by decide +kernel
theorem dX6_enter_31 : decode cX6_enter 31 = .ok (.getfield 7, 3) := by decide +kernel
theorem dX6_enter_34 : decode cX6_enter 34 = .ok (.iconst 3, 1) := by decide +kernel
theorem dX6_enter_35 : decode cX6_enter 35 = .ok (.if_icmp .le 12, 3) := by decide +kernel
theorem dX6_enter_38 : decode cX6_enter 38 = .ok (.aload_n 0, 1) := by decide +kernel
theorem dX6_enter_39 : decode cX6_enter 39 = .ok (.iload 6, 2) := by decide +kernel
theorem dX6_enter_41 : decode cX6_enter 41 = .ok (.iconst 3, 1) := by decide +kernel
theorem dX6_enter_42 : decode cX6_enter 42 = .ok (.iload 4, 2) := by decide +kernel
theorem dX6_enter_44 : decode cX6_enter 44 = .ok (.invokevirtual 23, 3) := by decide +kernel
theorem dX6_enter_47 : decode cX6_enter 47 = .ok (.aload_n 0, 1) := by decide +kernel
theorem dX6_enter_48 : decode cX6_enter 48 = .ok (.getfield 7, 3) := by decide +kernel
theorem dX6_enter_51 : decode cX6_enter 51 = .ok (.iconst 4, 1) := by decide +kernel
theorem dX6_enter_52 : decode cX6_enter 52 = .ok (.if_icmp .le 12, 3) := by decide +kernel
theorem dX6_enter_55 : decode cX6_enter 55 = .ok (.aload_n 0, 1) := by decide +kernel
theorem dX6_enter_56 : decode cX6_enter 56 = .ok (.iload 6, 2) := by decide +kernel
theorem dX6_enter_58 : decode cX6_enter 58 = .ok (.iconst 4, 1) := by decide +kernel
theorem dX6_enter_59 : decode cX6_enter 59 = .ok (.iload 5, 2) := by decide +kernel
theorem dX6_enter_61 : decode cX6_enter 61 = .ok (.invokevirtual 23, 3) := by decide +kernel
theorem dX6_enter_64 : decode cX6_enter 64 = .ok (.aload_n 0, 1) := by decide +kernel
theorem dX6_enter_65 : decode cX6_enter 65 = .ok (.dup, 1) := by decide +kernel
theorem dX6_enter_66 : decode cX6_enter 66 = .ok (.getfield 20, 3) := by decide +kernel
theorem dX6_enter_69 : decode cX6_enter 69 = .ok (.iconst 1, 1) := by decide +kernel
theorem dX6_enter_70 : decode cX6_enter 70 = .ok (.iadd, 1) := by decide +kernel
theorem dX6_enter_71 : decode cX6_enter 71 = .ok (.putfield 20, 3) := by decide +kernel
theorem dX6_enter_74 : decode cX6_enter 74 = .ok (.return_, 1) := by decide +kernel
theorem dX6_dropFirst_0 : decode cX6_dropFirst 0 = .ok (.aload_n 0, 1) := by decide +kernel
theorem dX6_dropFirst_1 : decode cX6_dropFirst 1 = .ok (.getfield 16, 3) := by decide +kernel
theorem dX6_dropFirst_4 : decode cX6_dropFirst 4 = .ok (.aload_n 0, 1) := by decide +kernel
theorem dX6_dropFirst_5 : decode cX6_dropFirst 5 = .ok (.getfield 7, 3) := by decide +kernel
theorem dX6_dropFirst_8 : decode cX6_dropFirst 8 = .ok (.aload_n 0, 1) := by decide +kernel
theorem dX6_dropFirst_9 : decode cX6_dropFirst 9 = .ok (.getfield 16, 3) := by decide +kernel
theorem dX6_dropFirst_12 : decode cX6_dropFirst 12 = .ok (.iconst 0, 1) := by decide +kernel
theorem dX6_dropFirst_13 : decode cX6_dropFirst 13 = .ok (.aload_n 0, 1) := by decide +kernel
theorem dX6_dropFirst_14 : decode cX6_dropFirst 14 = .ok (.getfield 7, 3) := by decide +kernel
theorem dX6_dropFirst_17 : decode cX6_dropFirst 17 = .ok (.aload_n 0, 1) := by decide +kernel
theorem dX6_dropFirst_18 : decode cX6_dropFirst 18 = .ok (.getfield 13, 3) := by decide +kernel
theorem dX6_dropFirst_21 : decode cX6_dropFirst 21 = .ok (.iconst 1, 1) := by decide +kernel
theorem dX6_dropFirst_22 : decode cX6_dropFirst 22 = .ok (.isub, 1) := by decide +kernel
theorem dX6_dropFirst_23 : decode cX6_dropFirst 23 = .ok (.imul, 1) := by decide +kernel
theorem dX6_dropFirst_24 : decode cX6_dropFirst 24 = .ok (.invokestatic 27, 3) := by decide +kernel
theorem dX6_dropFirst_27 : decode cX6_dropFirst 27 = .ok (.aload_n 0, 1) := by decide +kernel
theorem dX6_dropFirst_28 : decode cX6_dropFirst 28 = .ok (.dup, 1) := by decide +kernel
theorem dX6_dropFirst_29 : decode cX6_dropFirst 29 = .ok (.getfield 20, 3) := by decide +kernel
theorem dX6_dropFirst_32 : decode cX6_dropFirst 32 = .ok (.iconst 1, 1) := by decide +kernel
theorem dX6_dropFirst_33 : decode cX6_dropFirst 33 = .ok (.isub, 1) := by decide +kernel
theorem dX6_dropFirst_34 : decode cX6_dropFirst 34 = .ok (.putfield 20, 3) := by decide +kernel
theorem dX6_dropFirst_37 : decode cX6_dropFirst 37 = .ok (.return_, 1) := by decide +kernel
theorem dX6_become_0 : decode cX6_become 0 = .ok (.aload_n 1, 1) := by decide +kernel
theorem dX6_become_1 : decode cX6_become 1 = .ok (.getfield 16, 3) := by decide +kernel
theorem dX6_become_4 : decode cX6_become 4 = .ok (.iconst 0, 1) := by decide +kernel
theorem dX6_become_5 : decode cX6_become 5 = .ok (.aload_n 0, 1) := by decide +kernel
theorem dX6_become_6 : decode cX6_become 6 = .ok (.getfield 16, 3) := by decide +kernel
theorem dX6_become_9 : decode cX6_become 9 = .ok (.iconst 0, 1) := by decide +kernel
theorem dX6_become_10 : decode cX6_become 10 = .ok (.aload_n 0, 1) := by decide +kernel
theorem dX6_become_11 : decode cX6_become 11 = .ok (.getfield 16, 3) := by decide +kernel
theorem dX6_become_14 : decode cX6_become 14 = .ok (.arraylength, 1) := by decide +kernel
theorem dX6_become_15 : decode cX6_become 15 = .ok (.invokestatic 27, 3) := by decide +kernel
theorem dX6_become_18 : decode cX6_become 18 = .ok (.aload_n 0, 1) := by decide +kernel
theorem dX6_become_19 : decode cX6_become 19 = .ok (.aload_n 1, 1) := by decide +kernel
theorem dX6_become_20 : decode cX6_become 20 = .ok (.getfield 20, 3) := by decide +kernel
theorem dX6_become_23 : decode cX6_become 23 = .ok (.putfield 20, 3) := by decide +kernel
theorem dX6_become_26 : decode cX6_become 26 = .ok (.return_, 1) := by decide +kernel
theorem dX6_digestOn_0 : decode cX6_digestOn 0 = .ok (.lload_n 1, 1) := by decide +kernel
theorem dX6_digestOn_1 : decode cX6_digestOn 1 = .ok (.lstore_n 3, 1) := by decide +kernel
theorem dX6_digestOn_2 : decode cX6_digestOn 2 = .ok (.iconst 0, 1) := by decide +kernel
theorem dX6_digestOn_3 : decode cX6_digestOn 3 = .ok (.istore 5, 2) := by decide +kernel
theorem dX6_digestOn_5 : decode cX6_digestOn 5 = .ok (.iload 5, 2) := by decide +kernel
theorem dX6_digestOn_7 : decode cX6_digestOn 7 = .ok (.aload_n 0, 1) := by decide +kernel
theorem dX6_digestOn_8 : decode cX6_digestOn 8 = .ok (.getfield 20, 3) := by decide +kernel
theorem dX6_digestOn_11 : decode cX6_digestOn 11 = .ok (.aload_n 0, 1) := by decide +kernel
theorem dX6_digestOn_12 : decode cX6_digestOn 12 = .ok (.getfield 7, 3) := by decide +kernel
theorem dX6_digestOn_15 : decode cX6_digestOn 15 = .ok (.imul, 1) := by decide +kernel
theorem dX6_digestOn_16 : decode cX6_digestOn 16 = .ok (.if_icmp .ge 24, 3) := by decide +kernel
theorem dX6_digestOn_19 : decode cX6_digestOn 19 = .ok (.ldc2_w 33, 3) := by decide +kernel
theorem dX6_digestOn_22 : decode cX6_digestOn 22 = .ok (.lload_n 3, 1) := by decide +kernel
theorem dX6_digestOn_23 : decode cX6_digestOn 23 = .ok (.lmul, 1) := by decide +kernel
theorem dX6_digestOn_24 : decode cX6_digestOn 24 = .ok (.aload_n 0, 1) := by decide +kernel
theorem dX6_digestOn_25 : decode cX6_digestOn 25 = .ok (.getfield 16, 3) := by decide +kernel
theorem dX6_digestOn_28 : decode cX6_digestOn 28 = .ok (.iload 5, 2) := by decide +kernel
theorem dX6_digestOn_30 : decode cX6_digestOn 30 = .ok (.iaload, 1) := by decide +kernel
theorem dX6_digestOn_31 : decode cX6_digestOn 31 = .ok (.i2l, 1) := by decide +kernel
theorem dX6_digestOn_32 : decode cX6_digestOn 32 = .ok (.ladd, 1) := by decide +kernel
theorem dX6_digestOn_33 : decode cX6_digestOn 33 = .ok (.lstore_n 3, 1) := by decide +kernel
theorem dX6_digestOn_34 : decode cX6_digestOn 34 = .ok (.iinc 5 1, 3) := by decide +kernel
theorem dX6_digestOn_37 : decode cX6_digestOn 37 = .ok (.goto (-32), 3) := by decide +kernel
theorem dX6_digestOn_40 : decode cX6_digestOn 40 = .ok (.lload_n 3, 1) := by decide +kernel
theorem dX6_digestOn_41 : decode cX6_digestOn 41 = .ok (.lreturn, 1) := by decide +kernel
set_option maxRecDepth 20000 in
theorem ggX7_init_X4_init : GoodIn wsX7_init wsX4_init := goodIn_r _ [13, 14, 2, 3, 8, 15, 16, 17, 18, 19, 20, 21, 22, 23, 24, 25, 26, 27, 28, 29, 30, 31, 32, 33, 34, 35, 36, 37, 38, 39, 40, 41, 42, 43, 44, 45, 46, 47, 48, 49, 50, 59, 60, 61, 62] (by decide +kernel) (by decide +kernel)
set_option maxRecDepth 20000 in
theorem gX7_init_X4_init : GoodIn wsX7_init (wsX4_init) := ggX7_init_X4_init
theorem dX7_init_0 : decode cX7_init 0 = .ok (.aload_n 0, 1) := by decide +kernel
theorem dX7_init_1 : decode cX7_init 1 = .ok (.invokespecial 3, 3) := by decide +kernel
theorem dX7_init_4 : decode cX7_init 4 = .ok (.aload_n 0, 1) := by decide +kernel
theorem dX7_init_5 : decode cX7_init 5 = .ok (.new 9, 3) := by decide +kernel
theorem dX7_init_8 : decode cX7_init 8 = .ok (.dup, 1) := by decide +kernel
theorem dX7_init_9 : decode cX7_init 9 = .ok (.invokespecial 11, 3) := by decide +kernel
theorem dX7_init_12 : decode cX7_init 12 = .ok (.putfield 12, 3) := by decide +kernel
theorem dX7_init_15 : decode cX7_init 15 = .ok (.aload_n 0, 1) := by decide +kernel
theorem dX7_init_16 : decode cX7_init 16 = .ok (.iconst 4, 1) := by decide +kernel
theorem dX7_init_17 : decode cX7_init 17 = .ok (.newarray .int, 2) := by decide +kernel
theorem dX7_init_19 : decode cX7_init 19 = .ok (.putfield 18, 3) := by decide +kernel
theorem dX7_init_22 : decode cX7_init 22 = .ok (.aload_n 0, 1) := by decide +kernel
theorem dX7_init_23 : decode cX7_init 23 = .ok (.aload_n 1, 1) := by decide +kernel
theorem dX7_init_24 : decode cX7_init 24 = .ok (.putfield 22, 3) := by decide +kernel
theorem dX7_init_27 : decode cX7_init 27 = .ok (.return_, 1) := by decide +kernel
set_option maxRecDepth 20000 in
theorem ggX7_tell_X4_empty : GoodIn wsX7_tell wsX4_empty := goodIn_r _ [15, 16, 17, 18, 19, 20, 21, 22, 23, 24, 178, 179, 180, 181, 182, 183, 184, 185, 186, 187, 188, 189, 190, 191, 192, 193, 194, 195, 196] (by decide +kernel) (by decide +kernel)
set_option maxRecDepth 20000 in
theorem gX7_tell_X4_empty : GoodIn wsX7_tell (wsV RX7 26 RX4 yX4_empty wsX4_empty) := goodIn_app (goodIn_of _ (by decide +kernel)) ggX7_tell_X4_empty
set_option maxRecDepth 20000 in
theorem ggX7_tell_X7_advance : GoodIn wsX7_tell wsX7_advance := goodIn_r _ [29, 8, 7, 2, 9, 30, 10, 31, 32, 28, 33, 34, 35, 36, 37, 38, 39, 40, 41, 42, 43, 44, 170, 171, 172, 173, 174, 175, 176, 177] (by decide +kernel) (by decide +kernel)
set_option maxRecDepth 20000 in
theorem gX7_tell_X7_advance : GoodIn wsX7_tell (wsV RX7 42 RX7 yX7_advance wsX7_advance) := goodIn_app (goodIn_of _ (by decide +kernel)) ggX7_tell_X7_advance
set_option maxRecDepth 20000 in
theorem ggX7_tell_X7_wordHere : GoodIn wsX7_tell wsX7_wordHere := goodIn_r _ [48, 10, 49, 50, 51, 28, 52, 8, 9, 2, 53, 54, 55, 56, 57, 58, 59, 60, 61, 62, 63, 64, 65, 66, 67, 68, 69, 70, 71, 72, 73, 74, 75, 76, 77, 78, 79, 80, 81, 82, 83, 84, 85, 86, 87, 88, 89, 90, 91, 92, 93, 94, 95, 96, 97, 98, 99, 100, 101, 170, 171, 172, 173, 174, 175, 176, 177] (by decide +kernel) (by decide +kernel)
set_option maxRecDepth 20000 in
theorem gX7_tell_X7_wordHere : GoodIn wsX7_tell (wsV RX7 45 RX7 yX7_wordHere wsX7_wordHere) := goodIn_app (goodIn_of _ (by decide +kernel)) ggX7_tell_X7_wordHere
set_option maxRecDepth 20000 in
theorem ggX7_tell_X7_endsItem : GoodIn wsX7_tell wsX7_endsItem := goodIn_r _ [105, 10, 25, 26, 27, 28, 29, 8, 7, 2, 9, 30, 31, 32, 33, 34, 35, 36, 37, 38, 39, 40, 41, 42, 43, 44, 170, 171, 172, 173, 174, 175, 176, 177] (by decide +kernel) (by decide +kernel)
set_option maxRecDepth 20000 in
theorem gX7_tell_X7_endsItem : GoodIn wsX7_tell (wsV RX7 49 RX7 yX7_endsItem wsX7_endsItem) := goodIn_app (goodIn_of _ (by decide +kernel)) ggX7_tell_X7_endsItem
set_option maxRecDepth 20000 in
theorem ggX7_tell_X7_takesNumbers : GoodIn wsX7_tell wsX7_takesNumbers := goodIn_r _ [109, 1, 110, 111, 112, 113, 114, 28, 115, 116, 30, 10, 25, 26, 27, 29, 8, 7, 2, 9, 31, 32, 33, 34, 35, 36, 37, 38, 39, 40, 41, 42, 43, 44, 117, 118, 119, 170, 171, 172, 173, 174, 175, 176, 177, 178, 179, 180, 181, 182, 183, 184, 185, 186, 187, 188, 189, 190, 191, 192] (by decide +kernel) (by decide +kernel)
set_option maxRecDepth 20000 in
theorem gX7_tell_X7_takesNumbers : GoodIn wsX7_tell (wsV RX7 59 RX7 yX7_takesNumbers wsX7_takesNumbers) := goodIn_app (goodIn_of _ (by decide +kernel)) ggX7_tell_X7_takesNumbers
set_option maxRecDepth 20000 in
theorem ggX7_tell_X7_carryOut : GoodIn wsX7_tell wsX7_carryOut := goodIn_r _ [123, 1, 116, 124, 125, 126, 14, 127, 16, 128, 129, 130, 18, 20, 21, 131, 132, 133, 134, 17, 135, 136, 137, 138, 139, 140, 141, 142, 143, 144, 145, 146, 19, 147, 148, 149, 150, 151, 152, 5, 153, 154, 155, 156, 157, 158, 159, 160, 161, 162, 163, 164, 165, 166, 167, 168, 169, 4, 6, 170, 171, 172, 173, 174, 175, 176, 177, 178, 179, 180, 181, 182, 183, 184, 185, 186, 187, 188, 189, 190, 191, 192, 193, 194, 195, 196] (by decide +kernel) (by decide +kernel)
set_option maxRecDepth 20000 in
theorem gX7_tell_X7_carryOut : GoodIn wsX7_tell (wsV RX7 63 RX7 yX7_carryOut wsX7_carryOut) := goodIn_app (goodIn_of _ (by decide +kernel)) ggX7_tell_X7_carryOut
theorem dX7_tell_0 : decode cX7_tell 0 = .ok (.aload_n 0, 1) := by decide +kernel
theorem dX7_tell_1 : decode cX7_tell 1 = .ok (.getfield 12, 3) := by decide +kernel
theorem dX7_tell_4 : decode cX7_tell 4 = .ok (.invokevirtual 26, 3) := by decide +kernel
theorem dX7_tell_7 : decode cX7_tell 7 = .ok (.aload_n 0, 1) := by decide +kernel
theorem dX7_tell_8 : decode cX7_tell 8 = .ok (.iload_n 1, 1) := by decide +kernel
theorem dX7_tell_9 : decode cX7_tell 9 = .ok (.aload_n 0, 1) := by decide +kernel
theorem dX7_tell_10 : decode cX7_tell 10 = .ok (.getfield 22, 3) := by decide +kernel
theorem dX7_tell_13 : decode cX7_tell 13 = .ok (.arraylength, 1) := by decide +kernel
theorem dX7_tell_14 : decode cX7_tell 14 = .ok (.invokestatic 29, 3) := by decide +kernel
theorem dX7_tell_17 : decode cX7_tell 17 = .ok (.putfield 35, 3) := by decide +kernel
theorem dX7_tell_20 : decode cX7_tell 20 = .ok (.aload_n 0, 1) := by decide +kernel
theorem dX7_tell_21 : decode cX7_tell 21 = .ok (.iconst 0, 1) := by decide +kernel
theorem dX7_tell_22 : decode cX7_tell 22 = .ok (.putfield 39, 3) := by decide +kernel
theorem dX7_tell_25 : decode cX7_tell 25 = .ok (.aload_n 0, 1) := by decide +kernel
theorem dX7_tell_26 : decode cX7_tell 26 = .ok (.invokevirtual 42, 3) := by decide +kernel
theorem dX7_tell_29 : decode cX7_tell 29 = .ok (.aload_n 0, 1) := by decide +kernel
theorem dX7_tell_30 : decode cX7_tell 30 = .ok (.invokevirtual 45, 3) := by decide +kernel
theorem dX7_tell_33 : decode cX7_tell 33 = .ok (.iconst 1, 1) := by decide +kernel
theorem dX7_tell_34 : decode cX7_tell 34 = .ok (.if_icmp .ne 10, 3) := by decide +kernel
theorem dX7_tell_37 : decode cX7_tell 37 = .ok (.aload_n 0, 1) := by decide +kernel
theorem dX7_tell_38 : decode cX7_tell 38 = .ok (.invokevirtual 49, 3) := by decide +kernel
theorem dX7_tell_41 : decode cX7_tell 41 = .ok (.ifCond .ne 11, 3) := by decide +kernel
theorem dX7_tell_44 : decode cX7_tell 44 = .ok (.bipush (-10), 2) := by decide +kernel
theorem dX7_tell_46 : decode cX7_tell 46 = .ok (.aload_n 0, 1) := by decide +kernel
theorem dX7_tell_47 : decode cX7_tell 47 = .ok (.getfield 53, 3) := by decide +kernel
theorem dX7_tell_50 : decode cX7_tell 50 = .ok (.isub, 1) := by decide +kernel
theorem dX7_tell_51 : decode cX7_tell 51 = .ok (.ireturn, 1) := by decide +kernel
theorem dX7_tell_52 : decode cX7_tell 52 = .ok (.iconst 1, 1) := by decide +kernel
theorem dX7_tell_53 : decode cX7_tell 53 = .ok (.istore_n 2, 1) := by decide +kernel
theorem dX7_tell_54 : decode cX7_tell 54 = .ok (.iconst 0, 1) := by decide +kernel
theorem dX7_tell_55 : decode cX7_tell 55 = .ok (.istore_n 3, 1) := by decide +kernel
theorem dX7_tell_56 : decode cX7_tell 56 = .ok (.iload_n 3, 1) := by decide +kernel
theorem dX7_tell_57 : decode cX7_tell 57 = .ok (.sipush 150, 3) := by decide +kernel
theorem dX7_tell_60 : decode cX7_tell 60 = .ok (.if_icmp .ge 62, 3) := by decide +kernel
theorem dX7_tell_63 : decode cX7_tell 63 = .ok (.aload_n 0, 1) := by decide +kernel
theorem dX7_tell_64 : decode cX7_tell 64 = .ok (.invokevirtual 42, 3) := by decide +kernel
theorem dX7_tell_67 : decode cX7_tell 67 = .ok (.aload_n 0, 1) := by decide +kernel
theorem dX7_tell_68 : decode cX7_tell 68 = .ok (.getfield 56, 3) := by decide +kernel
theorem dX7_tell_71 : decode cX7_tell 71 = .ok (.ifCond .ne 6, 3) := by decide +kernel
theorem dX7_tell_74 : decode cX7_tell 74 = .ok (.goto 48, 3) := by decide +kernel
theorem dX7_tell_77 : decode cX7_tell 77 = .ok (.aload_n 0, 1) := by decide +kernel
theorem dX7_tell_78 : decode cX7_tell 78 = .ok (.invokevirtual 45, 3) := by decide +kernel
theorem dX7_tell_81 : decode cX7_tell 81 = .ok (.istore 4, 2) := by decide +kernel
theorem dX7_tell_83 : decode cX7_tell 83 = .ok (.aload_n 0, 1) := by decide +kernel
theorem dX7_tell_84 : decode cX7_tell 84 = .ok (.iload 4, 2) := by decide +kernel
theorem dX7_tell_86 : decode cX7_tell 86 = .ok (.invokevirtual 59, 3) := by decide +kernel
theorem dX7_tell_89 : decode cX7_tell 89 = .ok (.ifCond .eq 10, 3) := by decide +kernel
theorem dX7_tell_92 : decode cX7_tell 92 = .ok (.aload_n 0, 1) := by decide +kernel
theorem dX7_tell_93 : decode cX7_tell 93 = .ok (.invokevirtual 49, 3) := by decide +kernel
theorem dX7_tell_96 : decode cX7_tell 96 = .ok (.ifCond .ne 11, 3) := by decide +kernel
theorem dX7_tell_99 : decode cX7_tell 99 = .ok (.bipush (-10), 2) := by decide +kernel
theorem dX7_tell_101 : decode cX7_tell 101 = .ok (.aload_n 0, 1) := by decide +kernel
theorem dX7_tell_102 : decode cX7_tell 102 = .ok (.getfield 53, 3) := by decide +kernel
theorem dX7_tell_105 : decode cX7_tell 105 = .ok (.isub, 1) := by decide +kernel
theorem dX7_tell_106 : decode cX7_tell 106 = .ok (.ireturn, 1) := by decide +kernel
theorem dX7_tell_107 : decode cX7_tell 107 = .ok (.aload_n 0, 1) := by decide +kernel
theorem dX7_tell_108 : decode cX7_tell 108 = .ok (.iload 4, 2) := by decide +kernel
theorem dX7_tell_110 : decode cX7_tell 110 = .ok (.invokevirtual 63, 3) := by decide +kernel
theorem dX7_tell_113 : decode cX7_tell 113 = .ok (.iinc 2 1, 3) := by decide +kernel
theorem dX7_tell_116 : decode cX7_tell 116 = .ok (.iinc 3 1, 3) := by decide +kernel
theorem dX7_tell_119 : decode cX7_tell 119 = .ok (.goto (-63), 3) := by decide +kernel
theorem dX7_tell_122 : decode cX7_tell 122 = .ok (.iload_n 2, 1) := by decide +kernel
theorem dX7_tell_123 : decode cX7_tell 123 = .ok (.ireturn, 1) := by decide +kernel
set_option maxRecDepth 20000 in
theorem ggX7_takesNumbers_X7_takesNumber : GoodIn wsX7_takesNumbers wsX7_takesNumber := goodIn_r _ [8, 9, 10, 11, 12, 13, 14, 7, 15, 16, 17, 18, 19, 20, 21, 22, 23, 24, 25, 26, 27, 28, 29, 30, 31, 32, 33, 34, 35, 36, 37, 38, 39, 40, 41, 42, 43, 44] (by decide +kernel) (by decide +kernel)
set_option maxRecDepth 20000 in
theorem gX7_takesNumbers_X7_takesNumber : GoodIn wsX7_takesNumbers (wsV RX7 70 RX7 yX7_takesNumber wsX7_takesNumber) := goodIn_app (goodIn_of _ (by decide +kernel)) ggX7_takesNumbers_X7_takesNumber
theorem dX7_takesNumbers_0 : decode cX7_takesNumbers 0 = .ok (.iload_n 1, 1) := by decide +kernel
theorem dX7_takesNumbers_1 : decode cX7_takesNumbers 1 = .ok (.tableswitch 165 2 5 #[31, 80, 140, 156], 31) := by decide +kernel
theorem dX7_takesNumbers_32 : decode cX7_takesNumbers 32 = .ok (.aload_n 0, 1) := by decide +kernel
theorem dX7_takesNumbers_33 : decode cX7_takesNumbers 33 = .ok (.getfield 12, 3) := by decide +kernel
theorem dX7_takesNumbers_36 : decode cX7_takesNumbers 36 = .ok (.getfield 67, 3) := by decide +kernel
theorem dX7_takesNumbers_39 : decode cX7_takesNumbers 39 = .ok (.iconst 3, 1) := by decide +kernel
theorem dX7_takesNumbers_40 : decode cX7_takesNumbers 40 = .ok (.if_icmp .ge 39, 3) := by decide +kernel
theorem dX7_takesNumbers_43 : decode cX7_takesNumbers 43 = .ok (.aload_n 0, 1) := by decide +kernel
theorem dX7_takesNumbers_44 : decode cX7_takesNumbers 44 = .ok (.iconst 0, 1) := by decide +kernel
theorem dX7_takesNumbers_45 : decode cX7_takesNumbers 45 = .ok (.iconst 0, 1) := by decide +kernel
theorem dX7_takesNumbers_46 : decode cX7_takesNumbers 46 = .ok (.iconst 5, 1) := by decide +kernel
theorem dX7_takesNumbers_47 : decode cX7_takesNumbers 47 = .ok (.invokevirtual 70, 3) := by decide +kernel
theorem dX7_takesNumbers_50 : decode cX7_takesNumbers 50 = .ok (.ifCond .eq 29, 3) := by decide +kernel
theorem dX7_takesNumbers_53 : decode cX7_takesNumbers 53 = .ok (.aload_n 0, 1) := by decide +kernel
theorem dX7_takesNumbers_54 : decode cX7_takesNumbers 54 = .ok (.iconst 1, 1) := by decide +kernel
theorem dX7_takesNumbers_55 : decode cX7_takesNumbers 55 = .ok (.iconst 0, 1) := by decide +kernel
theorem dX7_takesNumbers_56 : decode cX7_takesNumbers 56 = .ok (.bipush 24, 2) := by decide +kernel
theorem dX7_takesNumbers_58 : decode cX7_takesNumbers 58 = .ok (.invokevirtual 70, 3) := by decide +kernel
theorem dX7_takesNumbers_61 : decode cX7_takesNumbers 61 = .ok (.ifCond .eq 18, 3) := by decide +kernel
theorem dX7_takesNumbers_64 : decode cX7_takesNumbers 64 = .ok (.aload_n 0, 1) := by decide +kernel
theorem dX7_takesNumbers_65 : decode cX7_takesNumbers 65 = .ok (.iconst 2, 1) := by decide +kernel
theorem dX7_takesNumbers_66 : decode cX7_takesNumbers 66 = .ok (.iconst 1, 1) := by decide +kernel
theorem dX7_takesNumbers_67 : decode cX7_takesNumbers 67 = .ok (.bipush 20, 2) := by decide +kernel
theorem dX7_takesNumbers_69 : decode cX7_takesNumbers 69 = .ok (.invokevirtual 70, 3) := by decide +kernel
theorem dX7_takesNumbers_72 : decode cX7_takesNumbers 72 = .ok (.ifCond .eq 7, 3) := by decide +kernel
theorem dX7_takesNumbers_75 : decode cX7_takesNumbers 75 = .ok (.iconst 1, 1) := by decide +kernel
theorem dX7_takesNumbers_76 : decode cX7_takesNumbers 76 = .ok (.goto 4, 3) := by decide +kernel
theorem dX7_takesNumbers_79 : decode cX7_takesNumbers 79 = .ok (.iconst 0, 1) := by decide +kernel
theorem dX7_takesNumbers_80 : decode cX7_takesNumbers 80 = .ok (.ireturn, 1) := by decide +kernel
theorem dX7_takesNumbers_81 : decode cX7_takesNumbers 81 = .ok (.aload_n 0, 1) := by decide +kernel
theorem dX7_takesNumbers_82 : decode cX7_takesNumbers 82 = .ok (.getfield 12, 3) := by decide +kernel
theorem dX7_takesNumbers_85 : decode cX7_takesNumbers 85 = .ok (.getfield 74, 3) := by decide +kernel
theorem dX7_takesNumbers_88 : decode cX7_takesNumbers 88 = .ok (.bipush 7, 2) := by decide +kernel
theorem dX7_takesNumbers_90 : decode cX7_takesNumbers 90 = .ok (.if_icmp .ge 49, 3) := by decide +kernel
theorem dX7_takesNumbers_93 : decode cX7_takesNumbers 93 = .ok (.aload_n 0, 1) := by decide +kernel
theorem dX7_takesNumbers_94 : decode cX7_takesNumbers 94 = .ok (.iconst 0, 1) := by decide +kernel
theorem dX7_takesNumbers_95 : decode cX7_takesNumbers 95 = .ok (.iconst 0, 1) := by decide +kernel
theorem dX7_takesNumbers_96 : decode cX7_takesNumbers 96 = .ok (.iconst 5, 1) := by decide +kernel
theorem dX7_takesNumbers_97 : decode cX7_takesNumbers 97 = .ok (.invokevirtual 70, 3) := by decide +kernel
theorem dX7_takesNumbers_100 : decode cX7_takesNumbers 100 = .ok (.ifCond .eq 39, 3) := by decide +kernel
theorem dX7_takesNumbers_103 : decode cX7_takesNumbers 103 = .ok (.aload_n 0, 1) := by decide +kernel
theorem dX7_takesNumbers_104 : decode cX7_takesNumbers 104 = .ok (.iconst 1, 1) := by decide +kernel
theorem dX7_takesNumbers_105 : decode cX7_takesNumbers 105 = .ok (.iconst 0, 1) := by decide +kernel
theorem dX7_takesNumbers_106 : decode cX7_takesNumbers 106 = .ok (.iconst 1, 1) := by decide +kernel
theorem dX7_takesNumbers_107 : decode cX7_takesNumbers 107 = .ok (.invokevirtual 70, 3) := by decide +kernel
theorem dX7_takesNumbers_110 : decode cX7_takesNumbers 110 = .ok (.ifCond .eq 29, 3) := by decide +kernel
theorem dX7_takesNumbers_113 : decode cX7_takesNumbers 113 = .ok (.aload_n 0, 1) := by decide +kernel
theorem dX7_takesNumbers_114 : decode cX7_takesNumbers 114 = .ok (.iconst 2, 1) := by decide +kernel
theorem dX7_takesNumbers_115 : decode cX7_takesNumbers 115 = .ok (.iconst 0, 1) := by decide +kernel
theorem dX7_takesNumbers_116 : decode cX7_takesNumbers 116 = .ok (.bipush 24, 2) := by decide +kernel
theorem dX7_takesNumbers_118 : decode cX7_takesNumbers 118 = .ok (.invokevirtual 70, 3) := by decide +kernel
theorem dX7_takesNumbers_121 : decode cX7_takesNumbers 121 = .ok (.ifCond .eq 18, 3) := by decide +kernel
theorem dX7_takesNumbers_124 : decode cX7_takesNumbers 124 = .ok (.aload_n 0, 1) := by decide +kernel
theorem dX7_takesNumbers_125 : decode cX7_takesNumbers 125 = .ok (.iconst 3, 1) := by decide +kernel
theorem dX7_takesNumbers_126 : decode cX7_takesNumbers 126 = .ok (.iconst 1, 1) := by decide +kernel
theorem dX7_takesNumbers_127 : decode cX7_takesNumbers 127 = .ok (.bipush 99, 2) := by decide +kernel
theorem dX7_takesNumbers_129 : decode cX7_takesNumbers 129 = .ok (.invokevirtual 70, 3) := by decide +kernel
theorem dX7_takesNumbers_132 : decode cX7_takesNumbers 132 = .ok (.ifCond .eq 7, 3) := by decide +kernel
theorem dX7_takesNumbers_135 : decode cX7_takesNumbers 135 = .ok (.iconst 1, 1) := by decide +kernel
theorem dX7_takesNumbers_136 : decode cX7_takesNumbers 136 = .ok (.goto 4, 3) := by decide +kernel
theorem dX7_takesNumbers_139 : decode cX7_takesNumbers 139 = .ok (.iconst 0, 1) := by decide +kernel
theorem dX7_takesNumbers_140 : decode cX7_takesNumbers 140 = .ok (.ireturn, 1) := by decide +kernel
theorem dX7_takesNumbers_141 : decode cX7_takesNumbers 141 = .ok (.aload_n 0, 1) := by decide +kernel
theorem dX7_takesNumbers_142 : decode cX7_takesNumbers 142 = .ok (.iconst 0, 1) := by decide +kernel
theorem dX7_takesNumbers_143 : decode cX7_takesNumbers 143 = .ok (.iconst 0, 1) := by decide +kernel
theorem dX7_takesNumbers_144 : decode cX7_takesNumbers 144 = .ok (.aload_n 0, 1) := by decide +kernel
theorem dX7_takesNumbers_145 : decode cX7_takesNumbers 145 = .ok (.getfield 12, 3) := by decide +kernel
theorem dX7_takesNumbers_148 : decode cX7_takesNumbers 148 = .ok (.getfield 67, 3) := by decide +kernel
theorem dX7_takesNumbers_151 : decode cX7_takesNumbers 151 = .ok (.iconst 1, 1) := by decide +kernel
theorem dX7_takesNumbers_152 : decode cX7_takesNumbers 152 = .ok (.isub, 1) := by decide +kernel
theorem dX7_takesNumbers_153 : decode cX7_takesNumbers 153 = .ok (.invokevirtual 70, 3) := by decide +kernel
theorem dX7_takesNumbers_156 : decode cX7_takesNumbers 156 = .ok (.ireturn, 1) := by decide +kernel
theorem dX7_takesNumbers_157 : decode cX7_takesNumbers 157 = .ok (.aload_n 0, 1) := by decide +kernel
theorem dX7_takesNumbers_158 : decode cX7_takesNumbers 158 = .ok (.iconst 0, 1) := by decide +kernel
theorem dX7_takesNumbers_159 : decode cX7_takesNumbers 159 = .ok (.iconst 1, 1) := by decide +kernel
theorem dX7_takesNumbers_160 : decode cX7_takesNumbers 160 = .ok (.bipush 99, 2) := by decide +kernel
theorem dX7_takesNumbers_162 : decode cX7_takesNumbers 162 = .ok (.invokevirtual 70, 3) := by decide +kernel
theorem dX7_takesNumbers_165 : decode cX7_takesNumbers 165 = .ok (.ireturn, 1) := by decide +kernel
theorem dX7_takesNumbers_166 : decode cX7_takesNumbers 166 = .ok (.iconst 0, 1) := by decide +kernel
theorem dX7_takesNumbers_167 : decode cX7_takesNumbers 167 = .ok (.ireturn, 1) := by decide +kernel
set_option maxRecDepth 20000 in
theorem ggX7_carryOut_X4_hang : GoodIn wsX7_carryOut wsX4_hang := goodIn_r _ [7, 8, 9, 10, 11, 12, 13, 14, 67, 68, 69, 70, 71, 72, 73, 74, 75, 76, 77, 78, 79, 80, 81, 82, 83, 84, 85] (by decide +kernel) (by decide +kernel)
set_option maxRecDepth 20000 in
theorem gX7_carryOut_X4_hang : GoodIn wsX7_carryOut (wsV RX7 77 RX4 yX4_hang wsX4_hang) := goodIn_app (goodIn_of _ (by decide +kernel)) ggX7_carryOut_X4_hang
set_option maxRecDepth 20000 in
theorem ggX7_carryOut_X4_settle : GoodIn wsX7_carryOut wsX4_settle := goodIn_r _ [18, 19, 20, 21, 22, 23, 13, 14, 67, 68, 69, 70, 71, 72, 73, 74, 75, 76, 77, 78, 79, 80, 81, 82, 83, 84, 85] (by decide +kernel) (by decide +kernel)
set_option maxRecDepth 20000 in
theorem gX7_carryOut_X4_settle : GoodIn wsX7_carryOut (wsV RX7 81 RX4 yX4_settle wsX4_settle) := goodIn_app (goodIn_of _ (by decide +kernel)) ggX7_carryOut_X4_settle
set_option maxRecDepth 20000 in
theorem ggX7_carryOut_X4_turn : GoodIn wsX7_carryOut wsX4_turn := goodIn_r _ [27, 12, 67, 68, 69, 70, 71, 72, 73, 74, 75, 76, 77, 78, 79, 80, 81] (by decide +kernel) (by decide +kernel)
set_option maxRecDepth 20000 in
theorem gX7_carryOut_X4_turn : GoodIn wsX7_carryOut (wsV RX7 85 RX4 yX4_turn wsX4_turn) := goodIn_app (goodIn_of _ (by decide +kernel)) ggX7_carryOut_X4_turn
set_option maxRecDepth 20000 in
theorem ggX7_carryOut_X4_passDays : GoodIn wsX7_carryOut wsX4_passDays := goodIn_r _ [31, 32, 22, 23, 33, 34, 35, 6, 36, 19, 20, 12, 37, 38, 39, 40, 41, 42, 43, 44, 8, 10, 45, 46, 47, 9, 11, 48, 49, 50, 51, 52, 53, 54, 55, 56, 57, 58, 67, 68, 69, 70, 71, 72, 73, 74, 75, 76, 77, 78, 79, 80, 81] (by decide +kernel) (by decide +kernel)
set_option maxRecDepth 20000 in
theorem gX7_carryOut_X4_passDays : GoodIn wsX7_carryOut (wsV RX7 88 RX4 yX4_passDays wsX4_passDays) := goodIn_app (goodIn_of _ (by decide +kernel)) ggX7_carryOut_X4_passDays
theorem dX7_carryOut_0 : decode cX7_carryOut 0 = .ok (.iload_n 1, 1) := by decide +kernel
theorem dX7_carryOut_1 : decode cX7_carryOut 1 = .ok (.tableswitch 105 2 4 #[27, 55, 89], 27) := by decide +kernel
theorem dX7_carryOut_28 : decode cX7_carryOut 28 = .ok (.aload_n 0, 1) := by decide +kernel
theorem dX7_carryOut_29 : decode cX7_carryOut 29 = .ok (.getfield 12, 3) := by decide +kernel
theorem dX7_carryOut_32 : decode cX7_carryOut 32 = .ok (.aload_n 0, 1) := by decide +kernel
theorem dX7_carryOut_33 : decode cX7_carryOut 33 = .ok (.getfield 18, 3) := by decide +kernel
theorem dX7_carryOut_36 : decode cX7_carryOut 36 = .ok (.iconst 0, 1) := by decide +kernel
theorem dX7_carryOut_37 : decode cX7_carryOut 37 = .ok (.iaload, 1) := by decide +kernel
theorem dX7_carryOut_38 : decode cX7_carryOut 38 = .ok (.aload_n 0, 1) := by decide +kernel
theorem dX7_carryOut_39 : decode cX7_carryOut 39 = .ok (.getfield 18, 3) := by decide +kernel
theorem dX7_carryOut_42 : decode cX7_carryOut 42 = .ok (.iconst 1, 1) := by decide +kernel
theorem dX7_carryOut_43 : decode cX7_carryOut 43 = .ok (.iaload, 1) := by decide +kernel
theorem dX7_carryOut_44 : decode cX7_carryOut 44 = .ok (.aload_n 0, 1) := by decide +kernel
theorem dX7_carryOut_45 : decode cX7_carryOut 45 = .ok (.getfield 18, 3) := by decide +kernel
theorem dX7_carryOut_48 : decode cX7_carryOut 48 = .ok (.iconst 2, 1) := by decide +kernel
theorem dX7_carryOut_49 : decode cX7_carryOut 49 = .ok (.iaload, 1) := by decide +kernel
theorem dX7_carryOut_50 : decode cX7_carryOut 50 = .ok (.invokevirtual 77, 3) := by decide +kernel
theorem dX7_carryOut_53 : decode cX7_carryOut 53 = .ok (.goto 66, 3) := by decide +kernel
theorem dX7_carryOut_56 : decode cX7_carryOut 56 = .ok (.aload_n 0, 1) := by decide +kernel
theorem dX7_carryOut_57 : decode cX7_carryOut 57 = .ok (.getfield 12, 3) := by decide +kernel
theorem dX7_carryOut_60 : decode cX7_carryOut 60 = .ok (.aload_n 0, 1) := by decide +kernel
theorem dX7_carryOut_61 : decode cX7_carryOut 61 = .ok (.getfield 18, 3) := by decide +kernel
theorem dX7_carryOut_64 : decode cX7_carryOut 64 = .ok (.iconst 0, 1) := by decide +kernel
theorem dX7_carryOut_65 : decode cX7_carryOut 65 = .ok (.iaload, 1) := by decide +kernel
theorem dX7_carryOut_66 : decode cX7_carryOut 66 = .ok (.aload_n 0, 1) := by decide +kernel
theorem dX7_carryOut_67 : decode cX7_carryOut 67 = .ok (.getfield 18, 3) := by decide +kernel
theorem dX7_carryOut_70 : decode cX7_carryOut 70 = .ok (.iconst 1, 1) := by decide +kernel
theorem dX7_carryOut_71 : decode cX7_carryOut 71 = .ok (.iaload, 1) := by decide +kernel
theorem dX7_carryOut_72 : decode cX7_carryOut 72 = .ok (.aload_n 0, 1) := by decide +kernel
theorem dX7_carryOut_73 : decode cX7_carryOut 73 = .ok (.getfield 18, 3) := by decide +kernel
theorem dX7_carryOut_76 : decode cX7_carryOut 76 = .ok (.iconst 2, 1) := by decide +kernel
theorem dX7_carryOut_77 : decode cX7_carryOut 77 = .ok (.iaload, 1) := by decide +kernel
theorem dX7_carryOut_78 : decode cX7_carryOut 78 = .ok (.aload_n 0, 1) := by decide +kernel
theorem dX7_carryOut_79 : decode cX7_carryOut 79 = .ok (.getfield 18, 3) := by decide +kernel
theorem dX7_carryOut_82 : decode cX7_carryOut 82 = .ok (.iconst 3, 1) := by decide +kernel
theorem dX7_carryOut_83 : decode cX7_carryOut 83 = .ok (.iaload, 1) := by decide +kernel
theorem dX7_carryOut_84 : decode cX7_carryOut 84 = .ok (.invokevirtual 81, 3) := by decide +kernel
theorem dX7_carryOut_87 : decode cX7_carryOut 87 = .ok (.goto 32, 3) := by decide +kernel
theorem dX7_carryOut_90 : decode cX7_carryOut 90 = .ok (.aload_n 0, 1) := by decide +kernel
theorem dX7_carryOut_91 : decode cX7_carryOut 91 = .ok (.getfield 12, 3) := by decide +kernel
theorem dX7_carryOut_94 : decode cX7_carryOut 94 = .ok (.aload_n 0, 1) := by decide +kernel
theorem dX7_carryOut_95 : decode cX7_carryOut 95 = .ok (.getfield 18, 3) := by decide +kernel
theorem dX7_carryOut_98 : decode cX7_carryOut 98 = .ok (.iconst 0, 1) := by decide +kernel
theorem dX7_carryOut_99 : decode cX7_carryOut 99 = .ok (.iaload, 1) := by decide +kernel
theorem dX7_carryOut_100 : decode cX7_carryOut 100 = .ok (.invokevirtual 85, 3) := by decide +kernel
theorem dX7_carryOut_103 : decode cX7_carryOut 103 = .ok (.goto 16, 3) := by decide +kernel
theorem dX7_carryOut_106 : decode cX7_carryOut 106 = .ok (.aload_n 0, 1) := by decide +kernel
theorem dX7_carryOut_107 : decode cX7_carryOut 107 = .ok (.getfield 12, 3) := by decide +kernel
theorem dX7_carryOut_110 : decode cX7_carryOut 110 = .ok (.aload_n 0, 1) := by decide +kernel
theorem dX7_carryOut_111 : decode cX7_carryOut 111 = .ok (.getfield 18, 3) := by decide +kernel
theorem dX7_carryOut_114 : decode cX7_carryOut 114 = .ok (.iconst 0, 1) := by decide +kernel
theorem dX7_carryOut_115 : decode cX7_carryOut 115 = .ok (.iaload, 1) := by decide +kernel
theorem dX7_carryOut_116 : decode cX7_carryOut 116 = .ok (.invokevirtual 88, 3) := by decide +kernel
theorem dX7_carryOut_119 : decode cX7_carryOut 119 = .ok (.return_, 1) := by decide +kernel
set_option maxRecDepth 20000 in
theorem ggX7_takesNumber_X7_advance : GoodIn wsX7_takesNumber wsX7_advance := goodIn_r _ [8, 9, 10, 11, 12, 2, 3, 13, 14, 7, 15, 16, 17, 18, 19, 20, 21, 22, 23, 24, 25, 26, 30, 31, 32, 33, 34, 35, 36, 37] (by decide +kernel) (by decide +kernel)
set_option maxRecDepth 20000 in
theorem gX7_takesNumber_X7_advance : GoodIn wsX7_takesNumber (wsV RX7 42 RX7 yX7_advance wsX7_advance) := goodIn_app (goodIn_of _ (by decide +kernel)) ggX7_takesNumber_X7_advance
set_option maxRecDepth 20000 in
theorem ggX7_takesNumber_X8_within : GoodIn wsX7_takesNumber wsX8_within := goodIn_r _ [29] (by decide +kernel) (by decide +kernel)
set_option maxRecDepth 20000 in
theorem gX7_takesNumber_X8_within_n94 : GoodIn wsX7_takesNumber (wsX8_within) := ggX7_takesNumber_X8_within
theorem dX7_takesNumber_0 : decode cX7_takesNumber 0 = .ok (.aload_n 0, 1) := by decide +kernel
theorem dX7_takesNumber_1 : decode cX7_takesNumber 1 = .ok (.invokevirtual 42, 3) := by decide +kernel
theorem dX7_takesNumber_4 : decode cX7_takesNumber 4 = .ok (.aload_n 0, 1) := by decide +kernel
theorem dX7_takesNumber_5 : decode cX7_takesNumber 5 = .ok (.getfield 18, 3) := by decide +kernel
theorem dX7_takesNumber_8 : decode cX7_takesNumber 8 = .ok (.iload_n 1, 1) := by decide +kernel
theorem dX7_takesNumber_9 : decode cX7_takesNumber 9 = .ok (.aload_n 0, 1) := by decide +kernel
theorem dX7_takesNumber_10 : decode cX7_takesNumber 10 = .ok (.getfield 91, 3) := by decide +kernel
theorem dX7_takesNumber_13 : decode cX7_takesNumber 13 = .ok (.iastore, 1) := by decide +kernel
theorem dX7_takesNumber_14 : decode cX7_takesNumber 14 = .ok (.aload_n 0, 1) := by decide +kernel
theorem dX7_takesNumber_15 : decode cX7_takesNumber 15 = .ok (.getfield 56, 3) := by decide +kernel
theorem dX7_takesNumber_18 : decode cX7_takesNumber 18 = .ok (.iconst 2, 1) := by decide +kernel
theorem dX7_takesNumber_19 : decode cX7_takesNumber 19 = .ok (.if_icmp .ne 19, 3) := by decide +kernel
theorem dX7_takesNumber_22 : decode cX7_takesNumber 22 = .ok (.aload_n 0, 1) := by decide +kernel
theorem dX7_takesNumber_23 : decode cX7_takesNumber 23 = .ok (.getfield 91, 3) := by decide +kernel
theorem dX7_takesNumber_26 : decode cX7_takesNumber 26 = .ok (.iload_n 2, 1) := by decide +kernel
theorem dX7_takesNumber_27 : decode cX7_takesNumber 27 = .ok (.iload_n 3, 1) := by decide +kernel
theorem dX7_takesNumber_28 : decode cX7_takesNumber 28 = .ok (.invokestatic 94, 3) := by decide +kernel
theorem dX7_takesNumber_31 : decode cX7_takesNumber 31 = .ok (.ifCond .eq 7, 3) := by decide +kernel
theorem dX7_takesNumber_34 : decode cX7_takesNumber 34 = .ok (.iconst 1, 1) := by decide +kernel

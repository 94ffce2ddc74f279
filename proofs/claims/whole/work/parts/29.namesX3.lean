set_option maxRecDepth 20000 in
theorem ggX3_init_X2_init : GoodIn wsX3_init wsX2_init := goodIn_r _ [11, 12, 2, 3, 13, 14, 15, 16, 17, 18, 19, 20] (by decide +kernel) (by decide +kernel)
set_option maxRecDepth 20000 in
theorem gX3_init_X2_init : GoodIn wsX3_init (wsX2_init) := ggX3_init_X2_init
theorem dX3_init_0 : decode cX3_init 0 = .ok (.aload_n 0, 1) := by decide +kernel
theorem dX3_init_1 : decode cX3_init 1 = .ok (.invokespecial 1, 3) := by decide +kernel
theorem dX3_init_4 : decode cX3_init 4 = .ok (.aload_n 0, 1) := by decide +kernel
theorem dX3_init_5 : decode cX3_init 5 = .ok (.new 7, 3) := by decide +kernel
theorem dX3_init_8 : decode cX3_init 8 = .ok (.dup, 1) := by decide +kernel
theorem dX3_init_9 : decode cX3_init 9 = .ok (.invokespecial 9, 3) := by decide +kernel
theorem dX3_init_12 : decode cX3_init 12 = .ok (.putfield 10, 3) := by decide +kernel
theorem dX3_init_15 : decode cX3_init 15 = .ok (.aload_n 0, 1) := by decide +kernel
theorem dX3_init_16 : decode cX3_init 16 = .ok (.new 7, 3) := by decide +kernel
theorem dX3_init_19 : decode cX3_init 19 = .ok (.dup, 1) := by decide +kernel
theorem dX3_init_20 : decode cX3_init 20 = .ok (.invokespecial 9, 3) := by decide +kernel
theorem dX3_init_23 : decode cX3_init 23 = .ok (.putfield 16, 3) := by decide +kernel
theorem dX3_init_26 : decode cX3_init 26 = .ok (.return_, 1) := by decide +kernel
theorem dX3_thrown_0 : decode cX3_thrown 0 = .ok (.aload_n 0, 1) := by decide +kernel
theorem dX3_thrown_1 : decode cX3_thrown 1 = .ok (.getfield 19, 3) := by decide +kernel
theorem dX3_thrown_4 : decode cX3_thrown 4 = .ok (.ireturn, 1) := by decide +kernel
theorem dX3_no_0 : decode cX3_no 0 = .ok (.aload_n 0, 1) := by decide +kernel
theorem dX3_no_1 : decode cX3_no 1 = .ok (.iload_n 1, 1) := by decide +kernel
theorem dX3_no_2 : decode cX3_no 2 = .ok (.putfield 19, 3) := by decide +kernel
theorem dX3_no_5 : decode cX3_no 5 = .ok (.iconst 0, 1) := by decide +kernel
theorem dX3_no_6 : decode cX3_no 6 = .ok (.ireturn, 1) := by decide +kernel
theorem dX3_isIn_0 : decode cX3_isIn 0 = .ok (.iload_n 0, 1) := by decide +kernel
theorem dX3_isIn_1 : decode cX3_isIn 1 = .ok (.iload_n 1, 1) := by decide +kernel
theorem dX3_isIn_2 : decode cX3_isIn 2 = .ok (.if_icmp .lt 12, 3) := by decide +kernel
theorem dX3_isIn_5 : decode cX3_isIn 5 = .ok (.iload_n 0, 1) := by decide +kernel
theorem dX3_isIn_6 : decode cX3_isIn 6 = .ok (.iload_n 2, 1) := by decide +kernel
theorem dX3_isIn_7 : decode cX3_isIn 7 = .ok (.if_icmp .gt 7, 3) := by decide +kernel
theorem dX3_isIn_10 : decode cX3_isIn 10 = .ok (.iconst 1, 1) := by decide +kernel
theorem dX3_isIn_11 : decode cX3_isIn 11 = .ok (.goto 4, 3) := by decide +kernel
theorem dX3_isIn_14 : decode cX3_isIn 14 = .ok (.iconst 0, 1) := by decide +kernel
theorem dX3_isIn_15 : decode cX3_isIn 15 = .ok (.ireturn, 1) := by decide +kernel
set_option maxRecDepth 20000 in
theorem ggX3_isCage_X3_isIn : GoodIn wsX3_isCage wsX3_isIn := goodIn_r _ [4] (by decide +kernel) (by decide +kernel)
set_option maxRecDepth 20000 in
theorem gX3_isCage_X3_isIn : GoodIn wsX3_isCage (va_wsS RX3 23 yX3_isIn wsX3_isIn) := goodIn_app (goodIn_of _ (by decide +kernel)) ggX3_isCage_X3_isIn
theorem dX3_isCage_0 : decode cX3_isCage 0 = .ok (.iload_n 0, 1) := by decide +kernel
theorem dX3_isCage_1 : decode cX3_isCage 1 = .ok (.iconst 0, 1) := by decide +kernel
theorem dX3_isCage_2 : decode cX3_isCage 2 = .ok (.bipush 19, 2) := by decide +kernel
theorem dX3_isCage_4 : decode cX3_isCage 4 = .ok (.invokestatic 23, 3) := by decide +kernel
theorem dX3_isCage_7 : decode cX3_isCage 7 = .ok (.ireturn, 1) := by decide +kernel
set_option maxRecDepth 20000 in
theorem ggX3_isRule_X3_isIn : GoodIn wsX3_isRule wsX3_isIn := goodIn_r _ [5] (by decide +kernel) (by decide +kernel)
set_option maxRecDepth 20000 in
theorem gX3_isRule_X3_isIn : GoodIn wsX3_isRule (va_wsS RX3 23 yX3_isIn wsX3_isIn) := goodIn_app (goodIn_of _ (by decide +kernel)) ggX3_isRule_X3_isIn
theorem dX3_isRule_0 : decode cX3_isRule 0 = .ok (.iload_n 1, 1) := by decide +kernel
theorem dX3_isRule_1 : decode cX3_isRule 1 = .ok (.iconst 0, 1) := by decide +kernel
theorem dX3_isRule_2 : decode cX3_isRule 2 = .ok (.aload_n 0, 1) := by decide +kernel
theorem dX3_isRule_3 : decode cX3_isRule 3 = .ok (.getfield 10, 3) := by decide +kernel
theorem dX3_isRule_6 : decode cX3_isRule 6 = .ok (.getfield 27, 3) := by decide +kernel
theorem dX3_isRule_9 : decode cX3_isRule 9 = .ok (.iconst 1, 1) := by decide +kernel
theorem dX3_isRule_10 : decode cX3_isRule 10 = .ok (.isub, 1) := by decide +kernel
theorem dX3_isRule_11 : decode cX3_isRule 11 = .ok (.invokestatic 23, 3) := by decide +kernel
theorem dX3_isRule_14 : decode cX3_isRule 14 = .ok (.ireturn, 1) := by decide +kernel
set_option maxRecDepth 20000 in
theorem ggX3_come_X3_isCage : GoodIn wsX3_come wsX3_isCage := goodIn_r _ [6, 7, 8, 5, 9] (by decide +kernel) (by decide +kernel)
set_option maxRecDepth 20000 in
theorem gX3_come_X3_isCage : GoodIn wsX3_come (va_wsS RX3 30 yX3_isCage wsX3_isCage) := goodIn_app (goodIn_of _ (by decide +kernel)) ggX3_come_X3_isCage
set_option maxRecDepth 20000 in
theorem ggX3_come_X3_no : GoodIn wsX3_come wsX3_no := goodIn_r _ [13, 1, 22, 23, 24] (by decide +kernel) (by decide +kernel)
set_option maxRecDepth 20000 in
theorem gX3_come_X3_no : GoodIn wsX3_come (wsV RX3 34 RX3 yX3_no wsX3_no) := goodIn_app (goodIn_of _ (by decide +kernel)) ggX3_come_X3_no
set_option maxRecDepth 20000 in
theorem ggX3_come_X3_isIn : GoodIn wsX3_come wsX3_isIn := goodIn_r _ [9] (by decide +kernel) (by decide +kernel)
set_option maxRecDepth 20000 in
theorem gX3_come_X3_isIn : GoodIn wsX3_come (va_wsS RX3 23 yX3_isIn wsX3_isIn) := goodIn_app (goodIn_of _ (by decide +kernel)) ggX3_come_X3_isIn
set_option maxRecDepth 20000 in
theorem ggX3_come_X2_add : GoodIn wsX3_come wsX2_add := goodIn_r _ [18, 19, 20, 21, 25, 26, 27, 28] (by decide +kernel) (by decide +kernel)
set_option maxRecDepth 20000 in
theorem gX3_come_X2_add : GoodIn wsX3_come (wsV RX3 42 RX2 yX2_add wsX2_add) := goodIn_app (goodIn_of _ (by decide +kernel)) ggX3_come_X2_add
theorem dX3_come_0 : decode cX3_come 0 = .ok (.aload_n 0, 1) := by decide +kernel
theorem dX3_come_1 : decode cX3_come 1 = .ok (.iconst 0, 1) := by decide +kernel
theorem dX3_come_2 : decode cX3_come 2 = .ok (.putfield 19, 3) := by decide +kernel
theorem dX3_come_5 : decode cX3_come 5 = .ok (.iload_n 1, 1) := by decide +kernel
theorem dX3_come_6 : decode cX3_come 6 = .ok (.invokestatic 30, 3) := by decide +kernel
theorem dX3_come_9 : decode cX3_come 9 = .ok (.ifCond .ne 9, 3) := by decide +kernel
theorem dX3_come_12 : decode cX3_come 12 = .ok (.aload_n 0, 1) := by decide +kernel
theorem dX3_come_13 : decode cX3_come 13 = .ok (.iconst 1, 1) := by decide +kernel
theorem dX3_come_14 : decode cX3_come 14 = .ok (.invokevirtual 34, 3) := by decide +kernel
theorem dX3_come_17 : decode cX3_come 17 = .ok (.ireturn, 1) := by decide +kernel
theorem dX3_come_18 : decode cX3_come 18 = .ok (.iload_n 2, 1) := by decide +kernel
theorem dX3_come_19 : decode cX3_come 19 = .ok (.iconst 0, 1) := by decide +kernel
theorem dX3_come_20 : decode cX3_come 20 = .ok (.iconst 5, 1) := by decide +kernel
theorem dX3_come_21 : decode cX3_come 21 = .ok (.invokestatic 23, 3) := by decide +kernel
theorem dX3_come_24 : decode cX3_come 24 = .ok (.ifCond .eq 13, 3) := by decide +kernel
theorem dX3_come_27 : decode cX3_come 27 = .ok (.iload_n 3, 1) := by decide +kernel
theorem dX3_come_28 : decode cX3_come 28 = .ok (.iconst 1, 1) := by decide +kernel
theorem dX3_come_29 : decode cX3_come 29 = .ok (.bipush 15, 2) := by decide +kernel
theorem dX3_come_31 : decode cX3_come 31 = .ok (.invokestatic 23, 3) := by decide +kernel
theorem dX3_come_34 : decode cX3_come 34 = .ok (.ifCond .ne 9, 3) := by decide +kernel
theorem dX3_come_37 : decode cX3_come 37 = .ok (.aload_n 0, 1) := by decide +kernel
theorem dX3_come_38 : decode cX3_come 38 = .ok (.iconst 2, 1) := by decide +kernel
theorem dX3_come_39 : decode cX3_come 39 = .ok (.invokevirtual 34, 3) := by decide +kernel
theorem dX3_come_42 : decode cX3_come 42 = .ok (.ireturn, 1) := by decide +kernel
theorem dX3_come_43 : decode cX3_come 43 = .ok (.aload_n 0, 1) := by decide +kernel
theorem dX3_come_44 : decode cX3_come 44 = .ok (.getfield 10, 3) := by decide +kernel
theorem dX3_come_47 : decode cX3_come 47 = .ok (.getfield 38, 3) := by decide +kernel
theorem dX3_come_50 : decode cX3_come 50 = .ok (.iload_n 1, 1) := by decide +kernel
theorem dX3_come_51 : decode cX3_come 51 = .ok (.iaload, 1) := by decide +kernel
theorem dX3_come_52 : decode cX3_come 52 = .ok (.iconst (-1), 1) := by decide +kernel
theorem dX3_come_53 : decode cX3_come 53 = .ok (.if_icmp .ne 15, 3) := by decide +kernel
theorem dX3_come_56 : decode cX3_come 56 = .ok (.aload_n 0, 1) := by decide +kernel
theorem dX3_come_57 : decode cX3_come 57 = .ok (.getfield 10, 3) := by decide +kernel
theorem dX3_come_60 : decode cX3_come 60 = .ok (.getfield 27, 3) := by decide +kernel
theorem dX3_come_63 : decode cX3_come 63 = .ok (.bipush 60, 2) := by decide +kernel
theorem dX3_come_65 : decode cX3_come 65 = .ok (.if_icmp .ne 9, 3) := by decide +kernel
theorem dX3_come_68 : decode cX3_come 68 = .ok (.aload_n 0, 1) := by decide +kernel
theorem dX3_come_69 : decode cX3_come 69 = .ok (.iconst 3, 1) := by decide +kernel
theorem dX3_come_70 : decode cX3_come 70 = .ok (.invokevirtual 34, 3) := by decide +kernel
theorem dX3_come_73 : decode cX3_come 73 = .ok (.ireturn, 1) := by decide +kernel
theorem dX3_come_74 : decode cX3_come 74 = .ok (.aload_n 0, 1) := by decide +kernel
theorem dX3_come_75 : decode cX3_come 75 = .ok (.getfield 10, 3) := by decide +kernel
theorem dX3_come_78 : decode cX3_come 78 = .ok (.iload_n 1, 1) := by decide +kernel
theorem dX3_come_79 : decode cX3_come 79 = .ok (.iload_n 2, 1) := by decide +kernel
theorem dX3_come_80 : decode cX3_come 80 = .ok (.iload_n 3, 1) := by decide +kernel
theorem dX3_come_81 : decode cX3_come 81 = .ok (.iconst (-1), 1) := by decide +kernel
theorem dX3_come_82 : decode cX3_come 82 = .ok (.invokevirtual 42, 3) := by decide +kernel
theorem dX3_come_85 : decode cX3_come 85 = .ok (.ireturn, 1) := by decide +kernel
set_option maxRecDepth 20000 in
theorem ggX3_move_X3_isRule : GoodIn wsX3_move wsX3_isRule := goodIn_r _ [7, 2, 8, 9, 6, 10, 27, 28, 29, 30, 31, 32, 33] (by decide +kernel) (by decide +kernel)
set_option maxRecDepth 20000 in
theorem gX3_move_X3_isRule : GoodIn wsX3_move (wsV RX3 46 RX3 yX3_isRule wsX3_isRule) := goodIn_app (goodIn_of _ (by decide +kernel)) ggX3_move_X3_isRule
set_option maxRecDepth 20000 in
theorem ggX3_move_X3_isCage : GoodIn wsX3_move wsX3_isCage := goodIn_r _ [13, 8, 9, 6, 10] (by decide +kernel) (by decide +kernel)
set_option maxRecDepth 20000 in
theorem gX3_move_X3_isCage : GoodIn wsX3_move (va_wsS RX3 30 yX3_isCage wsX3_isCage) := goodIn_app (goodIn_of _ (by decide +kernel)) ggX3_move_X3_isCage
set_option maxRecDepth 20000 in
theorem ggX3_move_X3_no : GoodIn wsX3_move wsX3_no := goodIn_r _ [17, 1, 27, 28, 29] (by decide +kernel) (by decide +kernel)
set_option maxRecDepth 20000 in
theorem gX3_move_X3_no : GoodIn wsX3_move (wsV RX3 34 RX3 yX3_no wsX3_no) := goodIn_app (goodIn_of _ (by decide +kernel)) ggX3_move_X3_no
set_option maxRecDepth 20000 in
theorem ggX3_move_X2_isThere : GoodIn wsX3_move wsX2_isThere := goodIn_r _ [22, 23, 30, 31, 32, 33] (by decide +kernel) (by decide +kernel)
set_option maxRecDepth 20000 in
theorem gX3_move_X2_isThere : GoodIn wsX3_move (wsV RX3 49 RX2 yX2_isThere wsX2_isThere) := goodIn_app (goodIn_of _ (by decide +kernel)) ggX3_move_X2_isThere
set_option maxRecDepth 20000 in
theorem ggX3_move_X3_moved : GoodIn wsX3_move wsX3_moved := goodIn_r _ [26, 30, 31, 32, 33] (by decide +kernel) (by decide +kernel)
set_option maxRecDepth 20000 in
theorem gX3_move_X3_moved : GoodIn wsX3_move (va_wsS RX3 52 yX3_moved wsX3_moved) := goodIn_app (goodIn_of _ (by decide +kernel)) ggX3_move_X3_moved
theorem dX3_move_0 : decode cX3_move 0 = .ok (.aload_n 0, 1) := by decide +kernel
theorem dX3_move_1 : decode cX3_move 1 = .ok (.iconst 0, 1) := by decide +kernel
theorem dX3_move_2 : decode cX3_move 2 = .ok (.putfield 19, 3) := by decide +kernel
theorem dX3_move_5 : decode cX3_move 5 = .ok (.aload_n 0, 1) := by decide +kernel
theorem dX3_move_6 : decode cX3_move 6 = .ok (.iload_n 1, 1) := by decide +kernel
theorem dX3_move_7 : decode cX3_move 7 = .ok (.invokevirtual 46, 3) := by decide +kernel
theorem dX3_move_10 : decode cX3_move 10 = .ok (.ifCond .eq 10, 3) := by decide +kernel
theorem dX3_move_13 : decode cX3_move 13 = .ok (.iload_n 2, 1) := by decide +kernel
theorem dX3_move_14 : decode cX3_move 14 = .ok (.invokestatic 30, 3) := by decide +kernel
theorem dX3_move_17 : decode cX3_move 17 = .ok (.ifCond .ne 9, 3) := by decide +kernel
theorem dX3_move_20 : decode cX3_move 20 = .ok (.aload_n 0, 1) := by decide +kernel
theorem dX3_move_21 : decode cX3_move 21 = .ok (.iconst 1, 1) := by decide +kernel
theorem dX3_move_22 : decode cX3_move 22 = .ok (.invokevirtual 34, 3) := by decide +kernel
theorem dX3_move_25 : decode cX3_move 25 = .ok (.ireturn, 1) := by decide +kernel
theorem dX3_move_26 : decode cX3_move 26 = .ok (.aload_n 0, 1) := by decide +kernel
theorem dX3_move_27 : decode cX3_move 27 = .ok (.getfield 10, 3) := by decide +kernel
theorem dX3_move_30 : decode cX3_move 30 = .ok (.iload_n 1, 1) := by decide +kernel
theorem dX3_move_31 : decode cX3_move 31 = .ok (.invokevirtual 49, 3) := by decide +kernel
theorem dX3_move_34 : decode cX3_move 34 = .ok (.ifCond .eq 16, 3) := by decide +kernel
theorem dX3_move_37 : decode cX3_move 37 = .ok (.aload_n 0, 1) := by decide +kernel
theorem dX3_move_38 : decode cX3_move 38 = .ok (.getfield 10, 3) := by decide +kernel
theorem dX3_move_41 : decode cX3_move 41 = .ok (.getfield 38, 3) := by decide +kernel
theorem dX3_move_44 : decode cX3_move 44 = .ok (.iload_n 2, 1) := by decide +kernel
theorem dX3_move_45 : decode cX3_move 45 = .ok (.iaload, 1) := by decide +kernel
theorem dX3_move_46 : decode cX3_move 46 = .ok (.iconst (-1), 1) := by decide +kernel
theorem dX3_move_47 : decode cX3_move 47 = .ok (.if_icmp .eq 9, 3) := by decide +kernel
theorem dX3_move_50 : decode cX3_move 50 = .ok (.aload_n 0, 1) := by decide +kernel
theorem dX3_move_51 : decode cX3_move 51 = .ok (.iconst 2, 1) := by decide +kernel
theorem dX3_move_52 : decode cX3_move 52 = .ok (.invokevirtual 34, 3) := by decide +kernel
theorem dX3_move_55 : decode cX3_move 55 = .ok (.ireturn, 1) := by decide +kernel
theorem dX3_move_56 : decode cX3_move 56 = .ok (.aload_n 0, 1) := by decide +kernel
theorem dX3_move_57 : decode cX3_move 57 = .ok (.getfield 10, 3) := by decide +kernel
theorem dX3_move_60 : decode cX3_move 60 = .ok (.iload_n 1, 1) := by decide +kernel
theorem dX3_move_61 : decode cX3_move 61 = .ok (.iload_n 2, 1) := by decide +kernel
theorem dX3_move_62 : decode cX3_move 62 = .ok (.invokestatic 52, 3) := by decide +kernel
theorem dX3_move_65 : decode cX3_move 65 = .ok (.ireturn, 1) := by decide +kernel
theorem dX3_moved_0 : decode cX3_moved 0 = .ok (.aload_n 0, 1) := by decide +kernel
theorem dX3_moved_1 : decode cX3_moved 1 = .ok (.getfield 56, 3) := by decide +kernel
theorem dX3_moved_4 : decode cX3_moved 4 = .ok (.bipush 8, 2) := by decide +kernel
theorem dX3_moved_6 : decode cX3_moved 6 = .ok (.aaload, 1) := by decide +kernel
theorem dX3_moved_7 : decode cX3_moved 7 = .ok (.iload_n 1, 1) := by decide +kernel
theorem dX3_moved_8 : decode cX3_moved 8 = .ok (.iaload, 1) := by decide +kernel
theorem dX3_moved_9 : decode cX3_moved 9 = .ok (.istore_n 3, 1) := by decide +kernel
theorem dX3_moved_10 : decode cX3_moved 10 = .ok (.aload_n 0, 1) := by decide +kernel
theorem dX3_moved_11 : decode cX3_moved 11 = .ok (.getfield 38, 3) := by decide +kernel
theorem dX3_moved_14 : decode cX3_moved 14 = .ok (.iload_n 3, 1) := by decide +kernel
theorem dX3_moved_15 : decode cX3_moved 15 = .ok (.iconst (-1), 1) := by decide +kernel
theorem dX3_moved_16 : decode cX3_moved 16 = .ok (.iastore, 1) := by decide +kernel
theorem dX3_moved_17 : decode cX3_moved 17 = .ok (.aload_n 0, 1) := by decide +kernel
theorem dX3_moved_18 : decode cX3_moved 18 = .ok (.getfield 38, 3) := by decide +kernel
theorem dX3_moved_21 : decode cX3_moved 21 = .ok (.iload_n 2, 1) := by decide +kernel
theorem dX3_moved_22 : decode cX3_moved 22 = .ok (.iload_n 1, 1) := by decide +kernel
theorem dX3_moved_23 : decode cX3_moved 23 = .ok (.iastore, 1) := by decide +kernel
theorem dX3_moved_24 : decode cX3_moved 24 = .ok (.aload_n 0, 1) := by decide +kernel
theorem dX3_moved_25 : decode cX3_moved 25 = .ok (.getfield 56, 3) := by decide +kernel
theorem dX3_moved_28 : decode cX3_moved 28 = .ok (.bipush 8, 2) := by decide +kernel
theorem dX3_moved_30 : decode cX3_moved 30 = .ok (.aaload, 1) := by decide +kernel
theorem dX3_moved_31 : decode cX3_moved 31 = .ok (.iload_n 1, 1) := by decide +kernel
theorem dX3_moved_32 : decode cX3_moved 32 = .ok (.iload_n 2, 1) := by decide +kernel
theorem dX3_moved_33 : decode cX3_moved 33 = .ok (.iastore, 1) := by decide +kernel
theorem dX3_moved_34 : decode cX3_moved 34 = .ok (.iload_n 3, 1) := by decide +kernel
theorem dX3_moved_35 : decode cX3_moved 35 = .ok (.ireturn, 1) := by decide +kernel
set_option maxRecDepth 20000 in
theorem ggX3_feed_X3_isRule : GoodIn wsX3_feed wsX3_isRule := goodIn_r _ [7, 2, 8, 9, 6, 10, 21, 22, 23, 24, 25, 26, 27] (by decide +kernel) (by decide +kernel)
set_option maxRecDepth 20000 in
theorem gX3_feed_X3_isRule : GoodIn wsX3_feed (wsV RX3 46 RX3 yX3_isRule wsX3_isRule) := goodIn_app (goodIn_of _ (by decide +kernel)) ggX3_feed_X3_isRule
set_option maxRecDepth 20000 in
theorem ggX3_feed_X3_no : GoodIn wsX3_feed wsX3_no := goodIn_r _ [14, 1, 21, 22, 23] (by decide +kernel) (by decide +kernel)
set_option maxRecDepth 20000 in
theorem gX3_feed_X3_no : GoodIn wsX3_feed (wsV RX3 34 RX3 yX3_no wsX3_no) := goodIn_app (goodIn_of _ (by decide +kernel)) ggX3_feed_X3_no
set_option maxRecDepth 20000 in
theorem ggX3_feed_X2_isThere : GoodIn wsX3_feed wsX2_isThere := goodIn_r _ [19, 20, 24, 25, 26, 27] (by decide +kernel) (by decide +kernel)
set_option maxRecDepth 20000 in
theorem gX3_feed_X2_isThere : GoodIn wsX3_feed (wsV RX3 49 RX2 yX2_isThere wsX2_isThere) := goodIn_app (goodIn_of _ (by decide +kernel)) ggX3_feed_X2_isThere
theorem dX3_feed_0 : decode cX3_feed 0 = .ok (.aload_n 0, 1) := by decide +kernel
theorem dX3_feed_1 : decode cX3_feed 1 = .ok (.iconst 0, 1) := by decide +kernel
theorem dX3_feed_2 : decode cX3_feed 2 = .ok (.putfield 19, 3) := by decide +kernel
theorem dX3_feed_5 : decode cX3_feed 5 = .ok (.aload_n 0, 1) := by decide +kernel
theorem dX3_feed_6 : decode cX3_feed 6 = .ok (.iload_n 1, 1) := by decide +kernel
theorem dX3_feed_7 : decode cX3_feed 7 = .ok (.invokevirtual 46, 3) := by decide +kernel
theorem dX3_feed_10 : decode cX3_feed 10 = .ok (.ifCond .ne 9, 3) := by decide +kernel
theorem dX3_feed_13 : decode cX3_feed 13 = .ok (.aload_n 0, 1) := by decide +kernel
theorem dX3_feed_14 : decode cX3_feed 14 = .ok (.iconst 1, 1) := by decide +kernel
theorem dX3_feed_15 : decode cX3_feed 15 = .ok (.invokevirtual 34, 3) := by decide +kernel
theorem dX3_feed_18 : decode cX3_feed 18 = .ok (.ireturn, 1) := by decide +kernel
theorem dX3_feed_19 : decode cX3_feed 19 = .ok (.aload_n 0, 1) := by decide +kernel
theorem dX3_feed_20 : decode cX3_feed 20 = .ok (.getfield 10, 3) := by decide +kernel
theorem dX3_feed_23 : decode cX3_feed 23 = .ok (.iload_n 1, 1) := by decide +kernel
theorem dX3_feed_24 : decode cX3_feed 24 = .ok (.invokevirtual 49, 3) := by decide +kernel
theorem dX3_feed_27 : decode cX3_feed 27 = .ok (.ifCond .ne 9, 3) := by decide +kernel
theorem dX3_feed_30 : decode cX3_feed 30 = .ok (.aload_n 0, 1) := by decide +kernel
theorem dX3_feed_31 : decode cX3_feed 31 = .ok (.iconst 2, 1) := by decide +kernel
theorem dX3_feed_32 : decode cX3_feed 32 = .ok (.invokevirtual 34, 3) := by decide +kernel
theorem dX3_feed_35 : decode cX3_feed 35 = .ok (.ireturn, 1) := by decide +kernel
theorem dX3_feed_36 : decode cX3_feed 36 = .ok (.aload_n 0, 1) := by decide +kernel
theorem dX3_feed_37 : decode cX3_feed 37 = .ok (.getfield 10, 3) := by decide +kernel
theorem dX3_feed_40 : decode cX3_feed 40 = .ok (.getfield 56, 3) := by decide +kernel
theorem dX3_feed_43 : decode cX3_feed 43 = .ok (.iconst 3, 1) := by decide +kernel
theorem dX3_feed_44 : decode cX3_feed 44 = .ok (.aaload, 1) := by decide +kernel
theorem dX3_feed_45 : decode cX3_feed 45 = .ok (.iload_n 1, 1) := by decide +kernel
theorem dX3_feed_46 : decode cX3_feed 46 = .ok (.iaload, 1) := by decide +kernel
theorem dX3_feed_47 : decode cX3_feed 47 = .ok (.istore_n 2, 1) := by decide +kernel
theorem dX3_feed_48 : decode cX3_feed 48 = .ok (.aload_n 0, 1) := by decide +kernel
theorem dX3_feed_49 : decode cX3_feed 49 = .ok (.getfield 10, 3) := by decide +kernel
theorem dX3_feed_52 : decode cX3_feed 52 = .ok (.getfield 56, 3) := by decide +kernel
theorem dX3_feed_55 : decode cX3_feed 55 = .ok (.iconst 3, 1) := by decide +kernel
theorem dX3_feed_56 : decode cX3_feed 56 = .ok (.aaload, 1) := by decide +kernel
theorem dX3_feed_57 : decode cX3_feed 57 = .ok (.iload_n 1, 1) := by decide +kernel
theorem dX3_feed_58 : decode cX3_feed 58 = .ok (.iconst 0, 1) := by decide +kernel
theorem dX3_feed_59 : decode cX3_feed 59 = .ok (.iastore, 1) := by decide +kernel
theorem dX3_feed_60 : decode cX3_feed 60 = .ok (.iload_n 2, 1) := by decide +kernel
theorem dX3_feed_61 : decode cX3_feed 61 = .ok (.ireturn, 1) := by decide +kernel
set_option maxRecDepth 20000 in
theorem ggX3_alter_X3_isRule : GoodIn wsX3_alter wsX3_isRule := goodIn_r _ [7, 2, 8, 9, 6, 10, 21, 22, 23, 24, 25, 26, 27] (by decide +kernel) (by decide +kernel)
set_option maxRecDepth 20000 in
theorem gX3_alter_X3_isRule : GoodIn wsX3_alter (wsV RX3 46 RX3 yX3_isRule wsX3_isRule) := goodIn_app (goodIn_of _ (by decide +kernel)) ggX3_alter_X3_isRule
set_option maxRecDepth 20000 in
theorem ggX3_alter_X3_no : GoodIn wsX3_alter wsX3_no := goodIn_r _ [14, 1, 21, 22, 23] (by decide +kernel) (by decide +kernel)
set_option maxRecDepth 20000 in
theorem gX3_alter_X3_no : GoodIn wsX3_alter (wsV RX3 34 RX3 yX3_no wsX3_no) := goodIn_app (goodIn_of _ (by decide +kernel)) ggX3_alter_X3_no
set_option maxRecDepth 20000 in
theorem ggX3_alter_X3_isIn : GoodIn wsX3_alter wsX3_isIn := goodIn_r _ [10] (by decide +kernel) (by decide +kernel)
set_option maxRecDepth 20000 in
theorem gX3_alter_X3_isIn : GoodIn wsX3_alter (va_wsS RX3 23 yX3_isIn wsX3_isIn) := goodIn_app (goodIn_of _ (by decide +kernel)) ggX3_alter_X3_isIn
set_option maxRecDepth 20000 in
theorem ggX3_alter_X2_isThere : GoodIn wsX3_alter wsX2_isThere := goodIn_r _ [19, 20, 24, 25, 26, 27] (by decide +kernel) (by decide +kernel)
set_option maxRecDepth 20000 in
theorem gX3_alter_X2_isThere : GoodIn wsX3_alter (wsV RX3 49 RX2 yX2_isThere wsX2_isThere) := goodIn_app (goodIn_of _ (by decide +kernel)) ggX3_alter_X2_isThere
theorem dX3_alter_0 : decode cX3_alter 0 = .ok (.aload_n 0, 1) := by decide +kernel
theorem dX3_alter_1 : decode cX3_alter 1 = .ok (.iconst 0, 1) := by decide +kernel
theorem dX3_alter_2 : decode cX3_alter 2 = .ok (.putfield 19, 3) := by decide +kernel
theorem dX3_alter_5 : decode cX3_alter 5 = .ok (.aload_n 0, 1) := by decide +kernel
theorem dX3_alter_6 : decode cX3_alter 6 = .ok (.iload_n 1, 1) := by decide +kernel
theorem dX3_alter_7 : decode cX3_alter 7 = .ok (.invokevirtual 46, 3) := by decide +kernel
theorem dX3_alter_10 : decode cX3_alter 10 = .ok (.ifCond .ne 9, 3) := by decide +kernel
theorem dX3_alter_13 : decode cX3_alter 13 = .ok (.aload_n 0, 1) := by decide +kernel
theorem dX3_alter_14 : decode cX3_alter 14 = .ok (.iconst 1, 1) := by decide +kernel
theorem dX3_alter_15 : decode cX3_alter 15 = .ok (.invokevirtual 34, 3) := by decide +kernel
theorem dX3_alter_18 : decode cX3_alter 18 = .ok (.ireturn, 1) := by decide +kernel
theorem dX3_alter_19 : decode cX3_alter 19 = .ok (.iload_n 2, 1) := by decide +kernel
theorem dX3_alter_20 : decode cX3_alter 20 = .ok (.iconst 1, 1) := by decide +kernel
theorem dX3_alter_21 : decode cX3_alter 21 = .ok (.bipush 15, 2) := by decide +kernel
theorem dX3_alter_23 : decode cX3_alter 23 = .ok (.invokestatic 23, 3) := by decide +kernel
theorem dX3_alter_26 : decode cX3_alter 26 = .ok (.ifCond .ne 9, 3) := by decide +kernel
theorem dX3_alter_29 : decode cX3_alter 29 = .ok (.aload_n 0, 1) := by decide +kernel
theorem dX3_alter_30 : decode cX3_alter 30 = .ok (.iconst 2, 1) := by decide +kernel
theorem dX3_alter_31 : decode cX3_alter 31 = .ok (.invokevirtual 34, 3) := by decide +kernel
theorem dX3_alter_34 : decode cX3_alter 34 = .ok (.ireturn, 1) := by decide +kernel
theorem dX3_alter_35 : decode cX3_alter 35 = .ok (.aload_n 0, 1) := by decide +kernel
theorem dX3_alter_36 : decode cX3_alter 36 = .ok (.getfield 10, 3) := by decide +kernel
theorem dX3_alter_39 : decode cX3_alter 39 = .ok (.iload_n 1, 1) := by decide +kernel
theorem dX3_alter_40 : decode cX3_alter 40 = .ok (.invokevirtual 49, 3) := by decide +kernel
theorem dX3_alter_43 : decode cX3_alter 43 = .ok (.ifCond .ne 9, 3) := by decide +kernel
theorem dX3_alter_46 : decode cX3_alter 46 = .ok (.aload_n 0, 1) := by decide +kernel
theorem dX3_alter_47 : decode cX3_alter 47 = .ok (.iconst 3, 1) := by decide +kernel
theorem dX3_alter_48 : decode cX3_alter 48 = .ok (.invokevirtual 34, 3) := by decide +kernel
theorem dX3_alter_51 : decode cX3_alter 51 = .ok (.ireturn, 1) := by decide +kernel
theorem dX3_alter_52 : decode cX3_alter 52 = .ok (.aload_n 0, 1) := by decide +kernel
theorem dX3_alter_53 : decode cX3_alter 53 = .ok (.getfield 10, 3) := by decide +kernel
theorem dX3_alter_56 : decode cX3_alter 56 = .ok (.getfield 56, 3) := by decide +kernel
theorem dX3_alter_59 : decode cX3_alter 59 = .ok (.iconst 1, 1) := by decide +kernel
theorem dX3_alter_60 : decode cX3_alter 60 = .ok (.aaload, 1) := by decide +kernel
theorem dX3_alter_61 : decode cX3_alter 61 = .ok (.iload_n 1, 1) := by decide +kernel
theorem dX3_alter_62 : decode cX3_alter 62 = .ok (.iaload, 1) := by decide +kernel
theorem dX3_alter_63 : decode cX3_alter 63 = .ok (.istore_n 3, 1) := by decide +kernel
theorem dX3_alter_64 : decode cX3_alter 64 = .ok (.aload_n 0, 1) := by decide +kernel
theorem dX3_alter_65 : decode cX3_alter 65 = .ok (.getfield 10, 3) := by decide +kernel
theorem dX3_alter_68 : decode cX3_alter 68 = .ok (.getfield 56, 3) := by decide +kernel
theorem dX3_alter_71 : decode cX3_alter 71 = .ok (.iconst 1, 1) := by decide +kernel
theorem dX3_alter_72 : decode cX3_alter 72 = .ok (.aaload, 1) := by decide +kernel
theorem dX3_alter_73 : decode cX3_alter 73 = .ok (.iload_n 1, 1) := by decide +kernel
theorem dX3_alter_74 : decode cX3_alter 74 = .ok (.iload_n 2, 1) := by decide +kernel
theorem dX3_alter_75 : decode cX3_alter 75 = .ok (.iastore, 1) := by decide +kernel
theorem dX3_alter_76 : decode cX3_alter 76 = .ok (.iload_n 3, 1) := by decide +kernel
theorem dX3_alter_77 : decode cX3_alter 77 = .ok (.ireturn, 1) := by decide +kernel
set_option maxRecDepth 20000 in
theorem ggX3_free_X3_isRule : GoodIn wsX3_free wsX3_isRule := goodIn_r _ [7, 2, 8, 9, 6, 10, 26, 27, 28, 29, 30, 31, 32] (by decide +kernel) (by decide +kernel)
set_option maxRecDepth 20000 in
theorem gX3_free_X3_isRule : GoodIn wsX3_free (wsV RX3 46 RX3 yX3_isRule wsX3_isRule) := goodIn_app (goodIn_of _ (by decide +kernel)) ggX3_free_X3_isRule
set_option maxRecDepth 20000 in
theorem ggX3_free_X3_no : GoodIn wsX3_free wsX3_no := goodIn_r _ [14, 1, 26, 27, 28] (by decide +kernel) (by decide +kernel)
set_option maxRecDepth 20000 in
theorem gX3_free_X3_no : GoodIn wsX3_free (wsV RX3 34 RX3 yX3_no wsX3_no) := goodIn_app (goodIn_of _ (by decide +kernel)) ggX3_free_X3_no
set_option maxRecDepth 20000 in
theorem ggX3_free_X2_isThere : GoodIn wsX3_free wsX2_isThere := goodIn_r _ [19, 20, 29, 30, 31, 32] (by decide +kernel) (by decide +kernel)
set_option maxRecDepth 20000 in
theorem gX3_free_X2_isThere : GoodIn wsX3_free (wsV RX3 49 RX2 yX2_isThere wsX2_isThere) := goodIn_app (goodIn_of _ (by decide +kernel)) ggX3_free_X2_isThere
set_option maxRecDepth 20000 in
theorem ggX3_free_X2_goes : GoodIn wsX3_free wsX2_goes := goodIn_r _ [24, 25, 20, 29, 30, 31, 32] (by decide +kernel) (by decide +kernel)
set_option maxRecDepth 20000 in
theorem gX3_free_X2_goes : GoodIn wsX3_free (wsV RX3 60 RX2 yX2_goes wsX2_goes) := goodIn_app (goodIn_of _ (by decide +kernel)) ggX3_free_X2_goes
theorem dX3_free_0 : decode cX3_free 0 = .ok (.aload_n 0, 1) := by decide +kernel
theorem dX3_free_1 : decode cX3_free 1 = .ok (.iconst 0, 1) := by decide +kernel
theorem dX3_free_2 : decode cX3_free 2 = .ok (.putfield 19, 3) := by decide +kernel
theorem dX3_free_5 : decode cX3_free 5 = .ok (.aload_n 0, 1) := by decide +kernel
theorem dX3_free_6 : decode cX3_free 6 = .ok (.iload_n 1, 1) := by decide +kernel
theorem dX3_free_7 : decode cX3_free 7 = .ok (.invokevirtual 46, 3) := by decide +kernel
theorem dX3_free_10 : decode cX3_free 10 = .ok (.ifCond .ne 9, 3) := by decide +kernel
theorem dX3_free_13 : decode cX3_free 13 = .ok (.aload_n 0, 1) := by decide +kernel
theorem dX3_free_14 : decode cX3_free 14 = .ok (.iconst 1, 1) := by decide +kernel
theorem dX3_free_15 : decode cX3_free 15 = .ok (.invokevirtual 34, 3) := by decide +kernel
theorem dX3_free_18 : decode cX3_free 18 = .ok (.ireturn, 1) := by decide +kernel
theorem dX3_free_19 : decode cX3_free 19 = .ok (.aload_n 0, 1) := by decide +kernel
theorem dX3_free_20 : decode cX3_free 20 = .ok (.getfield 10, 3) := by decide +kernel
theorem dX3_free_23 : decode cX3_free 23 = .ok (.iload_n 1, 1) := by decide +kernel
theorem dX3_free_24 : decode cX3_free 24 = .ok (.invokevirtual 49, 3) := by decide +kernel
theorem dX3_free_27 : decode cX3_free 27 = .ok (.ifCond .ne 9, 3) := by decide +kernel
theorem dX3_free_30 : decode cX3_free 30 = .ok (.aload_n 0, 1) := by decide +kernel
theorem dX3_free_31 : decode cX3_free 31 = .ok (.iconst 2, 1) := by decide +kernel
theorem dX3_free_32 : decode cX3_free 32 = .ok (.invokevirtual 34, 3) := by decide +kernel
theorem dX3_free_35 : decode cX3_free 35 = .ok (.ireturn, 1) := by decide +kernel
theorem dX3_free_36 : decode cX3_free 36 = .ok (.aload_n 0, 1) := by decide +kernel
theorem dX3_free_37 : decode cX3_free 37 = .ok (.getfield 10, 3) := by decide +kernel
theorem dX3_free_40 : decode cX3_free 40 = .ok (.iload_n 1, 1) := by decide +kernel
theorem dX3_free_41 : decode cX3_free 41 = .ok (.iconst 3, 1) := by decide +kernel
theorem dX3_free_42 : decode cX3_free 42 = .ok (.invokevirtual 60, 3) := by decide +kernel
theorem dX3_free_45 : decode cX3_free 45 = .ok (.aload_n 0, 1) := by decide +kernel
theorem dX3_free_46 : decode cX3_free 46 = .ok (.getfield 10, 3) := by decide +kernel
theorem dX3_free_49 : decode cX3_free 49 = .ok (.getfield 56, 3) := by decide +kernel
theorem dX3_free_52 : decode cX3_free 52 = .ok (.iconst 4, 1) := by decide +kernel
theorem dX3_free_53 : decode cX3_free 53 = .ok (.aaload, 1) := by decide +kernel
theorem dX3_free_54 : decode cX3_free 54 = .ok (.iload_n 1, 1) := by decide +kernel
theorem dX3_free_55 : decode cX3_free 55 = .ok (.iaload, 1) := by decide +kernel
theorem dX3_free_56 : decode cX3_free 56 = .ok (.ireturn, 1) := by decide +kernel
set_option maxRecDepth 20000 in
theorem ggX3_told_X2_codeOf : GoodIn wsX3_told wsX2_codeOf := goodIn_r _ [6, 7, 11, 12, 13, 14] (by decide +kernel) (by decide +kernel)
set_option maxRecDepth 20000 in
theorem gX3_told_X2_codeOf : GoodIn wsX3_told (wsV RX3 64 RX2 yX2_codeOf wsX2_codeOf) := goodIn_app (goodIn_of _ (by decide +kernel)) ggX3_told_X2_codeOf
theorem dX3_told_0 : decode cX3_told 0 = .ok (.iload_n 2, 1) := by decide +kernel
theorem dX3_told_1 : decode cX3_told 1 = .ok (.iconst 2, 1) := by decide +kernel
theorem dX3_told_2 : decode cX3_told 2 = .ok (.if_icmp .ne 14, 3) := by decide +kernel
theorem dX3_told_5 : decode cX3_told 5 = .ok (.aload_n 0, 1) := by decide +kernel
theorem dX3_told_6 : decode cX3_told 6 = .ok (.getfield 10, 3) := by decide +kernel
theorem dX3_told_9 : decode cX3_told 9 = .ok (.iload_n 1, 1) := by decide +kernel
theorem dX3_told_10 : decode cX3_told 10 = .ok (.invokevirtual 64, 3) := by decide +kernel
theorem dX3_told_13 : decode cX3_told 13 = .ok (.goto 14, 3) := by decide +kernel
theorem dX3_told_16 : decode cX3_told 16 = .ok (.aload_n 0, 1) := by decide +kernel
theorem dX3_told_17 : decode cX3_told 17 = .ok (.getfield 10, 3) := by decide +kernel
theorem dX3_told_20 : decode cX3_told 20 = .ok (.getfield 56, 3) := by decide +kernel
theorem dX3_told_23 : decode cX3_told 23 = .ok (.iload_n 2, 1) := by decide +kernel
theorem dX3_told_24 : decode cX3_told 24 = .ok (.aaload, 1) := by decide +kernel
theorem dX3_told_25 : decode cX3_told 25 = .ok (.iload_n 1, 1) := by decide +kernel
theorem dX3_told_26 : decode cX3_told 26 = .ok (.iaload, 1) := by decide +kernel
theorem dX3_told_27 : decode cX3_told 27 = .ok (.ireturn, 1) := by decide +kernel
set_option maxRecDepth 20000 in
theorem ggX3_rule_X3_isRule : GoodIn wsX3_rule wsX3_isRule := goodIn_r _ [6, 7, 8, 9, 5, 10, 25, 26, 27, 28, 29, 30, 31] (by decide +kernel) (by decide +kernel)
set_option maxRecDepth 20000 in
theorem gX3_rule_X3_isRule : GoodIn wsX3_rule (wsV RX3 46 RX3 yX3_isRule wsX3_isRule) := goodIn_app (goodIn_of _ (by decide +kernel)) ggX3_rule_X3_isRule
set_option maxRecDepth 20000 in
theorem ggX3_rule_X3_isIn : GoodIn wsX3_rule wsX3_isIn := goodIn_r _ [10] (by decide +kernel) (by decide +kernel)
set_option maxRecDepth 20000 in
theorem gX3_rule_X3_isIn : GoodIn wsX3_rule (va_wsS RX3 23 yX3_isIn wsX3_isIn) := goodIn_app (goodIn_of _ (by decide +kernel)) ggX3_rule_X3_isIn
set_option maxRecDepth 20000 in
theorem ggX3_rule_X3_told : GoodIn wsX3_rule wsX3_told := goodIn_r _ [14, 7, 15, 16, 17, 18, 19, 20, 25, 26, 27, 28, 29, 30, 31] (by decide +kernel) (by decide +kernel)
set_option maxRecDepth 20000 in
theorem gX3_rule_X3_told : GoodIn wsX3_rule (wsV RX3 67 RX3 yX3_told wsX3_told) := goodIn_app (goodIn_of _ (by decide +kernel)) ggX3_rule_X3_told
set_option maxRecDepth 20000 in
theorem ggX3_rule_X3_no : GoodIn wsX3_rule wsX3_no := goodIn_r _ [24, 1, 25, 26, 27] (by decide +kernel) (by decide +kernel)
set_option maxRecDepth 20000 in
theorem gX3_rule_X3_no : GoodIn wsX3_rule (wsV RX3 34 RX3 yX3_no wsX3_no) := goodIn_app (goodIn_of _ (by decide +kernel)) ggX3_rule_X3_no
theorem dX3_rule_0 : decode cX3_rule 0 = .ok (.aload_n 0, 1) := by decide +kernel
theorem dX3_rule_1 : decode cX3_rule 1 = .ok (.iconst 0, 1) := by decide +kernel
theorem dX3_rule_2 : decode cX3_rule 2 = .ok (.putfield 19, 3) := by decide +kernel
theorem dX3_rule_5 : decode cX3_rule 5 = .ok (.aload_n 0, 1) := by decide +kernel
theorem dX3_rule_6 : decode cX3_rule 6 = .ok (.iload_n 1, 1) := by decide +kernel
theorem dX3_rule_7 : decode cX3_rule 7 = .ok (.invokevirtual 46, 3) := by decide +kernel
theorem dX3_rule_10 : decode cX3_rule 10 = .ok (.ifCond .eq 22, 3) := by decide +kernel
theorem dX3_rule_13 : decode cX3_rule 13 = .ok (.iload_n 2, 1) := by decide +kernel
theorem dX3_rule_14 : decode cX3_rule 14 = .ok (.iconst 0, 1) := by decide +kernel
theorem dX3_rule_15 : decode cX3_rule 15 = .ok (.bipush 11, 2) := by decide +kernel
theorem dX3_rule_17 : decode cX3_rule 17 = .ok (.invokestatic 23, 3) := by decide +kernel
theorem dX3_rule_20 : decode cX3_rule 20 = .ok (.ifCond .eq 12, 3) := by decide +kernel
theorem dX3_rule_23 : decode cX3_rule 23 = .ok (.aload_n 0, 1) := by decide +kernel
theorem dX3_rule_24 : decode cX3_rule 24 = .ok (.iload_n 1, 1) := by decide +kernel
theorem dX3_rule_25 : decode cX3_rule 25 = .ok (.iload_n 2, 1) := by decide +kernel
theorem dX3_rule_26 : decode cX3_rule 26 = .ok (.invokevirtual 67, 3) := by decide +kernel
theorem dX3_rule_29 : decode cX3_rule 29 = .ok (.goto 8, 3) := by decide +kernel
theorem dX3_rule_32 : decode cX3_rule 32 = .ok (.aload_n 0, 1) := by decide +kernel
theorem dX3_rule_33 : decode cX3_rule 33 = .ok (.iconst 1, 1) := by decide +kernel
theorem dX3_rule_34 : decode cX3_rule 34 = .ok (.invokevirtual 34, 3) := by decide +kernel
theorem dX3_rule_37 : decode cX3_rule 37 = .ok (.ireturn, 1) := by decide +kernel
set_option maxRecDepth 20000 in
theorem ggX3_cage_X3_isCage : GoodIn wsX3_cage wsX3_isCage := goodIn_r _ [6, 7, 8, 5, 9] (by decide +kernel) (by decide +kernel)
set_option maxRecDepth 20000 in
theorem gX3_cage_X3_isCage : GoodIn wsX3_cage (va_wsS RX3 30 yX3_isCage wsX3_isCage) := goodIn_app (goodIn_of _ (by decide +kernel)) ggX3_cage_X3_isCage
set_option maxRecDepth 20000 in
theorem ggX3_cage_X3_no : GoodIn wsX3_cage wsX3_no := goodIn_r _ [13, 1, 14, 15, 16] (by decide +kernel) (by decide +kernel)
set_option maxRecDepth 20000 in
theorem gX3_cage_X3_no : GoodIn wsX3_cage (wsV RX3 34 RX3 yX3_no wsX3_no) := goodIn_app (goodIn_of _ (by decide +kernel)) ggX3_cage_X3_no
theorem dX3_cage_0 : decode cX3_cage 0 = .ok (.aload_n 0, 1) := by decide +kernel
theorem dX3_cage_1 : decode cX3_cage 1 = .ok (.iconst 0, 1) := by decide +kernel
theorem dX3_cage_2 : decode cX3_cage 2 = .ok (.putfield 19, 3) := by decide +kernel
theorem dX3_cage_5 : decode cX3_cage 5 = .ok (.iload_n 1, 1) := by decide +kernel
theorem dX3_cage_6 : decode cX3_cage 6 = .ok (.invokestatic 30, 3) := by decide +kernel
theorem dX3_cage_9 : decode cX3_cage 9 = .ok (.ifCond .eq 15, 3) := by decide +kernel
theorem dX3_cage_12 : decode cX3_cage 12 = .ok (.aload_n 0, 1) := by decide +kernel
theorem dX3_cage_13 : decode cX3_cage 13 = .ok (.getfield 10, 3) := by decide +kernel
theorem dX3_cage_16 : decode cX3_cage 16 = .ok (.getfield 38, 3) := by decide +kernel
theorem dX3_cage_19 : decode cX3_cage 19 = .ok (.iload_n 1, 1) := by decide +kernel
theorem dX3_cage_20 : decode cX3_cage 20 = .ok (.iaload, 1) := by decide +kernel
theorem dX3_cage_21 : decode cX3_cage 21 = .ok (.goto 8, 3) := by decide +kernel
theorem dX3_cage_24 : decode cX3_cage 24 = .ok (.aload_n 0, 1) := by decide +kernel
theorem dX3_cage_25 : decode cX3_cage 25 = .ok (.iconst 1, 1) := by decide +kernel
theorem dX3_cage_26 : decode cX3_cage 26 = .ok (.invokevirtual 34, 3) := by decide +kernel
theorem dX3_cage_29 : decode cX3_cage 29 = .ok (.ireturn, 1) := by decide +kernel
set_option maxRecDepth 20000 in
theorem ggX3_counted_X2_isThere : GoodIn wsX3_counted wsX2_isThere := goodIn_r _ [7, 8, 24, 25, 26, 27] (by decide +kernel) (by decide +kernel)
set_option maxRecDepth 20000 in
theorem gX3_counted_X2_isThere : GoodIn wsX3_counted (wsV RX3 49 RX2 yX2_isThere wsX2_isThere) := goodIn_app (goodIn_of _ (by decide +kernel)) ggX3_counted_X2_isThere
set_option maxRecDepth 20000 in
theorem ggX3_counted_X2_are : GoodIn wsX3_counted wsX2_are := goodIn_r _ [12, 13, 8, 24, 25, 26, 27] (by decide +kernel) (by decide +kernel)
set_option maxRecDepth 20000 in
theorem gX3_counted_X2_are : GoodIn wsX3_counted (wsV RX3 71 RX2 yX2_are wsX2_are) := goodIn_app (goodIn_of _ (by decide +kernel)) ggX3_counted_X2_are
set_option maxRecDepth 20000 in
theorem ggX3_counted_J6_bitCount_0f7a4 : GoodIn wsX3_counted wsJ6_bitCount_0f7a4 := goodIn_r _ [17, 18, 19, 20] (by decide +kernel) (by decide +kernel)
set_option maxRecDepth 20000 in
theorem gX3_counted_J6_bitCount_0f7a4 : GoodIn wsX3_counted (va_wsS RX3 77 yJ6_bitCount_0f7a4 wsJ6_bitCount_0f7a4) := goodIn_app (goodIn_of _ (by decide +kernel)) ggX3_counted_J6_bitCount_0f7a4
theorem dX3_counted_0 : decode cX3_counted 0 = .ok (.iconst 0, 1) := by decide +kernel
theorem dX3_counted_1 : decode cX3_counted 1 = .ok (.istore_n 2, 1) := by decide +kernel
theorem dX3_counted_2 : decode cX3_counted 2 = .ok (.iconst 0, 1) := by decide +kernel
theorem dX3_counted_3 : decode cX3_counted 3 = .ok (.istore_n 3, 1) := by decide +kernel
theorem dX3_counted_4 : decode cX3_counted 4 = .ok (.iconst 0, 1) := by decide +kernel
theorem dX3_counted_5 : decode cX3_counted 5 = .ok (.istore 4, 2) := by decide +kernel
theorem dX3_counted_7 : decode cX3_counted 7 = .ok (.iload 4, 2) := by decide +kernel
theorem dX3_counted_9 : decode cX3_counted 9 = .ok (.aload_n 0, 1) := by decide +kernel
theorem dX3_counted_10 : decode cX3_counted 10 = .ok (.getfield 10, 3) := by decide +kernel
theorem dX3_counted_13 : decode cX3_counted 13 = .ok (.getfield 27, 3) := by decide +kernel
theorem dX3_counted_16 : decode cX3_counted 16 = .ok (.if_icmp .ge 63, 3) := by decide +kernel
theorem dX3_counted_19 : decode cX3_counted 19 = .ok (.iload_n 2, 1) := by decide +kernel
theorem dX3_counted_20 : decode cX3_counted 20 = .ok (.aload_n 0, 1) := by decide +kernel
theorem dX3_counted_21 : decode cX3_counted 21 = .ok (.getfield 10, 3) := by decide +kernel
theorem dX3_counted_24 : decode cX3_counted 24 = .ok (.getfield 56, 3) := by decide +kernel
theorem dX3_counted_27 : decode cX3_counted 27 = .ok (.bipush 7, 2) := by decide +kernel
theorem dX3_counted_29 : decode cX3_counted 29 = .ok (.aaload, 1) := by decide +kernel
theorem dX3_counted_30 : decode cX3_counted 30 = .ok (.iload 4, 2) := by decide +kernel
theorem dX3_counted_32 : decode cX3_counted 32 = .ok (.iaload, 1) := by decide +kernel
theorem dX3_counted_33 : decode cX3_counted 33 = .ok (.iconst (-1), 1) := by decide +kernel
theorem dX3_counted_34 : decode cX3_counted 34 = .ok (.if_icmp .ne 7, 3) := by decide +kernel
theorem dX3_counted_37 : decode cX3_counted 37 = .ok (.iconst 0, 1) := by decide +kernel
theorem dX3_counted_38 : decode cX3_counted 38 = .ok (.goto 4, 3) := by decide +kernel
theorem dX3_counted_41 : decode cX3_counted 41 = .ok (.iconst 1, 1) := by decide +kernel
theorem dX3_counted_42 : decode cX3_counted 42 = .ok (.iadd, 1) := by decide +kernel
theorem dX3_counted_43 : decode cX3_counted 43 = .ok (.istore_n 2, 1) := by decide +kernel
theorem dX3_counted_44 : decode cX3_counted 44 = .ok (.aload_n 0, 1) := by decide +kernel
theorem dX3_counted_45 : decode cX3_counted 45 = .ok (.getfield 10, 3) := by decide +kernel
theorem dX3_counted_48 : decode cX3_counted 48 = .ok (.iload 4, 2) := by decide +kernel
theorem dX3_counted_50 : decode cX3_counted 50 = .ok (.invokevirtual 49, 3) := by decide +kernel
theorem dX3_counted_53 : decode cX3_counted 53 = .ok (.ifCond .eq 20, 3) := by decide +kernel
theorem dX3_counted_56 : decode cX3_counted 56 = .ok (.iload_n 3, 1) := by decide +kernel
theorem dX3_counted_57 : decode cX3_counted 57 = .ok (.iconst 1, 1) := by decide +kernel
theorem dX3_counted_58 : decode cX3_counted 58 = .ok (.aload_n 0, 1) := by decide +kernel
theorem dX3_counted_59 : decode cX3_counted 59 = .ok (.getfield 10, 3) := by decide +kernel
theorem dX3_counted_62 : decode cX3_counted 62 = .ok (.getfield 56, 3) := by decide +kernel
theorem dX3_counted_65 : decode cX3_counted 65 = .ok (.iconst 0, 1) := by decide +kernel
theorem dX3_counted_66 : decode cX3_counted 66 = .ok (.aaload, 1) := by decide +kernel
theorem dX3_counted_67 : decode cX3_counted 67 = .ok (.iload 4, 2) := by decide +kernel
theorem dX3_counted_69 : decode cX3_counted 69 = .ok (.iaload, 1) := by decide +kernel
theorem dX3_counted_70 : decode cX3_counted 70 = .ok (.ishl, 1) := by decide +kernel
theorem dX3_counted_71 : decode cX3_counted 71 = .ok (.ior, 1) := by decide +kernel
theorem dX3_counted_72 : decode cX3_counted 72 = .ok (.istore_n 3, 1) := by decide +kernel
theorem dX3_counted_73 : decode cX3_counted 73 = .ok (.iinc 4 1, 3) := by decide +kernel
theorem dX3_counted_76 : decode cX3_counted 76 = .ok (.goto (-69), 3) := by decide +kernel
theorem dX3_counted_79 : decode cX3_counted 79 = .ok (.aload_n 0, 1) := by decide +kernel
theorem dX3_counted_80 : decode cX3_counted 80 = .ok (.getfield 10, 3) := by decide +kernel
theorem dX3_counted_83 : decode cX3_counted 83 = .ok (.iconst 0, 1) := by decide +kernel
theorem dX3_counted_84 : decode cX3_counted 84 = .ok (.invokevirtual 71, 3) := by decide +kernel
theorem dX3_counted_87 : decode cX3_counted 87 = .ok (.istore 4, 2) := by decide +kernel
theorem dX3_counted_89 : decode cX3_counted 89 = .ok (.bipush 9, 2) := by decide +kernel
theorem dX3_counted_91 : decode cX3_counted 91 = .ok (.newarray .int, 2) := by decide +kernel
theorem dX3_counted_93 : decode cX3_counted 93 = .ok (.dup, 1) := by decide +kernel
theorem dX3_counted_94 : decode cX3_counted 94 = .ok (.iconst 0, 1) := by decide +kernel
theorem dX3_counted_95 : decode cX3_counted 95 = .ok (.aload_n 0, 1) := by decide +kernel
theorem dX3_counted_96 : decode cX3_counted 96 = .ok (.getfield 10, 3) := by decide +kernel
theorem dX3_counted_99 : decode cX3_counted 99 = .ok (.getfield 74, 3) := by decide +kernel
theorem dX3_counted_102 : decode cX3_counted 102 = .ok (.iastore, 1) := by decide +kernel
theorem dX3_counted_103 : decode cX3_counted 103 = .ok (.dup, 1) := by decide +kernel
theorem dX3_counted_104 : decode cX3_counted 104 = .ok (.iconst 1, 1) := by decide +kernel
theorem dX3_counted_105 : decode cX3_counted 105 = .ok (.iload 4, 2) := by decide +kernel
theorem dX3_counted_107 : decode cX3_counted 107 = .ok (.iastore, 1) := by decide +kernel
theorem dX3_counted_108 : decode cX3_counted 108 = .ok (.dup, 1) := by decide +kernel
theorem dX3_counted_109 : decode cX3_counted 109 = .ok (.iconst 2, 1) := by decide +kernel
theorem dX3_counted_110 : decode cX3_counted 110 = .ok (.aload_n 0, 1) := by decide +kernel
theorem dX3_counted_111 : decode cX3_counted 111 = .ok (.getfield 10, 3) := by decide +kernel
theorem dX3_counted_114 : decode cX3_counted 114 = .ok (.getfield 27, 3) := by decide +kernel
theorem dX3_counted_117 : decode cX3_counted 117 = .ok (.iastore, 1) := by decide +kernel
theorem dX3_counted_118 : decode cX3_counted 118 = .ok (.dup, 1) := by decide +kernel
theorem dX3_counted_119 : decode cX3_counted 119 = .ok (.iconst 3, 1) := by decide +kernel
theorem dX3_counted_120 : decode cX3_counted 120 = .ok (.aload_n 0, 1) := by decide +kernel
theorem dX3_counted_121 : decode cX3_counted 121 = .ok (.getfield 10, 3) := by decide +kernel
theorem dX3_counted_124 : decode cX3_counted 124 = .ok (.iconst 1, 1) := by decide +kernel
theorem dX3_counted_125 : decode cX3_counted 125 = .ok (.invokevirtual 71, 3) := by decide +kernel
theorem dX3_counted_128 : decode cX3_counted 128 = .ok (.iastore, 1) := by decide +kernel
theorem dX3_counted_129 : decode cX3_counted 129 = .ok (.dup, 1) := by decide +kernel
theorem dX3_counted_130 : decode cX3_counted 130 = .ok (.iconst 4, 1) := by decide +kernel
theorem dX3_counted_131 : decode cX3_counted 131 = .ok (.aload_n 0, 1) := by decide +kernel
theorem dX3_counted_132 : decode cX3_counted 132 = .ok (.getfield 10, 3) := by decide +kernel
theorem dX3_counted_135 : decode cX3_counted 135 = .ok (.iconst 2, 1) := by decide +kernel
theorem dX3_counted_136 : decode cX3_counted 136 = .ok (.invokevirtual 71, 3) := by decide +kernel
theorem dX3_counted_139 : decode cX3_counted 139 = .ok (.iastore, 1) := by decide +kernel
theorem dX3_counted_140 : decode cX3_counted 140 = .ok (.dup, 1) := by decide +kernel
theorem dX3_counted_141 : decode cX3_counted 141 = .ok (.iconst 5, 1) := by decide +kernel
theorem dX3_counted_142 : decode cX3_counted 142 = .ok (.aload_n 0, 1) := by decide +kernel
theorem dX3_counted_143 : decode cX3_counted 143 = .ok (.getfield 10, 3) := by decide +kernel
theorem dX3_counted_146 : decode cX3_counted 146 = .ok (.iconst 3, 1) := by decide +kernel
theorem dX3_counted_147 : decode cX3_counted 147 = .ok (.invokevirtual 71, 3) := by decide +kernel
theorem dX3_counted_150 : decode cX3_counted 150 = .ok (.iastore, 1) := by decide +kernel
theorem dX3_counted_151 : decode cX3_counted 151 = .ok (.dup, 1) := by decide +kernel
theorem dX3_counted_152 : decode cX3_counted 152 = .ok (.bipush 6, 2) := by decide +kernel
theorem dX3_counted_154 : decode cX3_counted 154 = .ok (.iload_n 2, 1) := by decide +kernel
theorem dX3_counted_155 : decode cX3_counted 155 = .ok (.iastore, 1) := by decide +kernel
theorem dX3_counted_156 : decode cX3_counted 156 = .ok (.dup, 1) := by decide +kernel
theorem dX3_counted_157 : decode cX3_counted 157 = .ok (.bipush 7, 2) := by decide +kernel
theorem dX3_counted_159 : decode cX3_counted 159 = .ok (.bipush 20, 2) := by decide +kernel
theorem dX3_counted_161 : decode cX3_counted 161 = .ok (.iload 4, 2) := by decide +kernel
theorem dX3_counted_163 : decode cX3_counted 163 = .ok (.isub, 1) := by decide +kernel
theorem dX3_counted_164 : decode cX3_counted 164 = .ok (.iastore, 1) := by decide +kernel
theorem dX3_counted_165 : decode cX3_counted 165 = .ok (.dup, 1) := by decide +kernel
theorem dX3_counted_166 : decode cX3_counted 166 = .ok (.bipush 8, 2) := by decide +kernel
theorem dX3_counted_168 : decode cX3_counted 168 = .ok (.iload_n 3, 1) := by decide +kernel
theorem dX3_counted_169 : decode cX3_counted 169 = .ok (.invokestatic 77, 3) := by decide +kernel
theorem dX3_counted_172 : decode cX3_counted 172 = .ok (.iastore, 1) := by decide +kernel
theorem dX3_counted_173 : decode cX3_counted 173 = .ok (.astore 5, 2) := by decide +kernel
theorem dX3_counted_175 : decode cX3_counted 175 = .ok (.aload 5, 2) := by decide +kernel
theorem dX3_counted_177 : decode cX3_counted 177 = .ok (.iload_n 1, 1) := by decide +kernel
theorem dX3_counted_178 : decode cX3_counted 178 = .ok (.iaload, 1) := by decide +kernel
theorem dX3_counted_179 : decode cX3_counted 179 = .ok (.ireturn, 1) := by decide +kernel
set_option maxRecDepth 20000 in
theorem ggX3_count_X3_isIn : GoodIn wsX3_count wsX3_isIn := goodIn_r _ [5] (by decide +kernel) (by decide +kernel)
set_option maxRecDepth 20000 in
theorem gX3_count_X3_isIn : GoodIn wsX3_count (va_wsS RX3 23 yX3_isIn wsX3_isIn) := goodIn_app (goodIn_of _ (by decide +kernel)) ggX3_count_X3_isIn
set_option maxRecDepth 20000 in
theorem ggX3_count_X3_counted : GoodIn wsX3_count wsX3_counted := goodIn_r _ [9, 10, 11, 12, 13, 14, 15, 16, 17, 18, 19, 20, 21, 22, 23, 24, 25, 26, 27, 28, 29, 34, 35, 36, 37, 38, 39, 40] (by decide +kernel) (by decide +kernel)
set_option maxRecDepth 20000 in
theorem gX3_count_X3_counted : GoodIn wsX3_count (wsV RX3 82 RX3 yX3_counted wsX3_counted) := goodIn_app (goodIn_of _ (by decide +kernel)) ggX3_count_X3_counted
set_option maxRecDepth 20000 in
theorem ggX3_count_X3_no : GoodIn wsX3_count wsX3_no := goodIn_r _ [33, 1, 34, 35, 36] (by decide +kernel) (by decide +kernel)
set_option maxRecDepth 20000 in
theorem gX3_count_X3_no : GoodIn wsX3_count (wsV RX3 34 RX3 yX3_no wsX3_no) := goodIn_app (goodIn_of _ (by decide +kernel)) ggX3_count_X3_no
theorem dX3_count_0 : decode cX3_count 0 = .ok (.aload_n 0, 1) := by decide +kernel
theorem dX3_count_1 : decode cX3_count 1 = .ok (.iconst 0, 1) := by decide +kernel
theorem dX3_count_2 : decode cX3_count 2 = .ok (.putfield 19, 3) := by decide +kernel
theorem dX3_count_5 : decode cX3_count 5 = .ok (.iload_n 1, 1) := by decide +kernel
theorem dX3_count_6 : decode cX3_count 6 = .ok (.iconst 0, 1) := by decide +kernel
theorem dX3_count_7 : decode cX3_count 7 = .ok (.bipush 8, 2) := by decide +kernel
theorem dX3_count_9 : decode cX3_count 9 = .ok (.invokestatic 23, 3) := by decide +kernel
theorem dX3_count_12 : decode cX3_count 12 = .ok (.ifCond .eq 11, 3) := by decide +kernel
theorem dX3_count_15 : decode cX3_count 15 = .ok (.aload_n 0, 1) := by decide +kernel
theorem dX3_count_16 : decode cX3_count 16 = .ok (.iload_n 1, 1) := by decide +kernel
theorem dX3_count_17 : decode cX3_count 17 = .ok (.invokevirtual 82, 3) := by decide +kernel
theorem dX3_count_20 : decode cX3_count 20 = .ok (.goto 8, 3) := by decide +kernel
theorem dX3_count_23 : decode cX3_count 23 = .ok (.aload_n 0, 1) := by decide +kernel
theorem dX3_count_24 : decode cX3_count 24 = .ok (.iconst 1, 1) := by decide +kernel
theorem dX3_count_25 : decode cX3_count 25 = .ok (.invokevirtual 34, 3) := by decide +kernel
theorem dX3_count_28 : decode cX3_count 28 = .ok (.ireturn, 1) := by decide +kernel
set_option maxRecDepth 20000 in
theorem ggX3_may_X3_isRule : GoodIn wsX3_may wsX3_isRule := goodIn_r _ [7, 2, 8, 9, 6, 10, 29, 30, 31, 32, 33, 34, 35] (by decide +kernel) (by decide +kernel)
set_option maxRecDepth 20000 in
theorem gX3_may_X3_isRule : GoodIn wsX3_may (wsV RX3 46 RX3 yX3_isRule wsX3_isRule) := goodIn_app (goodIn_of _ (by decide +kernel)) ggX3_may_X3_isRule
set_option maxRecDepth 20000 in
theorem ggX3_may_X2_may : GoodIn wsX3_may wsX2_may := goodIn_r _ [15, 16, 17, 18, 19, 14, 20, 21, 22, 23, 24, 32, 33, 34, 35] (by decide +kernel) (by decide +kernel)
set_option maxRecDepth 20000 in
theorem gX3_may_X2_may : GoodIn wsX3_may (wsV RX3 85 RX2 yX2_may wsX2_may) := goodIn_app (goodIn_of _ (by decide +kernel)) ggX3_may_X2_may
set_option maxRecDepth 20000 in
theorem ggX3_may_X3_no : GoodIn wsX3_may wsX3_no := goodIn_r _ [28, 1, 29, 30, 31] (by decide +kernel) (by decide +kernel)
set_option maxRecDepth 20000 in
theorem gX3_may_X3_no : GoodIn wsX3_may (wsV RX3 34 RX3 yX3_no wsX3_no) := goodIn_app (goodIn_of _ (by decide +kernel)) ggX3_may_X3_no
theorem dX3_may_0 : decode cX3_may 0 = .ok (.aload_n 0, 1) := by decide +kernel
theorem dX3_may_1 : decode cX3_may 1 = .ok (.iconst 0, 1) := by decide +kernel
theorem dX3_may_2 : decode cX3_may 2 = .ok (.putfield 19, 3) := by decide +kernel
theorem dX3_may_5 : decode cX3_may 5 = .ok (.aload_n 0, 1) := by decide +kernel
theorem dX3_may_6 : decode cX3_may 6 = .ok (.iload_n 1, 1) := by decide +kernel
theorem dX3_may_7 : decode cX3_may 7 = .ok (.invokevirtual 46, 3) := by decide +kernel
theorem dX3_may_10 : decode cX3_may 10 = .ok (.ifCond .eq 23, 3) := by decide +kernel
theorem dX3_may_13 : decode cX3_may 13 = .ok (.aload_n 0, 1) := by decide +kernel
theorem dX3_may_14 : decode cX3_may 14 = .ok (.iload_n 2, 1) := by decide +kernel
theorem dX3_may_15 : decode cX3_may 15 = .ok (.invokevirtual 46, 3) := by decide +kernel
theorem dX3_may_18 : decode cX3_may 18 = .ok (.ifCond .eq 15, 3) := by decide +kernel
theorem dX3_may_21 : decode cX3_may 21 = .ok (.aload_n 0, 1) := by decide +kernel
theorem dX3_may_22 : decode cX3_may 22 = .ok (.getfield 10, 3) := by decide +kernel
theorem dX3_may_25 : decode cX3_may 25 = .ok (.iload_n 1, 1) := by decide +kernel
theorem dX3_may_26 : decode cX3_may 26 = .ok (.iload_n 2, 1) := by decide +kernel
theorem dX3_may_27 : decode cX3_may 27 = .ok (.invokevirtual 85, 3) := by decide +kernel
theorem dX3_may_30 : decode cX3_may 30 = .ok (.goto 16, 3) := by decide +kernel
theorem dX3_may_33 : decode cX3_may 33 = .ok (.aload_n 0, 1) := by decide +kernel
theorem dX3_may_34 : decode cX3_may 34 = .ok (.iconst 1, 1) := by decide +kernel
theorem dX3_may_35 : decode cX3_may 35 = .ok (.invokevirtual 34, 3) := by decide +kernel
theorem dX3_may_38 : decode cX3_may 38 = .ok (.ifCond .eq 7, 3) := by decide +kernel
theorem dX3_may_41 : decode cX3_may 41 = .ok (.iconst 1, 1) := by decide +kernel
theorem dX3_may_42 : decode cX3_may 42 = .ok (.goto 4, 3) := by decide +kernel
theorem dX3_may_45 : decode cX3_may 45 = .ok (.iconst 0, 1) := by decide +kernel
theorem dX3_may_46 : decode cX3_may 46 = .ok (.ireturn, 1) := by decide +kernel
set_option maxRecDepth 20000 in
theorem ggX3_prey_X3_isRule : GoodIn wsX3_prey wsX3_isRule := goodIn_r _ [7, 2, 8, 9, 6, 10, 37, 38, 39, 40, 41, 42, 43] (by decide +kernel) (by decide +kernel)
set_option maxRecDepth 20000 in
theorem gX3_prey_X3_isRule : GoodIn wsX3_prey (wsV RX3 46 RX3 yX3_isRule wsX3_isRule) := goodIn_app (goodIn_of _ (by decide +kernel)) ggX3_prey_X3_isRule
set_option maxRecDepth 20000 in
theorem ggX3_prey_X2_prey : GoodIn wsX3_prey wsX2_prey := goodIn_r _ [15, 16, 17, 18, 19, 20, 14, 21, 22, 23, 24, 25, 26, 27, 28, 29, 30, 31, 32, 40, 41, 42, 43] (by decide +kernel) (by decide +kernel)
set_option maxRecDepth 20000 in
theorem gX3_prey_X2_prey : GoodIn wsX3_prey (wsV RX3 89 RX2 yX2_prey wsX2_prey) := goodIn_app (goodIn_of _ (by decide +kernel)) ggX3_prey_X2_prey
set_option maxRecDepth 20000 in
theorem ggX3_prey_X3_no : GoodIn wsX3_prey wsX3_no := goodIn_r _ [36, 1, 37, 38, 39] (by decide +kernel) (by decide +kernel)
set_option maxRecDepth 20000 in
theorem gX3_prey_X3_no : GoodIn wsX3_prey (wsV RX3 34 RX3 yX3_no wsX3_no) := goodIn_app (goodIn_of _ (by decide +kernel)) ggX3_prey_X3_no
theorem dX3_prey_0 : decode cX3_prey 0 = .ok (.aload_n 0, 1) := by decide +kernel
theorem dX3_prey_1 : decode cX3_prey 1 = .ok (.iconst 0, 1) := by decide +kernel
theorem dX3_prey_2 : decode cX3_prey 2 = .ok (.putfield 19, 3) := by decide +kernel
theorem dX3_prey_5 : decode cX3_prey 5 = .ok (.aload_n 0, 1) := by decide +kernel
theorem dX3_prey_6 : decode cX3_prey 6 = .ok (.iload_n 1, 1) := by decide +kernel
theorem dX3_prey_7 : decode cX3_prey 7 = .ok (.invokevirtual 46, 3) := by decide +kernel
theorem dX3_prey_10 : decode cX3_prey 10 = .ok (.ifCond .eq 14, 3) := by decide +kernel
theorem dX3_prey_13 : decode cX3_prey 13 = .ok (.aload_n 0, 1) := by decide +kernel
theorem dX3_prey_14 : decode cX3_prey 14 = .ok (.getfield 10, 3) := by decide +kernel
theorem dX3_prey_17 : decode cX3_prey 17 = .ok (.iload_n 1, 1) := by decide +kernel
theorem dX3_prey_18 : decode cX3_prey 18 = .ok (.invokevirtual 89, 3) := by decide +kernel
theorem dX3_prey_21 : decode cX3_prey 21 = .ok (.goto 8, 3) := by decide +kernel
theorem dX3_prey_24 : decode cX3_prey 24 = .ok (.aload_n 0, 1) := by decide +kernel
theorem dX3_prey_25 : decode cX3_prey 25 = .ok (.iconst 1, 1) := by decide +kernel
theorem dX3_prey_26 : decode cX3_prey 26 = .ok (.invokevirtual 34, 3) := by decide +kernel
theorem dX3_prey_29 : decode cX3_prey 29 = .ok (.ireturn, 1) := by decide +kernel
set_option maxRecDepth 20000 in
theorem ggX3_hunters_X3_isRule : GoodIn wsX3_hunters wsX3_isRule := goodIn_r _ [7, 2, 8, 9, 6, 10, 37, 38, 39, 40, 41, 42, 43] (by decide +kernel) (by decide +kernel)
set_option maxRecDepth 20000 in
theorem gX3_hunters_X3_isRule : GoodIn wsX3_hunters (wsV RX3 46 RX3 yX3_isRule wsX3_isRule) := goodIn_app (goodIn_of _ (by decide +kernel)) ggX3_hunters_X3_isRule
set_option maxRecDepth 20000 in
theorem ggX3_hunters_X3_no : GoodIn wsX3_hunters wsX3_no := goodIn_r _ [14, 1, 37, 38, 39] (by decide +kernel) (by decide +kernel)
set_option maxRecDepth 20000 in
theorem gX3_hunters_X3_no : GoodIn wsX3_hunters (wsV RX3 34 RX3 yX3_no wsX3_no) := goodIn_app (goodIn_of _ (by decide +kernel)) ggX3_hunters_X3_no
set_option maxRecDepth 20000 in
theorem ggX3_hunters_X2_prey : GoodIn wsX3_hunters wsX2_prey := goodIn_r _ [19, 20, 21, 22, 23, 24, 18, 25, 26, 27, 28, 29, 30, 31, 32, 33, 34, 35, 36, 40, 41, 42, 43] (by decide +kernel) (by decide +kernel)
set_option maxRecDepth 20000 in
theorem gX3_hunters_X2_prey : GoodIn wsX3_hunters (wsV RX3 89 RX2 yX2_prey wsX2_prey) := goodIn_app (goodIn_of _ (by decide +kernel)) ggX3_hunters_X2_prey
theorem dX3_hunters_0 : decode cX3_hunters 0 = .ok (.aload_n 0, 1) := by decide +kernel
theorem dX3_hunters_1 : decode cX3_hunters 1 = .ok (.iconst 0, 1) := by decide +kernel
theorem dX3_hunters_2 : decode cX3_hunters 2 = .ok (.putfield 19, 3) := by decide +kernel
theorem dX3_hunters_5 : decode cX3_hunters 5 = .ok (.aload_n 0, 1) := by decide +kernel
theorem dX3_hunters_6 : decode cX3_hunters 6 = .ok (.iload_n 1, 1) := by decide +kernel
theorem dX3_hunters_7 : decode cX3_hunters 7 = .ok (.invokevirtual 46, 3) := by decide +kernel
theorem dX3_hunters_10 : decode cX3_hunters 10 = .ok (.ifCond .ne 9, 3) := by decide +kernel
theorem dX3_hunters_13 : decode cX3_hunters 13 = .ok (.aload_n 0, 1) := by decide +kernel
theorem dX3_hunters_14 : decode cX3_hunters 14 = .ok (.iconst 1, 1) := by decide +kernel
theorem dX3_hunters_15 : decode cX3_hunters 15 = .ok (.invokevirtual 34, 3) := by decide +kernel
theorem dX3_hunters_18 : decode cX3_hunters 18 = .ok (.ireturn, 1) := by decide +kernel
theorem dX3_hunters_19 : decode cX3_hunters 19 = .ok (.iconst 0, 1) := by decide +kernel
theorem dX3_hunters_20 : decode cX3_hunters 20 = .ok (.istore_n 2, 1) := by decide +kernel
theorem dX3_hunters_21 : decode cX3_hunters 21 = .ok (.iconst 0, 1) := by decide +kernel
theorem dX3_hunters_22 : decode cX3_hunters 22 = .ok (.istore_n 3, 1) := by decide +kernel
theorem dX3_hunters_23 : decode cX3_hunters 23 = .ok (.iload_n 3, 1) := by decide +kernel
theorem dX3_hunters_24 : decode cX3_hunters 24 = .ok (.aload_n 0, 1) := by decide +kernel
theorem dX3_hunters_25 : decode cX3_hunters 25 = .ok (.getfield 10, 3) := by decide +kernel
theorem dX3_hunters_28 : decode cX3_hunters 28 = .ok (.getfield 27, 3) := by decide +kernel
theorem dX3_hunters_31 : decode cX3_hunters 31 = .ok (.if_icmp .ge 29, 3) := by decide +kernel
theorem dX3_hunters_34 : decode cX3_hunters 34 = .ok (.iload_n 2, 1) := by decide +kernel
theorem dX3_hunters_35 : decode cX3_hunters 35 = .ok (.aload_n 0, 1) := by decide +kernel
theorem dX3_hunters_36 : decode cX3_hunters 36 = .ok (.getfield 10, 3) := by decide +kernel
theorem dX3_hunters_39 : decode cX3_hunters 39 = .ok (.iload_n 3, 1) := by decide +kernel
theorem dX3_hunters_40 : decode cX3_hunters 40 = .ok (.invokevirtual 89, 3) := by decide +kernel
theorem dX3_hunters_43 : decode cX3_hunters 43 = .ok (.iload_n 1, 1) := by decide +kernel
theorem dX3_hunters_44 : decode cX3_hunters 44 = .ok (.if_icmp .ne 7, 3) := by decide +kernel
theorem dX3_hunters_47 : decode cX3_hunters 47 = .ok (.iconst 1, 1) := by decide +kernel
theorem dX3_hunters_48 : decode cX3_hunters 48 = .ok (.goto 4, 3) := by decide +kernel
theorem dX3_hunters_51 : decode cX3_hunters 51 = .ok (.iconst 0, 1) := by decide +kernel
theorem dX3_hunters_52 : decode cX3_hunters 52 = .ok (.iadd, 1) := by decide +kernel
theorem dX3_hunters_53 : decode cX3_hunters 53 = .ok (.istore_n 2, 1) := by decide +kernel
theorem dX3_hunters_54 : decode cX3_hunters 54 = .ok (.iinc 3 1, 3) := by decide +kernel
theorem dX3_hunters_57 : decode cX3_hunters 57 = .ok (.goto (-34), 3) := by decide +kernel
theorem dX3_hunters_60 : decode cX3_hunters 60 = .ok (.iload_n 2, 1) := by decide +kernel
theorem dX3_hunters_61 : decode cX3_hunters 61 = .ok (.ireturn, 1) := by decide +kernel
set_option maxRecDepth 20000 in
theorem ggX3_chain_X3_isRule : GoodIn wsX3_chain wsX3_isRule := goodIn_r _ [7, 2, 8, 9, 6, 10, 45, 46, 47, 48, 49, 50, 51] (by decide +kernel) (by decide +kernel)
set_option maxRecDepth 20000 in
theorem gX3_chain_X3_isRule : GoodIn wsX3_chain (wsV RX3 46 RX3 yX3_isRule wsX3_isRule) := goodIn_app (goodIn_of _ (by decide +kernel)) ggX3_chain_X3_isRule
set_option maxRecDepth 20000 in
theorem ggX3_chain_X3_no : GoodIn wsX3_chain wsX3_no := goodIn_r _ [14, 1, 45, 46, 47] (by decide +kernel) (by decide +kernel)
set_option maxRecDepth 20000 in
theorem gX3_chain_X3_no : GoodIn wsX3_chain (wsV RX3 34 RX3 yX3_no wsX3_no) := goodIn_app (goodIn_of _ (by decide +kernel)) ggX3_chain_X3_no
set_option maxRecDepth 20000 in
theorem ggX3_chain_X2_isThere : GoodIn wsX3_chain wsX2_isThere := goodIn_r _ [19, 20, 48, 49, 50, 51] (by decide +kernel) (by decide +kernel)
set_option maxRecDepth 20000 in
theorem gX3_chain_X2_isThere : GoodIn wsX3_chain (wsV RX3 49 RX2 yX2_isThere wsX2_isThere) := goodIn_app (goodIn_of _ (by decide +kernel)) ggX3_chain_X2_isThere
set_option maxRecDepth 20000 in
theorem ggX3_chain_X2_prey : GoodIn wsX3_chain wsX2_prey := goodIn_r _ [24, 25, 20, 26, 16, 17, 18, 19, 27, 28, 29, 30, 31, 32, 33, 34, 35, 36, 37, 48, 49, 50, 51] (by decide +kernel) (by decide +kernel)
set_option maxRecDepth 20000 in
theorem gX3_chain_X2_prey : GoodIn wsX3_chain (wsV RX3 89 RX2 yX2_prey wsX2_prey) := goodIn_app (goodIn_of _ (by decide +kernel)) ggX3_chain_X2_prey
set_option maxRecDepth 20000 in
theorem ggX3_chain_J13_bitCount_95d88 : GoodIn wsX3_chain wsJ13_bitCount_95d88 := goodIn_r _ [41, 42, 43, 44] (by decide +kernel) (by decide +kernel)
set_option maxRecDepth 20000 in
theorem gX3_chain_J13_bitCount_95d88 : GoodIn wsX3_chain (va_wsS RX3 92 yJ13_bitCount_95d88 wsJ13_bitCount_95d88) := goodIn_app (goodIn_of _ (by decide +kernel)) ggX3_chain_J13_bitCount_95d88
theorem dX3_chain_0 : decode cX3_chain 0 = .ok (.aload_n 0, 1) := by decide +kernel
theorem dX3_chain_1 : decode cX3_chain 1 = .ok (.iconst 0, 1) := by decide +kernel
theorem dX3_chain_2 : decode cX3_chain 2 = .ok (.putfield 19, 3) := by decide +kernel
theorem dX3_chain_5 : decode cX3_chain 5 = .ok (.aload_n 0, 1) := by decide +kernel
theorem dX3_chain_6 : decode cX3_chain 6 = .ok (.iload_n 1, 1) := by decide +kernel
theorem dX3_chain_7 : decode cX3_chain 7 = .ok (.invokevirtual 46, 3) := by decide +kernel
theorem dX3_chain_10 : decode cX3_chain 10 = .ok (.ifCond .ne 9, 3) := by decide +kernel
theorem dX3_chain_13 : decode cX3_chain 13 = .ok (.aload_n 0, 1) := by decide +kernel
theorem dX3_chain_14 : decode cX3_chain 14 = .ok (.iconst 1, 1) := by decide +kernel
theorem dX3_chain_15 : decode cX3_chain 15 = .ok (.invokevirtual 34, 3) := by decide +kernel
theorem dX3_chain_18 : decode cX3_chain 18 = .ok (.ireturn, 1) := by decide +kernel
theorem dX3_chain_19 : decode cX3_chain 19 = .ok (.aload_n 0, 1) := by decide +kernel
theorem dX3_chain_20 : decode cX3_chain 20 = .ok (.getfield 10, 3) := by decide +kernel
theorem dX3_chain_23 : decode cX3_chain 23 = .ok (.iload_n 1, 1) := by decide +kernel
theorem dX3_chain_24 : decode cX3_chain 24 = .ok (.invokevirtual 49, 3) := by decide +kernel
theorem dX3_chain_27 : decode cX3_chain 27 = .ok (.ifCond .ne 5, 3) := by decide +kernel
theorem dX3_chain_30 : decode cX3_chain 30 = .ok (.iconst 0, 1) := by decide +kernel
theorem dX3_chain_31 : decode cX3_chain 31 = .ok (.ireturn, 1) := by decide +kernel
theorem dX3_chain_32 : decode cX3_chain 32 = .ok (.lconst 0, 1) := by decide +kernel
theorem dX3_chain_33 : decode cX3_chain 33 = .ok (.lstore_n 2, 1) := by decide +kernel
theorem dX3_chain_34 : decode cX3_chain 34 = .ok (.iload_n 1, 1) := by decide +kernel
theorem dX3_chain_35 : decode cX3_chain 35 = .ok (.istore 4, 2) := by decide +kernel
theorem dX3_chain_37 : decode cX3_chain 37 = .ok (.iload 4, 2) := by decide +kernel
theorem dX3_chain_39 : decode cX3_chain 39 = .ok (.iconst (-1), 1) := by decide +kernel
theorem dX3_chain_40 : decode cX3_chain 40 = .ok (.if_icmp .eq 35, 3) := by decide +kernel
theorem dX3_chain_43 : decode cX3_chain 43 = .ok (.lload_n 2, 1) := by decide +kernel
theorem dX3_chain_44 : decode cX3_chain 44 = .ok (.iload 4, 2) := by decide +kernel
theorem dX3_chain_46 : decode cX3_chain 46 = .ok (.lshr, 1) := by decide +kernel
theorem dX3_chain_47 : decode cX3_chain 47 = .ok (.lconst 1, 1) := by decide +kernel
theorem dX3_chain_48 : decode cX3_chain 48 = .ok (.land, 1) := by decide +kernel
theorem dX3_chain_49 : decode cX3_chain 49 = .ok (.lconst 0, 1) := by decide +kernel
theorem dX3_chain_50 : decode cX3_chain 50 = .ok (.lcmp, 1) := by decide +kernel
theorem dX3_chain_51 : decode cX3_chain 51 = .ok (.ifCond .ne 24, 3) := by decide +kernel
theorem dX3_chain_54 : decode cX3_chain 54 = .ok (.lload_n 2, 1) := by decide +kernel
theorem dX3_chain_55 : decode cX3_chain 55 = .ok (.lconst 1, 1) := by decide +kernel
theorem dX3_chain_56 : decode cX3_chain 56 = .ok (.iload 4, 2) := by decide +kernel
theorem dX3_chain_58 : decode cX3_chain 58 = .ok (.lshl, 1) := by decide +kernel
theorem dX3_chain_59 : decode cX3_chain 59 = .ok (.lor, 1) := by decide +kernel
theorem dX3_chain_60 : decode cX3_chain 60 = .ok (.lstore_n 2, 1) := by decide +kernel
theorem dX3_chain_61 : decode cX3_chain 61 = .ok (.aload_n 0, 1) := by decide +kernel
theorem dX3_chain_62 : decode cX3_chain 62 = .ok (.getfield 10, 3) := by decide +kernel
theorem dX3_chain_65 : decode cX3_chain 65 = .ok (.iload 4, 2) := by decide +kernel
theorem dX3_chain_67 : decode cX3_chain 67 = .ok (.invokevirtual 89, 3) := by decide +kernel
theorem dX3_chain_70 : decode cX3_chain 70 = .ok (.istore 4, 2) := by decide +kernel
theorem dX3_chain_72 : decode cX3_chain 72 = .ok (.goto (-35), 3) := by decide +kernel
theorem dX3_chain_75 : decode cX3_chain 75 = .ok (.lload_n 2, 1) := by decide +kernel
theorem dX3_chain_76 : decode cX3_chain 76 = .ok (.invokestatic 92, 3) := by decide +kernel
theorem dX3_chain_79 : decode cX3_chain 79 = .ok (.ireturn, 1) := by decide +kernel
set_option maxRecDepth 20000 in
theorem ggX3_pass_X3_isIn : GoodIn wsX3_pass wsX3_isIn := goodIn_r _ [6] (by decide +kernel) (by decide +kernel)
set_option maxRecDepth 20000 in
theorem gX3_pass_X3_isIn : GoodIn wsX3_pass (va_wsS RX3 23 yX3_isIn wsX3_isIn) := goodIn_app (goodIn_of _ (by decide +kernel)) ggX3_pass_X3_isIn
set_option maxRecDepth 20000 in
theorem ggX3_pass_X3_no : GoodIn wsX3_pass wsX3_no := goodIn_r _ [10, 1, 67, 68, 69] (by decide +kernel) (by decide +kernel)
set_option maxRecDepth 20000 in
theorem gX3_pass_X3_no : GoodIn wsX3_pass (wsV RX3 34 RX3 yX3_no wsX3_no) := goodIn_app (goodIn_of _ (by decide +kernel)) ggX3_pass_X3_no
set_option maxRecDepth 20000 in
theorem ggX3_pass_X2_are : GoodIn wsX3_pass wsX2_are := goodIn_r _ [15, 16, 17, 70, 71, 72, 73] (by decide +kernel) (by decide +kernel)
set_option maxRecDepth 20000 in
theorem gX3_pass_X2_are : GoodIn wsX3_pass (wsV RX3 71 RX2 yX2_are wsX2_are) := goodIn_app (goodIn_of _ (by decide +kernel)) ggX3_pass_X2_are
set_option maxRecDepth 20000 in
theorem ggX3_pass_X2_pass : GoodIn wsX3_pass wsX2_pass := goodIn_r _ [21, 16, 17, 22, 23, 24, 25, 14, 26, 27, 28, 29, 30, 31, 32, 33, 34, 35, 36, 37, 38, 39, 40, 41, 42, 43, 44, 45, 46, 47, 48, 49, 50, 51, 52, 53, 54, 55, 56, 57, 58, 59, 60, 61, 62, 63, 64, 65, 66, 70, 71, 72, 73] (by decide +kernel) (by decide +kernel)
set_option maxRecDepth 20000 in
theorem gX3_pass_X2_pass : GoodIn wsX3_pass (wsV RX3 97 RX2 yX2_pass wsX2_pass) := goodIn_app (goodIn_of _ (by decide +kernel)) ggX3_pass_X2_pass
theorem dX3_pass_0 : decode cX3_pass 0 = .ok (.aload_n 0, 1) := by decide +kernel
theorem dX3_pass_1 : decode cX3_pass 1 = .ok (.iconst 0, 1) := by decide +kernel
theorem dX3_pass_2 : decode cX3_pass 2 = .ok (.putfield 19, 3) := by decide +kernel
theorem dX3_pass_5 : decode cX3_pass 5 = .ok (.iload_n 1, 1) := by decide +kernel
theorem dX3_pass_6 : decode cX3_pass 6 = .ok (.iconst 1, 1) := by decide +kernel
theorem dX3_pass_7 : decode cX3_pass 7 = .ok (.bipush 50, 2) := by decide +kernel
theorem dX3_pass_9 : decode cX3_pass 9 = .ok (.invokestatic 23, 3) := by decide +kernel
theorem dX3_pass_12 : decode cX3_pass 12 = .ok (.ifCond .ne 9, 3) := by decide +kernel
theorem dX3_pass_15 : decode cX3_pass 15 = .ok (.aload_n 0, 1) := by decide +kernel
theorem dX3_pass_16 : decode cX3_pass 16 = .ok (.iconst 1, 1) := by decide +kernel
theorem dX3_pass_17 : decode cX3_pass 17 = .ok (.invokevirtual 34, 3) := by decide +kernel
theorem dX3_pass_20 : decode cX3_pass 20 = .ok (.ireturn, 1) := by decide +kernel
theorem dX3_pass_21 : decode cX3_pass 21 = .ok (.aload_n 0, 1) := by decide +kernel
theorem dX3_pass_22 : decode cX3_pass 22 = .ok (.getfield 10, 3) := by decide +kernel
theorem dX3_pass_25 : decode cX3_pass 25 = .ok (.getfield 27, 3) := by decide +kernel
theorem dX3_pass_28 : decode cX3_pass 28 = .ok (.aload_n 0, 1) := by decide +kernel
theorem dX3_pass_29 : decode cX3_pass 29 = .ok (.getfield 10, 3) := by decide +kernel
theorem dX3_pass_32 : decode cX3_pass 32 = .ok (.iconst 0, 1) := by decide +kernel
theorem dX3_pass_33 : decode cX3_pass 33 = .ok (.invokevirtual 71, 3) := by decide +kernel
theorem dX3_pass_36 : decode cX3_pass 36 = .ok (.isub, 1) := by decide +kernel
theorem dX3_pass_37 : decode cX3_pass 37 = .ok (.istore_n 2, 1) := by decide +kernel
theorem dX3_pass_38 : decode cX3_pass 38 = .ok (.iconst 0, 1) := by decide +kernel
theorem dX3_pass_39 : decode cX3_pass 39 = .ok (.istore_n 3, 1) := by decide +kernel
theorem dX3_pass_40 : decode cX3_pass 40 = .ok (.iload_n 3, 1) := by decide +kernel
theorem dX3_pass_41 : decode cX3_pass 41 = .ok (.iload_n 1, 1) := by decide +kernel
theorem dX3_pass_42 : decode cX3_pass 42 = .ok (.if_icmp .ge 16, 3) := by decide +kernel
theorem dX3_pass_45 : decode cX3_pass 45 = .ok (.aload_n 0, 1) := by decide +kernel
theorem dX3_pass_46 : decode cX3_pass 46 = .ok (.getfield 10, 3) := by decide +kernel
theorem dX3_pass_49 : decode cX3_pass 49 = .ok (.invokevirtual 97, 3) := by decide +kernel
theorem dX3_pass_52 : decode cX3_pass 52 = .ok (.iinc 3 1, 3) := by decide +kernel
theorem dX3_pass_55 : decode cX3_pass 55 = .ok (.goto (-15), 3) := by decide +kernel
theorem dX3_pass_58 : decode cX3_pass 58 = .ok (.aload_n 0, 1) := by decide +kernel
theorem dX3_pass_59 : decode cX3_pass 59 = .ok (.getfield 10, 3) := by decide +kernel
theorem dX3_pass_62 : decode cX3_pass 62 = .ok (.getfield 27, 3) := by decide +kernel
theorem dX3_pass_65 : decode cX3_pass 65 = .ok (.aload_n 0, 1) := by decide +kernel
theorem dX3_pass_66 : decode cX3_pass 66 = .ok (.getfield 10, 3) := by decide +kernel
theorem dX3_pass_69 : decode cX3_pass 69 = .ok (.iconst 0, 1) := by decide +kernel
theorem dX3_pass_70 : decode cX3_pass 70 = .ok (.invokevirtual 71, 3) := by decide +kernel
theorem dX3_pass_73 : decode cX3_pass 73 = .ok (.isub, 1) := by decide +kernel
theorem dX3_pass_74 : decode cX3_pass 74 = .ok (.iload_n 2, 1) := by decide +kernel
theorem dX3_pass_75 : decode cX3_pass 75 = .ok (.isub, 1) := by decide +kernel
theorem dX3_pass_76 : decode cX3_pass 76 = .ok (.ireturn, 1) := by decide +kernel
set_option maxRecDepth 20000 in
theorem ggX3_foresee_X3_isIn : GoodIn wsX3_foresee wsX3_isIn := goodIn_r _ [7] (by decide +kernel) (by decide +kernel)
set_option maxRecDepth 20000 in
theorem gX3_foresee_X3_isIn : GoodIn wsX3_foresee (va_wsS RX3 23 yX3_isIn wsX3_isIn) := goodIn_app (goodIn_of _ (by decide +kernel)) ggX3_foresee_X3_isIn
set_option maxRecDepth 20000 in
theorem ggX3_foresee_X3_no : GoodIn wsX3_foresee wsX3_no := goodIn_r _ [11, 1, 80, 81, 82] (by decide +kernel) (by decide +kernel)
set_option maxRecDepth 20000 in
theorem gX3_foresee_X3_no : GoodIn wsX3_foresee (wsV RX3 34 RX3 yX3_no wsX3_no) := goodIn_app (goodIn_of _ (by decide +kernel)) ggX3_foresee_X3_no
set_option maxRecDepth 20000 in
theorem ggX3_foresee_X2_become : GoodIn wsX3_foresee wsX2_become := goodIn_r _ [16, 17, 18, 19, 20, 21, 22, 23, 24, 83, 84, 85, 86] (by decide +kernel) (by decide +kernel)
set_option maxRecDepth 20000 in
theorem gX3_foresee_X2_become : GoodIn wsX3_foresee (wsV RX3 100 RX2 yX2_become wsX2_become) := goodIn_app (goodIn_of _ (by decide +kernel)) ggX3_foresee_X2_become
set_option maxRecDepth 20000 in
theorem ggX3_foresee_X2_pass : GoodIn wsX3_foresee wsX2_pass := goodIn_r _ [28, 18, 24, 17, 29, 30, 31, 15, 32, 33, 34, 35, 36, 37, 38, 39, 40, 19, 41, 42, 43, 44, 45, 46, 47, 48, 49, 50, 51, 52, 53, 54, 55, 56, 57, 58, 59, 60, 61, 62, 63, 64, 65, 66, 67, 68, 69, 70, 71, 83, 84, 85, 86] (by decide +kernel) (by decide +kernel)
set_option maxRecDepth 20000 in
theorem gX3_foresee_X2_pass : GoodIn wsX3_foresee (wsV RX3 97 RX2 yX2_pass wsX2_pass) := goodIn_app (goodIn_of _ (by decide +kernel)) ggX3_foresee_X2_pass
set_option maxRecDepth 20000 in
theorem ggX3_foresee_X2_are : GoodIn wsX3_foresee wsX2_are := goodIn_r _ [75, 18, 24, 83, 84, 85, 86] (by decide +kernel) (by decide +kernel)
set_option maxRecDepth 20000 in
theorem gX3_foresee_X2_are : GoodIn wsX3_foresee (wsV RX3 71 RX2 yX2_are wsX2_are) := goodIn_app (goodIn_of _ (by decide +kernel)) ggX3_foresee_X2_are
set_option maxRecDepth 20000 in
theorem ggX3_foresee_X2_hungers : GoodIn wsX3_foresee wsX2_hungers := goodIn_r _ [79, 18, 24, 41, 42, 43, 15, 44, 83, 84, 85, 86] (by decide +kernel) (by decide +kernel)
set_option maxRecDepth 20000 in
theorem gX3_foresee_X2_hungers : GoodIn wsX3_foresee (wsV RX3 104 RX2 yX2_hungers wsX2_hungers) := goodIn_app (goodIn_of _ (by decide +kernel)) ggX3_foresee_X2_hungers
theorem dX3_foresee_0 : decode cX3_foresee 0 = .ok (.aload_n 0, 1) := by decide +kernel
theorem dX3_foresee_1 : decode cX3_foresee 1 = .ok (.iconst 0, 1) := by decide +kernel
theorem dX3_foresee_2 : decode cX3_foresee 2 = .ok (.putfield 19, 3) := by decide +kernel
theorem dX3_foresee_5 : decode cX3_foresee 5 = .ok (.iload_n 1, 1) := by decide +kernel
theorem dX3_foresee_6 : decode cX3_foresee 6 = .ok (.iconst 1, 1) := by decide +kernel
theorem dX3_foresee_7 : decode cX3_foresee 7 = .ok (.bipush 50, 2) := by decide +kernel
theorem dX3_foresee_9 : decode cX3_foresee 9 = .ok (.invokestatic 23, 3) := by decide +kernel
theorem dX3_foresee_12 : decode cX3_foresee 12 = .ok (.ifCond .ne 9, 3) := by decide +kernel
theorem dX3_foresee_15 : decode cX3_foresee 15 = .ok (.aload_n 0, 1) := by decide +kernel
theorem dX3_foresee_16 : decode cX3_foresee 16 = .ok (.iconst 1, 1) := by decide +kernel
theorem dX3_foresee_17 : decode cX3_foresee 17 = .ok (.invokevirtual 34, 3) := by decide +kernel
theorem dX3_foresee_20 : decode cX3_foresee 20 = .ok (.ireturn, 1) := by decide +kernel
theorem dX3_foresee_21 : decode cX3_foresee 21 = .ok (.iload_n 2, 1) := by decide +kernel
theorem dX3_foresee_22 : decode cX3_foresee 22 = .ok (.iconst 0, 1) := by decide +kernel
theorem dX3_foresee_23 : decode cX3_foresee 23 = .ok (.iconst 3, 1) := by decide +kernel
theorem dX3_foresee_24 : decode cX3_foresee 24 = .ok (.invokestatic 23, 3) := by decide +kernel
theorem dX3_foresee_27 : decode cX3_foresee 27 = .ok (.ifCond .ne 9, 3) := by decide +kernel
theorem dX3_foresee_30 : decode cX3_foresee 30 = .ok (.aload_n 0, 1) := by decide +kernel
theorem dX3_foresee_31 : decode cX3_foresee 31 = .ok (.iconst 2, 1) := by decide +kernel
theorem dX3_foresee_32 : decode cX3_foresee 32 = .ok (.invokevirtual 34, 3) := by decide +kernel
theorem dX3_foresee_35 : decode cX3_foresee 35 = .ok (.ireturn, 1) := by decide +kernel
theorem dX3_foresee_36 : decode cX3_foresee 36 = .ok (.aload_n 0, 1) := by decide +kernel
theorem dX3_foresee_37 : decode cX3_foresee 37 = .ok (.getfield 16, 3) := by decide +kernel
theorem dX3_foresee_40 : decode cX3_foresee 40 = .ok (.aload_n 0, 1) := by decide +kernel
theorem dX3_foresee_41 : decode cX3_foresee 41 = .ok (.getfield 10, 3) := by decide +kernel
theorem dX3_foresee_44 : decode cX3_foresee 44 = .ok (.invokevirtual 100, 3) := by decide +kernel
theorem dX3_foresee_47 : decode cX3_foresee 47 = .ok (.iconst 0, 1) := by decide +kernel
theorem dX3_foresee_48 : decode cX3_foresee 48 = .ok (.istore_n 3, 1) := by decide +kernel
theorem dX3_foresee_49 : decode cX3_foresee 49 = .ok (.iload_n 3, 1) := by decide +kernel
theorem dX3_foresee_50 : decode cX3_foresee 50 = .ok (.iload_n 1, 1) := by decide +kernel
theorem dX3_foresee_51 : decode cX3_foresee 51 = .ok (.if_icmp .ge 16, 3) := by decide +kernel
theorem dX3_foresee_54 : decode cX3_foresee 54 = .ok (.aload_n 0, 1) := by decide +kernel
theorem dX3_foresee_55 : decode cX3_foresee 55 = .ok (.getfield 16, 3) := by decide +kernel
theorem dX3_foresee_58 : decode cX3_foresee 58 = .ok (.invokevirtual 97, 3) := by decide +kernel
theorem dX3_foresee_61 : decode cX3_foresee 61 = .ok (.iinc 3 1, 3) := by decide +kernel
theorem dX3_foresee_64 : decode cX3_foresee 64 = .ok (.goto (-15), 3) := by decide +kernel
theorem dX3_foresee_67 : decode cX3_foresee 67 = .ok (.iload_n 2, 1) := by decide +kernel
theorem dX3_foresee_68 : decode cX3_foresee 68 = .ok (.ifCond .ne 14, 3) := by decide +kernel
theorem dX3_foresee_71 : decode cX3_foresee 71 = .ok (.aload_n 0, 1) := by decide +kernel
theorem dX3_foresee_72 : decode cX3_foresee 72 = .ok (.getfield 16, 3) := by decide +kernel
theorem dX3_foresee_75 : decode cX3_foresee 75 = .ok (.iconst 0, 1) := by decide +kernel
theorem dX3_foresee_76 : decode cX3_foresee 76 = .ok (.invokevirtual 71, 3) := by decide +kernel
theorem dX3_foresee_79 : decode cX3_foresee 79 = .ok (.goto 41, 3) := by decide +kernel
theorem dX3_foresee_82 : decode cX3_foresee 82 = .ok (.iload_n 2, 1) := by decide +kernel
theorem dX3_foresee_83 : decode cX3_foresee 83 = .ok (.iconst 1, 1) := by decide +kernel
theorem dX3_foresee_84 : decode cX3_foresee 84 = .ok (.if_icmp .ne 14, 3) := by decide +kernel
theorem dX3_foresee_87 : decode cX3_foresee 87 = .ok (.aload_n 0, 1) := by decide +kernel
theorem dX3_foresee_88 : decode cX3_foresee 88 = .ok (.getfield 16, 3) := by decide +kernel
theorem dX3_foresee_91 : decode cX3_foresee 91 = .ok (.iconst 1, 1) := by decide +kernel
theorem dX3_foresee_92 : decode cX3_foresee 92 = .ok (.invokevirtual 71, 3) := by decide +kernel
theorem dX3_foresee_95 : decode cX3_foresee 95 = .ok (.goto 25, 3) := by decide +kernel
theorem dX3_foresee_98 : decode cX3_foresee 98 = .ok (.iload_n 2, 1) := by decide +kernel
theorem dX3_foresee_99 : decode cX3_foresee 99 = .ok (.iconst 2, 1) := by decide +kernel
theorem dX3_foresee_100 : decode cX3_foresee 100 = .ok (.if_icmp .ne 13, 3) := by decide +kernel
theorem dX3_foresee_103 : decode cX3_foresee 103 = .ok (.aload_n 0, 1) := by decide +kernel
theorem dX3_foresee_104 : decode cX3_foresee 104 = .ok (.getfield 16, 3) := by decide +kernel
theorem dX3_foresee_107 : decode cX3_foresee 107 = .ok (.getfield 27, 3) := by decide +kernel
theorem dX3_foresee_110 : decode cX3_foresee 110 = .ok (.goto 10, 3) := by decide +kernel
theorem dX3_foresee_113 : decode cX3_foresee 113 = .ok (.aload_n 0, 1) := by decide +kernel
theorem dX3_foresee_114 : decode cX3_foresee 114 = .ok (.getfield 16, 3) := by decide +kernel
theorem dX3_foresee_117 : decode cX3_foresee 117 = .ok (.invokevirtual 104, 3) := by decide +kernel
theorem dX3_foresee_120 : decode cX3_foresee 120 = .ok (.ireturn, 1) := by decide +kernel
set_option maxRecDepth 20000 in
theorem ggX3_lives_X3_isRule : GoodIn wsX3_lives wsX3_isRule := goodIn_r _ [8, 3, 9, 10, 7, 11, 80, 81, 82, 83, 84, 85, 86] (by decide +kernel) (by decide +kernel)
set_option maxRecDepth 20000 in
theorem gX3_lives_X3_isRule : GoodIn wsX3_lives (wsV RX3 46 RX3 yX3_isRule wsX3_isRule) := goodIn_app (goodIn_of _ (by decide +kernel)) ggX3_lives_X3_isRule
set_option maxRecDepth 20000 in
theorem ggX3_lives_X3_no : GoodIn wsX3_lives wsX3_no := goodIn_r _ [15, 1, 80, 81, 82] (by decide +kernel) (by decide +kernel)
set_option maxRecDepth 20000 in
theorem gX3_lives_X3_no : GoodIn wsX3_lives (wsV RX3 34 RX3 yX3_no wsX3_no) := goodIn_app (goodIn_of _ (by decide +kernel)) ggX3_lives_X3_no
set_option maxRecDepth 20000 in
theorem ggX3_lives_X2_become : GoodIn wsX3_lives wsX2_become := goodIn_r _ [20, 21, 22, 23, 24, 25, 26, 27, 28, 83, 84, 85, 86] (by decide +kernel) (by decide +kernel)
set_option maxRecDepth 20000 in
theorem gX3_lives_X2_become : GoodIn wsX3_lives (wsV RX3 100 RX2 yX2_become wsX2_become) := goodIn_app (goodIn_of _ (by decide +kernel)) ggX3_lives_X2_become
set_option maxRecDepth 20000 in
theorem ggX3_lives_X2_lives : GoodIn wsX3_lives wsX2_lives := goodIn_r _ [32, 33, 34, 35, 19, 36, 28, 37, 38, 39, 40, 22, 21, 41, 42, 43, 44, 45, 46, 47, 48, 49, 50, 51, 52, 23, 53, 54, 55, 56, 57, 58, 59, 60, 61, 62, 63, 64, 65, 66, 67, 68, 69, 70, 71, 72, 73, 74, 75, 76, 77, 78, 79, 83, 84, 85, 86] (by decide +kernel) (by decide +kernel)
set_option maxRecDepth 20000 in
theorem gX3_lives_X2_lives : GoodIn wsX3_lives (wsV RX3 108 RX2 yX2_lives wsX2_lives) := goodIn_app (goodIn_of _ (by decide +kernel)) ggX3_lives_X2_lives
theorem dX3_lives_0 : decode cX3_lives 0 = .ok (.aload_n 0, 1) := by decide +kernel
theorem dX3_lives_1 : decode cX3_lives 1 = .ok (.iconst 0, 1) := by decide +kernel
theorem dX3_lives_2 : decode cX3_lives 2 = .ok (.putfield 19, 3) := by decide +kernel
theorem dX3_lives_5 : decode cX3_lives 5 = .ok (.aload_n 0, 1) := by decide +kernel
theorem dX3_lives_6 : decode cX3_lives 6 = .ok (.iload_n 1, 1) := by decide +kernel
theorem dX3_lives_7 : decode cX3_lives 7 = .ok (.invokevirtual 46, 3) := by decide +kernel
theorem dX3_lives_10 : decode cX3_lives 10 = .ok (.ifCond .ne 9, 3) := by decide +kernel
theorem dX3_lives_13 : decode cX3_lives 13 = .ok (.aload_n 0, 1) := by decide +kernel
theorem dX3_lives_14 : decode cX3_lives 14 = .ok (.iconst 1, 1) := by decide +kernel
theorem dX3_lives_15 : decode cX3_lives 15 = .ok (.invokevirtual 34, 3) := by decide +kernel
theorem dX3_lives_18 : decode cX3_lives 18 = .ok (.ireturn, 1) := by decide +kernel
theorem dX3_lives_19 : decode cX3_lives 19 = .ok (.aload_n 0, 1) := by decide +kernel
theorem dX3_lives_20 : decode cX3_lives 20 = .ok (.getfield 16, 3) := by decide +kernel
theorem dX3_lives_23 : decode cX3_lives 23 = .ok (.aload_n 0, 1) := by decide +kernel
theorem dX3_lives_24 : decode cX3_lives 24 = .ok (.getfield 10, 3) := by decide +kernel
theorem dX3_lives_27 : decode cX3_lives 27 = .ok (.invokevirtual 100, 3) := by decide +kernel
theorem dX3_lives_30 : decode cX3_lives 30 = .ok (.aload_n 0, 1) := by decide +kernel
theorem dX3_lives_31 : decode cX3_lives 31 = .ok (.getfield 16, 3) := by decide +kernel
theorem dX3_lives_34 : decode cX3_lives 34 = .ok (.iload_n 1, 1) := by decide +kernel
theorem dX3_lives_35 : decode cX3_lives 35 = .ok (.bipush 100, 2) := by decide +kernel
theorem dX3_lives_37 : decode cX3_lives 37 = .ok (.invokevirtual 108, 3) := by decide +kernel
theorem dX3_lives_40 : decode cX3_lives 40 = .ok (.istore_n 2, 1) := by decide +kernel
theorem dX3_lives_41 : decode cX3_lives 41 = .ok (.iload_n 2, 1) := by decide +kernel
theorem dX3_lives_42 : decode cX3_lives 42 = .ok (.bipush 100, 2) := by decide +kernel
theorem dX3_lives_44 : decode cX3_lives 44 = .ok (.if_icmp .le 7, 3) := by decide +kernel
theorem dX3_lives_47 : decode cX3_lives 47 = .ok (.iconst (-1), 1) := by decide +kernel
theorem dX3_lives_48 : decode cX3_lives 48 = .ok (.goto 4, 3) := by decide +kernel
theorem dX3_lives_51 : decode cX3_lives 51 = .ok (.iload_n 2, 1) := by decide +kernel
theorem dX3_lives_52 : decode cX3_lives 52 = .ok (.ireturn, 1) := by decide +kernel
set_option maxRecDepth 20000 in
theorem ggX3_toEnd_X2_become : GoodIn wsX3_toEnd wsX2_become := goodIn_r _ [7, 8, 9, 10, 11, 12, 13, 14, 15, 70, 71, 72, 73] (by decide +kernel) (by decide +kernel)
set_option maxRecDepth 20000 in
theorem gX3_toEnd_X2_become : GoodIn wsX3_toEnd (wsV RX3 100 RX2 yX2_become wsX2_become) := goodIn_app (goodIn_of _ (by decide +kernel)) ggX3_toEnd_X2_become
set_option maxRecDepth 20000 in
theorem ggX3_toEnd_X2_are : GoodIn wsX3_toEnd wsX2_are := goodIn_r _ [19, 9, 15, 70, 71, 72, 73] (by decide +kernel) (by decide +kernel)
set_option maxRecDepth 20000 in
theorem gX3_toEnd_X2_are : GoodIn wsX3_toEnd (wsV RX3 71 RX2 yX2_are wsX2_are) := goodIn_app (goodIn_of _ (by decide +kernel)) ggX3_toEnd_X2_are
set_option maxRecDepth 20000 in
theorem ggX3_toEnd_X2_pass : GoodIn wsX3_toEnd wsX2_pass := goodIn_r _ [23, 9, 15, 8, 24, 25, 26, 6, 27, 28, 29, 30, 31, 32, 33, 34, 35, 10, 36, 37, 38, 39, 40, 41, 42, 43, 44, 45, 46, 47, 48, 49, 50, 51, 52, 53, 54, 55, 56, 57, 58, 59, 60, 61, 62, 63, 64, 65, 66, 70, 71, 72, 73] (by decide +kernel) (by decide +kernel)
set_option maxRecDepth 20000 in
theorem gX3_toEnd_X2_pass : GoodIn wsX3_toEnd (wsV RX3 97 RX2 yX2_pass wsX2_pass) := goodIn_app (goodIn_of _ (by decide +kernel)) ggX3_toEnd_X2_pass
theorem dX3_toEnd_0 : decode cX3_toEnd 0 = .ok (.aload_n 0, 1) := by decide +kernel
theorem dX3_toEnd_1 : decode cX3_toEnd 1 = .ok (.getfield 16, 3) := by decide +kernel
theorem dX3_toEnd_4 : decode cX3_toEnd 4 = .ok (.aload_n 0, 1) := by decide +kernel
theorem dX3_toEnd_5 : decode cX3_toEnd 5 = .ok (.getfield 10, 3) := by decide +kernel
theorem dX3_toEnd_8 : decode cX3_toEnd 8 = .ok (.invokevirtual 100, 3) := by decide +kernel
theorem dX3_toEnd_11 : decode cX3_toEnd 11 = .ok (.iconst 0, 1) := by decide +kernel
theorem dX3_toEnd_12 : decode cX3_toEnd 12 = .ok (.istore_n 1, 1) := by decide +kernel
theorem dX3_toEnd_13 : decode cX3_toEnd 13 = .ok (.iload_n 1, 1) := by decide +kernel
theorem dX3_toEnd_14 : decode cX3_toEnd 14 = .ok (.bipush 100, 2) := by decide +kernel
theorem dX3_toEnd_16 : decode cX3_toEnd 16 = .ok (.if_icmp .gt 28, 3) := by decide +kernel
theorem dX3_toEnd_19 : decode cX3_toEnd 19 = .ok (.aload_n 0, 1) := by decide +kernel
theorem dX3_toEnd_20 : decode cX3_toEnd 20 = .ok (.getfield 16, 3) := by decide +kernel
theorem dX3_toEnd_23 : decode cX3_toEnd 23 = .ok (.iconst 0, 1) := by decide +kernel
theorem dX3_toEnd_24 : decode cX3_toEnd 24 = .ok (.invokevirtual 71, 3) := by decide +kernel
theorem dX3_toEnd_27 : decode cX3_toEnd 27 = .ok (.iconst 1, 1) := by decide +kernel
theorem dX3_toEnd_28 : decode cX3_toEnd 28 = .ok (.if_icmp .le 16, 3) := by decide +kernel
theorem dX3_toEnd_31 : decode cX3_toEnd 31 = .ok (.aload_n 0, 1) := by decide +kernel
theorem dX3_toEnd_32 : decode cX3_toEnd 32 = .ok (.getfield 16, 3) := by decide +kernel
theorem dX3_toEnd_35 : decode cX3_toEnd 35 = .ok (.invokevirtual 97, 3) := by decide +kernel
theorem dX3_toEnd_38 : decode cX3_toEnd 38 = .ok (.iinc 1 1, 3) := by decide +kernel
theorem dX3_toEnd_41 : decode cX3_toEnd 41 = .ok (.goto (-28), 3) := by decide +kernel
theorem dX3_toEnd_44 : decode cX3_toEnd 44 = .ok (.iload_n 1, 1) := by decide +kernel
theorem dX3_toEnd_45 : decode cX3_toEnd 45 = .ok (.bipush 100, 2) := by decide +kernel
theorem dX3_toEnd_47 : decode cX3_toEnd 47 = .ok (.if_icmp .le 7, 3) := by decide +kernel
theorem dX3_toEnd_50 : decode cX3_toEnd 50 = .ok (.iconst (-1), 1) := by decide +kernel
theorem dX3_toEnd_51 : decode cX3_toEnd 51 = .ok (.goto 4, 3) := by decide +kernel
theorem dX3_toEnd_54 : decode cX3_toEnd 54 = .ok (.iload_n 1, 1) := by decide +kernel
theorem dX3_toEnd_55 : decode cX3_toEnd 55 = .ok (.ireturn, 1) := by decide +kernel
set_option maxRecDepth 20000 in
theorem ggX3_ends_X3_toEnd : GoodIn wsX3_ends wsX3_toEnd := goodIn_r _ [6, 7, 8, 9, 10, 11, 12, 13, 14, 15, 16, 17, 18, 19, 20, 21, 22, 23, 24, 25, 26, 27, 28, 29, 30, 31, 32, 33, 34, 35, 36, 37, 38, 39, 40, 41, 42, 43, 44, 45, 46, 47, 48, 49, 50, 51, 52, 53, 54, 55, 56, 57, 58, 59, 60, 61, 62, 63, 64, 65, 66, 67, 68, 69, 70, 71, 72, 73, 74, 75, 76, 77, 78, 79] (by decide +kernel) (by decide +kernel)
set_option maxRecDepth 20000 in
theorem gX3_ends_X3_toEnd : GoodIn wsX3_ends (wsV RX3 111 RX3 yX3_toEnd wsX3_toEnd) := goodIn_app (goodIn_of _ (by decide +kernel)) ggX3_ends_X3_toEnd
theorem dX3_ends_0 : decode cX3_ends 0 = .ok (.aload_n 0, 1) := by decide +kernel
theorem dX3_ends_1 : decode cX3_ends 1 = .ok (.iconst 0, 1) := by decide +kernel
theorem dX3_ends_2 : decode cX3_ends 2 = .ok (.putfield 19, 3) := by decide +kernel
theorem dX3_ends_5 : decode cX3_ends 5 = .ok (.aload_n 0, 1) := by decide +kernel
theorem dX3_ends_6 : decode cX3_ends 6 = .ok (.invokevirtual 111, 3) := by decide +kernel
theorem dX3_ends_9 : decode cX3_ends 9 = .ok (.ireturn, 1) := by decide +kernel
set_option maxRecDepth 20000 in
theorem ggX3_last_X3_toEnd : GoodIn wsX3_last wsX3_toEnd := goodIn_r _ [7, 2, 8, 9, 10, 11, 12, 13, 14, 15, 16, 17, 18, 19, 20, 21, 22, 23, 24, 25, 26, 27, 28, 29, 30, 31, 32, 33, 34, 35, 36, 37, 38, 39, 40, 41, 42, 43, 44, 45, 46, 47, 48, 49, 50, 51, 52, 53, 54, 55, 56, 57, 58, 59, 60, 61, 62, 63, 64, 65, 66, 67, 68, 69, 70, 71, 72, 74, 75, 76, 77, 78, 79, 80] (by decide +kernel) (by decide +kernel)
set_option maxRecDepth 20000 in
theorem gX3_last_X3_toEnd : GoodIn wsX3_last (wsV RX3 111 RX3 yX3_toEnd wsX3_toEnd) := goodIn_app (goodIn_of _ (by decide +kernel)) ggX3_last_X3_toEnd
set_option maxRecDepth 20000 in
theorem ggX3_last_X2_isThere : GoodIn wsX3_last wsX2_isThere := goodIn_r _ [45, 21, 77, 78, 79, 80] (by decide +kernel) (by decide +kernel)
set_option maxRecDepth 20000 in
theorem gX3_last_X2_isThere : GoodIn wsX3_last (wsV RX3 49 RX2 yX2_isThere wsX2_isThere) := goodIn_app (goodIn_of _ (by decide +kernel)) ggX3_last_X2_isThere
theorem dX3_last_0 : decode cX3_last 0 = .ok (.aload_n 0, 1) := by decide +kernel
theorem dX3_last_1 : decode cX3_last 1 = .ok (.iconst 0, 1) := by decide +kernel
theorem dX3_last_2 : decode cX3_last 2 = .ok (.putfield 19, 3) := by decide +kernel
theorem dX3_last_5 : decode cX3_last 5 = .ok (.aload_n 0, 1) := by decide +kernel
theorem dX3_last_6 : decode cX3_last 6 = .ok (.invokevirtual 111, 3) := by decide +kernel
theorem dX3_last_9 : decode cX3_last 9 = .ok (.iconst (-1), 1) := by decide +kernel
theorem dX3_last_10 : decode cX3_last 10 = .ok (.if_icmp .ne 5, 3) := by decide +kernel
theorem dX3_last_13 : decode cX3_last 13 = .ok (.iconst (-1), 1) := by decide +kernel
theorem dX3_last_14 : decode cX3_last 14 = .ok (.ireturn, 1) := by decide +kernel
theorem dX3_last_15 : decode cX3_last 15 = .ok (.iconst 0, 1) := by decide +kernel
theorem dX3_last_16 : decode cX3_last 16 = .ok (.istore_n 1, 1) := by decide +kernel
theorem dX3_last_17 : decode cX3_last 17 = .ok (.iload_n 1, 1) := by decide +kernel
theorem dX3_last_18 : decode cX3_last 18 = .ok (.aload_n 0, 1) := by decide +kernel
theorem dX3_last_19 : decode cX3_last 19 = .ok (.getfield 16, 3) := by decide +kernel
theorem dX3_last_22 : decode cX3_last 22 = .ok (.getfield 27, 3) := by decide +kernel
theorem dX3_last_25 : decode cX3_last 25 = .ok (.if_icmp .ge 22, 3) := by decide +kernel
theorem dX3_last_28 : decode cX3_last 28 = .ok (.aload_n 0, 1) := by decide +kernel
theorem dX3_last_29 : decode cX3_last 29 = .ok (.getfield 16, 3) := by decide +kernel
theorem dX3_last_32 : decode cX3_last 32 = .ok (.iload_n 1, 1) := by decide +kernel
theorem dX3_last_33 : decode cX3_last 33 = .ok (.invokevirtual 49, 3) := by decide +kernel
theorem dX3_last_36 : decode cX3_last 36 = .ok (.ifCond .eq 5, 3) := by decide +kernel
theorem dX3_last_39 : decode cX3_last 39 = .ok (.iload_n 1, 1) := by decide +kernel
theorem dX3_last_40 : decode cX3_last 40 = .ok (.ireturn, 1) := by decide +kernel
theorem dX3_last_41 : decode cX3_last 41 = .ok (.iinc 1 1, 3) := by decide +kernel
theorem dX3_last_44 : decode cX3_last 44 = .ok (.goto (-27), 3) := by decide +kernel
theorem dX3_last_47 : decode cX3_last 47 = .ok (.iconst (-1), 1) := by decide +kernel
theorem dX3_last_48 : decode cX3_last 48 = .ok (.ireturn, 1) := by decide +kernel
set_option maxRecDepth 20000 in
theorem ggX3_advise_X3_isRule : GoodIn wsX3_advise wsX3_isRule := goodIn_r _ [12, 2, 13, 14, 11, 15, 87, 88, 89, 90, 91, 92, 93] (by decide +kernel) (by decide +kernel)
set_option maxRecDepth 20000 in
theorem gX3_advise_X3_isRule : GoodIn wsX3_advise (wsV RX3 46 RX3 yX3_isRule wsX3_isRule) := goodIn_app (goodIn_of _ (by decide +kernel)) ggX3_advise_X3_isRule
set_option maxRecDepth 20000 in
theorem ggX3_advise_X3_no : GoodIn wsX3_advise wsX3_no := goodIn_r _ [19, 1, 87, 88, 89] (by decide +kernel) (by decide +kernel)
set_option maxRecDepth 20000 in
theorem gX3_advise_X3_no : GoodIn wsX3_advise (wsV RX3 34 RX3 yX3_no wsX3_no) := goodIn_app (goodIn_of _ (by decide +kernel)) ggX3_advise_X3_no
set_option maxRecDepth 20000 in
theorem ggX3_advise_X2_isThere : GoodIn wsX3_advise wsX2_isThere := goodIn_r _ [24, 25, 90, 91, 92, 93] (by decide +kernel) (by decide +kernel)
set_option maxRecDepth 20000 in
theorem gX3_advise_X2_isThere : GoodIn wsX3_advise (wsV RX3 49 RX2 yX2_isThere wsX2_isThere) := goodIn_app (goodIn_of _ (by decide +kernel)) ggX3_advise_X2_isThere
set_option maxRecDepth 20000 in
theorem ggX3_advise_X2_become : GoodIn wsX3_advise wsX2_become := goodIn_r _ [29, 30, 31, 32, 33, 34, 35, 36, 25, 90, 91, 92, 93] (by decide +kernel) (by decide +kernel)
set_option maxRecDepth 20000 in
theorem gX3_advise_X2_become : GoodIn wsX3_advise (wsV RX3 100 RX2 yX2_become wsX2_become) := goodIn_app (goodIn_of _ (by decide +kernel)) ggX3_advise_X2_become
set_option maxRecDepth 20000 in
theorem ggX3_advise_X2_lives : GoodIn wsX3_advise wsX2_lives := goodIn_r _ [40, 41, 21, 22, 23, 24, 25, 42, 43, 44, 45, 31, 30, 46, 47, 48, 49, 50, 51, 6, 52, 53, 54, 55, 56, 32, 57, 58, 59, 60, 61, 62, 63, 64, 65, 66, 67, 68, 69, 70, 71, 72, 73, 74, 75, 76, 77, 78, 79, 80, 81, 82, 83, 90, 91, 92, 93] (by decide +kernel) (by decide +kernel)
set_option maxRecDepth 20000 in
theorem gX3_advise_X2_lives : GoodIn wsX3_advise (wsV RX3 108 RX2 yX2_lives wsX2_lives) := goodIn_app (goodIn_of _ (by decide +kernel)) ggX3_advise_X2_lives
set_option maxRecDepth 20000 in
theorem ggX3_advise_X3_moved : GoodIn wsX3_advise wsX3_moved := goodIn_r _ [86, 90, 91, 92, 93] (by decide +kernel) (by decide +kernel)
set_option maxRecDepth 20000 in
theorem gX3_advise_X3_moved : GoodIn wsX3_advise (va_wsS RX3 52 yX3_moved wsX3_moved) := goodIn_app (goodIn_of _ (by decide +kernel)) ggX3_advise_X3_moved
theorem dX3_advise_0 : decode cX3_advise 0 = .ok (.aload_n 0, 1) := by decide +kernel
theorem dX3_advise_1 : decode cX3_advise 1 = .ok (.iconst 0, 1) := by decide +kernel
theorem dX3_advise_2 : decode cX3_advise 2 = .ok (.putfield 19, 3) := by decide +kernel
theorem dX3_advise_5 : decode cX3_advise 5 = .ok (.aload_n 0, 1) := by decide +kernel
theorem dX3_advise_6 : decode cX3_advise 6 = .ok (.iload_n 1, 1) := by decide +kernel
theorem dX3_advise_7 : decode cX3_advise 7 = .ok (.invokevirtual 46, 3) := by decide +kernel
theorem dX3_advise_10 : decode cX3_advise 10 = .ok (.ifCond .ne 9, 3) := by decide +kernel
theorem dX3_advise_13 : decode cX3_advise 13 = .ok (.aload_n 0, 1) := by decide +kernel
theorem dX3_advise_14 : decode cX3_advise 14 = .ok (.iconst 1, 1) := by decide +kernel
theorem dX3_advise_15 : decode cX3_advise 15 = .ok (.invokevirtual 34, 3) := by decide +kernel
theorem dX3_advise_18 : decode cX3_advise 18 = .ok (.ireturn, 1) := by decide +kernel
theorem dX3_advise_19 : decode cX3_advise 19 = .ok (.aload_n 0, 1) := by decide +kernel
theorem dX3_advise_20 : decode cX3_advise 20 = .ok (.getfield 10, 3) := by decide +kernel
theorem dX3_advise_23 : decode cX3_advise 23 = .ok (.iload_n 1, 1) := by decide +kernel
theorem dX3_advise_24 : decode cX3_advise 24 = .ok (.invokevirtual 49, 3) := by decide +kernel
theorem dX3_advise_27 : decode cX3_advise 27 = .ok (.ifCond .ne 5, 3) := by decide +kernel
theorem dX3_advise_30 : decode cX3_advise 30 = .ok (.iconst (-1), 1) := by decide +kernel
theorem dX3_advise_31 : decode cX3_advise 31 = .ok (.ireturn, 1) := by decide +kernel
theorem dX3_advise_32 : decode cX3_advise 32 = .ok (.aload_n 0, 1) := by decide +kernel
theorem dX3_advise_33 : decode cX3_advise 33 = .ok (.getfield 10, 3) := by decide +kernel
theorem dX3_advise_36 : decode cX3_advise 36 = .ok (.getfield 56, 3) := by decide +kernel
theorem dX3_advise_39 : decode cX3_advise 39 = .ok (.bipush 8, 2) := by decide +kernel
theorem dX3_advise_41 : decode cX3_advise 41 = .ok (.aaload, 1) := by decide +kernel
theorem dX3_advise_42 : decode cX3_advise 42 = .ok (.iload_n 1, 1) := by decide +kernel
theorem dX3_advise_43 : decode cX3_advise 43 = .ok (.iaload, 1) := by decide +kernel
theorem dX3_advise_44 : decode cX3_advise 44 = .ok (.istore_n 2, 1) := by decide +kernel
theorem dX3_advise_45 : decode cX3_advise 45 = .ok (.aload_n 0, 1) := by decide +kernel
theorem dX3_advise_46 : decode cX3_advise 46 = .ok (.getfield 16, 3) := by decide +kernel
theorem dX3_advise_49 : decode cX3_advise 49 = .ok (.aload_n 0, 1) := by decide +kernel
theorem dX3_advise_50 : decode cX3_advise 50 = .ok (.getfield 10, 3) := by decide +kernel
theorem dX3_advise_53 : decode cX3_advise 53 = .ok (.invokevirtual 100, 3) := by decide +kernel
theorem dX3_advise_56 : decode cX3_advise 56 = .ok (.bipush 40, 2) := by decide +kernel
theorem dX3_advise_58 : decode cX3_advise 58 = .ok (.aload_n 0, 1) := by decide +kernel
theorem dX3_advise_59 : decode cX3_advise 59 = .ok (.getfield 16, 3) := by decide +kernel
theorem dX3_advise_62 : decode cX3_advise 62 = .ok (.iload_n 1, 1) := by decide +kernel
theorem dX3_advise_63 : decode cX3_advise 63 = .ok (.bipush 40, 2) := by decide +kernel
theorem dX3_advise_65 : decode cX3_advise 65 = .ok (.invokevirtual 108, 3) := by decide +kernel
theorem dX3_advise_68 : decode cX3_advise 68 = .ok (.invokestatic 114, 3) := by decide +kernel
theorem dX3_advise_71 : decode cX3_advise 71 = .ok (.istore_n 3, 1) := by decide +kernel
theorem dX3_advise_72 : decode cX3_advise 72 = .ok (.iconst 0, 1) := by decide +kernel
theorem dX3_advise_73 : decode cX3_advise 73 = .ok (.istore 4, 2) := by decide +kernel
theorem dX3_advise_75 : decode cX3_advise 75 = .ok (.iload 4, 2) := by decide +kernel
theorem dX3_advise_77 : decode cX3_advise 77 = .ok (.bipush 20, 2) := by decide +kernel
theorem dX3_advise_79 : decode cX3_advise 79 = .ok (.if_icmp .ge 80, 3) := by decide +kernel
theorem dX3_advise_82 : decode cX3_advise 82 = .ok (.aload_n 0, 1) := by decide +kernel
theorem dX3_advise_83 : decode cX3_advise 83 = .ok (.getfield 10, 3) := by decide +kernel
theorem dX3_advise_86 : decode cX3_advise 86 = .ok (.getfield 38, 3) := by decide +kernel
theorem dX3_advise_89 : decode cX3_advise 89 = .ok (.iload 4, 2) := by decide +kernel
theorem dX3_advise_91 : decode cX3_advise 91 = .ok (.iaload, 1) := by decide +kernel
theorem dX3_advise_92 : decode cX3_advise 92 = .ok (.iconst (-1), 1) := by decide +kernel
theorem dX3_advise_93 : decode cX3_advise 93 = .ok (.if_icmp .eq 6, 3) := by decide +kernel
theorem dX3_advise_96 : decode cX3_advise 96 = .ok (.goto 57, 3) := by decide +kernel
theorem dX3_advise_99 : decode cX3_advise 99 = .ok (.aload_n 0, 1) := by decide +kernel
theorem dX3_advise_100 : decode cX3_advise 100 = .ok (.getfield 16, 3) := by decide +kernel
theorem dX3_advise_103 : decode cX3_advise 103 = .ok (.aload_n 0, 1) := by decide +kernel
theorem dX3_advise_104 : decode cX3_advise 104 = .ok (.getfield 10, 3) := by decide +kernel
theorem dX3_advise_107 : decode cX3_advise 107 = .ok (.invokevirtual 100, 3) := by decide +kernel
theorem dX3_advise_110 : decode cX3_advise 110 = .ok (.aload_n 0, 1) := by decide +kernel
theorem dX3_advise_111 : decode cX3_advise 111 = .ok (.getfield 16, 3) := by decide +kernel
theorem dX3_advise_114 : decode cX3_advise 114 = .ok (.iload_n 1, 1) := by decide +kernel
theorem dX3_advise_115 : decode cX3_advise 115 = .ok (.iload 4, 2) := by decide +kernel
theorem dX3_advise_117 : decode cX3_advise 117 = .ok (.invokestatic 52, 3) := by decide +kernel
theorem dX3_advise_120 : decode cX3_advise 120 = .ok (.pop, 1) := by decide +kernel
theorem dX3_advise_121 : decode cX3_advise 121 = .ok (.bipush 40, 2) := by decide +kernel
theorem dX3_advise_123 : decode cX3_advise 123 = .ok (.aload_n 0, 1) := by decide +kernel
theorem dX3_advise_124 : decode cX3_advise 124 = .ok (.getfield 16, 3) := by decide +kernel
theorem dX3_advise_127 : decode cX3_advise 127 = .ok (.iload_n 1, 1) := by decide +kernel
theorem dX3_advise_128 : decode cX3_advise 128 = .ok (.bipush 40, 2) := by decide +kernel
theorem dX3_advise_130 : decode cX3_advise 130 = .ok (.invokevirtual 108, 3) := by decide +kernel
theorem dX3_advise_133 : decode cX3_advise 133 = .ok (.invokestatic 114, 3) := by decide +kernel
theorem dX3_advise_136 : decode cX3_advise 136 = .ok (.istore 5, 2) := by decide +kernel
theorem dX3_advise_138 : decode cX3_advise 138 = .ok (.iload 5, 2) := by decide +kernel
theorem dX3_advise_140 : decode cX3_advise 140 = .ok (.iload_n 3, 1) := by decide +kernel
theorem dX3_advise_141 : decode cX3_advise 141 = .ok (.if_icmp .gt 6, 3) := by decide +kernel
theorem dX3_advise_144 : decode cX3_advise 144 = .ok (.goto 9, 3) := by decide +kernel
theorem dX3_advise_147 : decode cX3_advise 147 = .ok (.iload 5, 2) := by decide +kernel
theorem dX3_advise_149 : decode cX3_advise 149 = .ok (.istore_n 3, 1) := by decide +kernel
theorem dX3_advise_150 : decode cX3_advise 150 = .ok (.iload 4, 2) := by decide +kernel
theorem dX3_advise_152 : decode cX3_advise 152 = .ok (.istore_n 2, 1) := by decide +kernel
theorem dX3_advise_153 : decode cX3_advise 153 = .ok (.iinc 4 1, 3) := by decide +kernel
theorem dX3_advise_156 : decode cX3_advise 156 = .ok (.goto (-81), 3) := by decide +kernel
theorem dX3_advise_159 : decode cX3_advise 159 = .ok (.iload_n 2, 1) := by decide +kernel
theorem dX3_advise_160 : decode cX3_advise 160 = .ok (.ireturn, 1) := by decide +kernel
set_option maxRecDepth 20000 in
theorem ggX3_mean_X2_are : GoodIn wsX3_mean wsX2_are := goodIn_r _ [7, 8, 9, 21, 22, 23, 24] (by decide +kernel) (by decide +kernel)
set_option maxRecDepth 20000 in
theorem gX3_mean_X2_are : GoodIn wsX3_mean (wsV RX3 71 RX2 yX2_are wsX2_are) := goodIn_app (goodIn_of _ (by decide +kernel)) ggX3_mean_X2_are
set_option maxRecDepth 20000 in
theorem ggX3_mean_X2_hungers : GoodIn wsX3_mean wsX2_hungers := goodIn_r _ [13, 8, 9, 14, 15, 16, 6, 17, 21, 22, 23, 24] (by decide +kernel) (by decide +kernel)
set_option maxRecDepth 20000 in
theorem gX3_mean_X2_hungers : GoodIn wsX3_mean (wsV RX3 104 RX2 yX2_hungers wsX2_hungers) := goodIn_app (goodIn_of _ (by decide +kernel)) ggX3_mean_X2_hungers
theorem dX3_mean_0 : decode cX3_mean 0 = .ok (.aload_n 0, 1) := by decide +kernel
theorem dX3_mean_1 : decode cX3_mean 1 = .ok (.iconst 0, 1) := by decide +kernel
theorem dX3_mean_2 : decode cX3_mean 2 = .ok (.putfield 19, 3) := by decide +kernel
theorem dX3_mean_5 : decode cX3_mean 5 = .ok (.aload_n 0, 1) := by decide +kernel
theorem dX3_mean_6 : decode cX3_mean 6 = .ok (.getfield 10, 3) := by decide +kernel
theorem dX3_mean_9 : decode cX3_mean 9 = .ok (.iconst 0, 1) := by decide +kernel
theorem dX3_mean_10 : decode cX3_mean 10 = .ok (.invokevirtual 71, 3) := by decide +kernel
theorem dX3_mean_13 : decode cX3_mean 13 = .ok (.ifCond .ne 7, 3) := by decide +kernel
theorem dX3_mean_16 : decode cX3_mean 16 = .ok (.dconst 0, 1) := by decide +kernel
theorem dX3_mean_17 : decode cX3_mean 17 = .ok (.goto 21, 3) := by decide +kernel
theorem dX3_mean_20 : decode cX3_mean 20 = .ok (.aload_n 0, 1) := by decide +kernel
theorem dX3_mean_21 : decode cX3_mean 21 = .ok (.getfield 10, 3) := by decide +kernel
theorem dX3_mean_24 : decode cX3_mean 24 = .ok (.invokevirtual 104, 3) := by decide +kernel
theorem dX3_mean_27 : decode cX3_mean 27 = .ok (.i2d, 1) := by decide +kernel
theorem dX3_mean_28 : decode cX3_mean 28 = .ok (.aload_n 0, 1) := by decide +kernel
theorem dX3_mean_29 : decode cX3_mean 29 = .ok (.getfield 10, 3) := by decide +kernel
theorem dX3_mean_32 : decode cX3_mean 32 = .ok (.iconst 0, 1) := by decide +kernel
theorem dX3_mean_33 : decode cX3_mean 33 = .ok (.invokevirtual 71, 3) := by decide +kernel
theorem dX3_mean_36 : decode cX3_mean 36 = .ok (.i2d, 1) := by decide +kernel
theorem dX3_mean_37 : decode cX3_mean 37 = .ok (.ddiv, 1) := by decide +kernel
theorem dX3_mean_38 : decode cX3_mean 38 = .ok (.dreturn, 1) := by decide +kernel
set_option maxRecDepth 20000 in
theorem ggX3_digest_X3_counted : GoodIn wsX3_digest wsX3_counted := goodIn_r _ [9, 4, 10, 11, 12, 13, 14, 15, 16, 17, 18, 19, 20, 21, 22, 23, 24, 25, 26, 27, 28, 37, 38, 39, 40, 41, 42, 43] (by decide +kernel) (by decide +kernel)
set_option maxRecDepth 20000 in
theorem gX3_digest_X3_counted : GoodIn wsX3_digest (wsV RX3 82 RX3 yX3_counted wsX3_counted) := goodIn_app (goodIn_of _ (by decide +kernel)) ggX3_digest_X3_counted
set_option maxRecDepth 20000 in
theorem ggX3_digest_X3_told : GoodIn wsX3_digest wsX3_told := goodIn_r _ [32, 4, 33, 34, 35, 14, 36, 16, 37, 38, 39, 40, 41, 42, 43] (by decide +kernel) (by decide +kernel)
set_option maxRecDepth 20000 in
theorem gX3_digest_X3_told : GoodIn wsX3_digest (wsV RX3 67 RX3 yX3_told wsX3_told) := goodIn_app (goodIn_of _ (by decide +kernel)) ggX3_digest_X3_told
theorem dX3_digest_0 : decode cX3_digest 0 = .ok (.aload_n 0, 1) := by decide +kernel
theorem dX3_digest_1 : decode cX3_digest 1 = .ok (.iconst 0, 1) := by decide +kernel
theorem dX3_digest_2 : decode cX3_digest 2 = .ok (.putfield 19, 3) := by decide +kernel
theorem dX3_digest_5 : decode cX3_digest 5 = .ok (.ldc2_w 119, 3) := by decide +kernel
theorem dX3_digest_8 : decode cX3_digest 8 = .ok (.lstore_n 1, 1) := by decide +kernel
theorem dX3_digest_9 : decode cX3_digest 9 = .ok (.iconst 0, 1) := by decide +kernel
theorem dX3_digest_10 : decode cX3_digest 10 = .ok (.istore_n 3, 1) := by decide +kernel
theorem dX3_digest_11 : decode cX3_digest 11 = .ok (.iload_n 3, 1) := by decide +kernel
theorem dX3_digest_12 : decode cX3_digest 12 = .ok (.bipush 8, 2) := by decide +kernel
theorem dX3_digest_14 : decode cX3_digest 14 = .ok (.if_icmp .gt 22, 3) := by decide +kernel
theorem dX3_digest_17 : decode cX3_digest 17 = .ok (.lload_n 1, 1) := by decide +kernel
theorem dX3_digest_18 : decode cX3_digest 18 = .ok (.ldc2_w 121, 3) := by decide +kernel
theorem dX3_digest_21 : decode cX3_digest 21 = .ok (.lmul, 1) := by decide +kernel
theorem dX3_digest_22 : decode cX3_digest 22 = .ok (.aload_n 0, 1) := by decide +kernel
theorem dX3_digest_23 : decode cX3_digest 23 = .ok (.iload_n 3, 1) := by decide +kernel
theorem dX3_digest_24 : decode cX3_digest 24 = .ok (.invokevirtual 82, 3) := by decide +kernel
theorem dX3_digest_27 : decode cX3_digest 27 = .ok (.i2l, 1) := by decide +kernel
theorem dX3_digest_28 : decode cX3_digest 28 = .ok (.ladd, 1) := by decide +kernel
theorem dX3_digest_29 : decode cX3_digest 29 = .ok (.lstore_n 1, 1) := by decide +kernel
theorem dX3_digest_30 : decode cX3_digest 30 = .ok (.iinc 3 1, 3) := by decide +kernel
theorem dX3_digest_33 : decode cX3_digest 33 = .ok (.goto (-22), 3) := by decide +kernel
theorem dX3_digest_36 : decode cX3_digest 36 = .ok (.aload_n 0, 1) := by decide +kernel
theorem dX3_digest_37 : decode cX3_digest 37 = .ok (.getfield 10, 3) := by decide +kernel
theorem dX3_digest_40 : decode cX3_digest 40 = .ok (.getfield 38, 3) := by decide +kernel
theorem dX3_digest_43 : decode cX3_digest 43 = .ok (.astore_n 3, 1) := by decide +kernel
theorem dX3_digest_44 : decode cX3_digest 44 = .ok (.aload_n 3, 1) := by decide +kernel
theorem dX3_digest_45 : decode cX3_digest 45 = .ok (.arraylength, 1) := by decide +kernel
theorem dX3_digest_46 : decode cX3_digest 46 = .ok (.istore 4, 2) := by decide +kernel
theorem dX3_digest_48 : decode cX3_digest 48 = .ok (.iconst 0, 1) := by decide +kernel
theorem dX3_digest_49 : decode cX3_digest 49 = .ok (.istore 5, 2) := by decide +kernel
theorem dX3_digest_51 : decode cX3_digest 51 = .ok (.iload 5, 2) := by decide +kernel
theorem dX3_digest_53 : decode cX3_digest 53 = .ok (.iload 4, 2) := by decide +kernel
theorem dX3_digest_55 : decode cX3_digest 55 = .ok (.if_icmp .ge 25, 3) := by decide +kernel
theorem dX3_digest_58 : decode cX3_digest 58 = .ok (.aload_n 3, 1) := by decide +kernel
theorem dX3_digest_59 : decode cX3_digest 59 = .ok (.iload 5, 2) := by decide +kernel
theorem dX3_digest_61 : decode cX3_digest 61 = .ok (.iaload, 1) := by decide +kernel
theorem dX3_digest_62 : decode cX3_digest 62 = .ok (.istore 6, 2) := by decide +kernel
theorem dX3_digest_64 : decode cX3_digest 64 = .ok (.lload_n 1, 1) := by decide +kernel
theorem dX3_digest_65 : decode cX3_digest 65 = .ok (.ldc2_w 121, 3) := by decide +kernel
theorem dX3_digest_68 : decode cX3_digest 68 = .ok (.lmul, 1) := by decide +kernel
theorem dX3_digest_69 : decode cX3_digest 69 = .ok (.iload 6, 2) := by decide +kernel
theorem dX3_digest_71 : decode cX3_digest 71 = .ok (.i2l, 1) := by decide +kernel
theorem dX3_digest_72 : decode cX3_digest 72 = .ok (.ladd, 1) := by decide +kernel
theorem dX3_digest_73 : decode cX3_digest 73 = .ok (.lstore_n 1, 1) := by decide +kernel
theorem dX3_digest_74 : decode cX3_digest 74 = .ok (.iinc 5 1, 3) := by decide +kernel
theorem dX3_digest_77 : decode cX3_digest 77 = .ok (.goto (-26), 3) := by decide +kernel
theorem dX3_digest_80 : decode cX3_digest 80 = .ok (.iconst 0, 1) := by decide +kernel
theorem dX3_digest_81 : decode cX3_digest 81 = .ok (.istore_n 3, 1) := by decide +kernel
theorem dX3_digest_82 : decode cX3_digest 82 = .ok (.iload_n 3, 1) := by decide +kernel
theorem dX3_digest_83 : decode cX3_digest 83 = .ok (.aload_n 0, 1) := by decide +kernel
theorem dX3_digest_84 : decode cX3_digest 84 = .ok (.getfield 10, 3) := by decide +kernel
theorem dX3_digest_87 : decode cX3_digest 87 = .ok (.getfield 27, 3) := by decide +kernel
theorem dX3_digest_90 : decode cX3_digest 90 = .ok (.if_icmp .ge 40, 3) := by decide +kernel
theorem dX3_digest_93 : decode cX3_digest 93 = .ok (.iconst 0, 1) := by decide +kernel
theorem dX3_digest_94 : decode cX3_digest 94 = .ok (.istore 4, 2) := by decide +kernel
theorem dX3_digest_96 : decode cX3_digest 96 = .ok (.iload 4, 2) := by decide +kernel
theorem dX3_digest_98 : decode cX3_digest 98 = .ok (.bipush 11, 2) := by decide +kernel
theorem dX3_digest_100 : decode cX3_digest 100 = .ok (.if_icmp .gt 24, 3) := by decide +kernel
theorem dX3_digest_103 : decode cX3_digest 103 = .ok (.lload_n 1, 1) := by decide +kernel
theorem dX3_digest_104 : decode cX3_digest 104 = .ok (.ldc2_w 121, 3) := by decide +kernel
theorem dX3_digest_107 : decode cX3_digest 107 = .ok (.lmul, 1) := by decide +kernel
theorem dX3_digest_108 : decode cX3_digest 108 = .ok (.aload_n 0, 1) := by decide +kernel
theorem dX3_digest_109 : decode cX3_digest 109 = .ok (.iload_n 3, 1) := by decide +kernel
theorem dX3_digest_110 : decode cX3_digest 110 = .ok (.iload 4, 2) := by decide +kernel
theorem dX3_digest_112 : decode cX3_digest 112 = .ok (.invokevirtual 67, 3) := by decide +kernel
theorem dX3_digest_115 : decode cX3_digest 115 = .ok (.i2l, 1) := by decide +kernel
theorem dX3_digest_116 : decode cX3_digest 116 = .ok (.ladd, 1) := by decide +kernel
theorem dX3_digest_117 : decode cX3_digest 117 = .ok (.lstore_n 1, 1) := by decide +kernel
theorem dX3_digest_118 : decode cX3_digest 118 = .ok (.iinc 4 1, 3) := by decide +kernel
theorem dX3_digest_121 : decode cX3_digest 121 = .ok (.goto (-25), 3) := by decide +kernel
theorem dX3_digest_124 : decode cX3_digest 124 = .ok (.iinc 3 1, 3) := by decide +kernel
theorem dX3_digest_127 : decode cX3_digest 127 = .ok (.goto (-45), 3) := by decide +kernel
theorem dX3_digest_130 : decode cX3_digest 130 = .ok (.lload_n 1, 1) := by decide +kernel
theorem dX3_digest_131 : decode cX3_digest 131 = .ok (.lreturn, 1) := by decide +kernel

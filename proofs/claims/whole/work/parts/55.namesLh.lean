set_option maxRecDepth 20000 in
theorem ggL_come_X1_come : GoodIn wsL_come wsX1_come := goodIn_ca (goodIn_ca (goodIn_ca (goodIn_r _ [8, 9, 10, 11, 12, 13, 14, 15, 16, 7, 17, 18, 19, 20, 21, 22, 23, 24, 25, 26, 27, 28, 29, 30, 31, 32, 33, 34, 35, 36, 37, 38, 39, 40, 41, 42, 43, 44, 45, 46, 47, 48, 49, 50, 51, 52, 53, 54, 55, 56, 57, 58, 59, 60, 61, 62, 63, 64, 65, 66] (by decide +kernel) (by decide +kernel)) (goodIn_sub (fun _ h => List.mem_cons_of_mem _ (List.mem_append_left _ (List.mem_append_left _ (List.mem_append_right _ h)))) (by decide +kernel))) (goodIn_sub (fun _ h => List.mem_cons_of_mem _ (List.mem_append_left _ (List.mem_append_right _ h))) (by decide +kernel))) (goodIn_sub (fun _ h => List.mem_cons_of_mem _ (List.mem_append_right _ h)) (by decide +kernel))
set_option maxRecDepth 20000 in
theorem gL_come_X1_come : GoodIn wsL_come (wsV RL 7 RX1 yX1_come wsX1_come) := goodIn_app (goodIn_of _ (by decide +kernel)) ggL_come_X1_come
theorem dL_come_0 : decode cL_come 0 = .ok (.aload 4, 2) := by decide +kernel
theorem dL_come_2 : decode cL_come 2 = .ok (.iconst 0, 1) := by decide +kernel
theorem dL_come_3 : decode cL_come 3 = .ok (.aload_n 0, 1) := by decide +kernel
theorem dL_come_4 : decode cL_come 4 = .ok (.iload_n 1, 1) := by decide +kernel
theorem dL_come_5 : decode cL_come 5 = .ok (.iload_n 2, 1) := by decide +kernel
theorem dL_come_6 : decode cL_come 6 = .ok (.iload_n 3, 1) := by decide +kernel
theorem dL_come_7 : decode cL_come 7 = .ok (.invokevirtual 7, 3) := by decide +kernel
theorem dL_come_10 : decode cL_come 10 = .ok (.i2l, 1) := by decide +kernel
theorem dL_come_11 : decode cL_come 11 = .ok (.lastore, 1) := by decide +kernel
theorem dL_come_12 : decode cL_come 12 = .ok (.goto 15, 3) := by decide +kernel
theorem dL_come_15 : decode cL_come 15 = .ok (.astore 5, 2) := by decide +kernel
theorem dL_come_17 : decode cL_come 17 = .ok (.iconst 1, 1) := by decide +kernel
theorem dL_come_18 : decode cL_come 18 = .ok (.ireturn, 1) := by decide +kernel
theorem dL_come_19 : decode cL_come 19 = .ok (.astore 5, 2) := by decide +kernel
theorem dL_come_21 : decode cL_come 21 = .ok (.iconst 2, 1) := by decide +kernel
theorem dL_come_22 : decode cL_come 22 = .ok (.ireturn, 1) := by decide +kernel
theorem dL_come_23 : decode cL_come 23 = .ok (.astore 5, 2) := by decide +kernel
theorem dL_come_25 : decode cL_come 25 = .ok (.iconst 3, 1) := by decide +kernel
theorem dL_come_26 : decode cL_come 26 = .ok (.ireturn, 1) := by decide +kernel
theorem dL_come_27 : decode cL_come 27 = .ok (.iconst 0, 1) := by decide +kernel
theorem dL_come_28 : decode cL_come 28 = .ok (.ireturn, 1) := by decide +kernel
set_option maxRecDepth 20000 in
theorem ggL_move_X1_move : GoodIn wsL_move wsX1_move := goodIn_ca (goodIn_ca (goodIn_r _ [7, 8, 9, 10, 11, 6, 12, 13, 14, 15, 16, 17, 18, 19, 20, 21, 22, 23, 24, 25, 26, 27, 28, 29, 30, 31, 32, 33, 34, 35, 36, 37, 38, 39, 40, 41, 42, 43, 44, 45, 46, 47, 48, 49, 50, 51, 52, 53, 54, 55, 56, 57, 58, 59, 60, 61, 62, 63, 64, 65, 66, 67, 68, 69, 70] (by decide +kernel) (by decide +kernel)) (goodIn_sub (fun _ h => List.mem_cons_of_mem _ (List.mem_append_left _ (List.mem_append_right _ h))) (by decide +kernel))) (goodIn_sub (fun _ h => List.mem_cons_of_mem _ (List.mem_append_right _ h)) (by decide +kernel))
set_option maxRecDepth 20000 in
theorem gL_move_X1_move : GoodIn wsL_move (wsV RL 19 RX1 yX1_move wsX1_move) := goodIn_app (goodIn_of _ (by decide +kernel)) ggL_move_X1_move
theorem dL_move_0 : decode cL_move 0 = .ok (.aload_n 3, 1) := by decide +kernel
theorem dL_move_1 : decode cL_move 1 = .ok (.iconst 0, 1) := by decide +kernel
theorem dL_move_2 : decode cL_move 2 = .ok (.aload_n 0, 1) := by decide +kernel
theorem dL_move_3 : decode cL_move 3 = .ok (.iload_n 1, 1) := by decide +kernel
theorem dL_move_4 : decode cL_move 4 = .ok (.iload_n 2, 1) := by decide +kernel
theorem dL_move_5 : decode cL_move 5 = .ok (.invokevirtual 19, 3) := by decide +kernel
theorem dL_move_8 : decode cL_move 8 = .ok (.i2l, 1) := by decide +kernel
theorem dL_move_9 : decode cL_move 9 = .ok (.lastore, 1) := by decide +kernel
theorem dL_move_10 : decode cL_move 10 = .ok (.goto 11, 3) := by decide +kernel
theorem dL_move_13 : decode cL_move 13 = .ok (.astore 4, 2) := by decide +kernel
theorem dL_move_15 : decode cL_move 15 = .ok (.iconst 1, 1) := by decide +kernel
theorem dL_move_16 : decode cL_move 16 = .ok (.ireturn, 1) := by decide +kernel
theorem dL_move_17 : decode cL_move 17 = .ok (.astore 4, 2) := by decide +kernel
theorem dL_move_19 : decode cL_move 19 = .ok (.iconst 2, 1) := by decide +kernel
theorem dL_move_20 : decode cL_move 20 = .ok (.ireturn, 1) := by decide +kernel
theorem dL_move_21 : decode cL_move 21 = .ok (.iconst 0, 1) := by decide +kernel
theorem dL_move_22 : decode cL_move 22 = .ok (.ireturn, 1) := by decide +kernel
set_option maxRecDepth 20000 in
theorem ggL_feed_X1_feed : GoodIn wsL_feed wsX1_feed := goodIn_ca (goodIn_ca (goodIn_r _ [7, 8, 9, 10, 11, 6, 12, 13, 14, 15, 16, 17, 18, 19, 20, 21, 22, 23, 24, 25, 26, 27, 28, 29, 30, 31, 32, 33, 34, 35, 36, 37, 38, 39, 40, 41, 42, 43, 44, 45, 46, 47, 48] (by decide +kernel) (by decide +kernel)) (goodIn_sub (fun _ h => List.mem_cons_of_mem _ (List.mem_append_left _ (List.mem_append_right _ h))) (by decide +kernel))) (goodIn_sub (fun _ h => List.mem_cons_of_mem _ (List.mem_append_right _ h)) (by decide +kernel))
set_option maxRecDepth 20000 in
theorem gL_feed_X1_feed : GoodIn wsL_feed (wsV RL 23 RX1 yX1_feed wsX1_feed) := goodIn_app (goodIn_of _ (by decide +kernel)) ggL_feed_X1_feed
theorem dL_feed_0 : decode cL_feed 0 = .ok (.aload_n 2, 1) := by decide +kernel
theorem dL_feed_1 : decode cL_feed 1 = .ok (.iconst 0, 1) := by decide +kernel
theorem dL_feed_2 : decode cL_feed 2 = .ok (.aload_n 0, 1) := by decide +kernel
theorem dL_feed_3 : decode cL_feed 3 = .ok (.iload_n 1, 1) := by decide +kernel
theorem dL_feed_4 : decode cL_feed 4 = .ok (.invokevirtual 23, 3) := by decide +kernel
theorem dL_feed_7 : decode cL_feed 7 = .ok (.i2l, 1) := by decide +kernel
theorem dL_feed_8 : decode cL_feed 8 = .ok (.lastore, 1) := by decide +kernel
theorem dL_feed_9 : decode cL_feed 9 = .ok (.goto 9, 3) := by decide +kernel
theorem dL_feed_12 : decode cL_feed 12 = .ok (.astore_n 3, 1) := by decide +kernel
theorem dL_feed_13 : decode cL_feed 13 = .ok (.iconst 1, 1) := by decide +kernel
theorem dL_feed_14 : decode cL_feed 14 = .ok (.ireturn, 1) := by decide +kernel
theorem dL_feed_15 : decode cL_feed 15 = .ok (.astore_n 3, 1) := by decide +kernel
theorem dL_feed_16 : decode cL_feed 16 = .ok (.iconst 2, 1) := by decide +kernel
theorem dL_feed_17 : decode cL_feed 17 = .ok (.ireturn, 1) := by decide +kernel
theorem dL_feed_18 : decode cL_feed 18 = .ok (.iconst 0, 1) := by decide +kernel
theorem dL_feed_19 : decode cL_feed 19 = .ok (.ireturn, 1) := by decide +kernel
set_option maxRecDepth 20000 in
theorem ggL_alter_X1_alter : GoodIn wsL_alter wsX1_alter := goodIn_ca (goodIn_ca (goodIn_ca (goodIn_r _ [8, 9, 10, 11, 12, 7, 13, 14, 15, 16, 17, 18, 19, 20, 21, 22, 23, 24, 25, 26, 27, 28, 29, 30, 31, 32, 33, 34, 35, 36, 37, 38, 39, 40, 41, 42, 43, 44, 45, 46, 47, 48, 49, 50, 51, 52, 53, 54, 55] (by decide +kernel) (by decide +kernel)) (goodIn_sub (fun _ h => List.mem_cons_of_mem _ (List.mem_append_left _ (List.mem_append_left _ (List.mem_append_right _ h)))) (by decide +kernel))) (goodIn_sub (fun _ h => List.mem_cons_of_mem _ (List.mem_append_left _ (List.mem_append_right _ h))) (by decide +kernel))) (goodIn_sub (fun _ h => List.mem_cons_of_mem _ (List.mem_append_right _ h)) (by decide +kernel))
set_option maxRecDepth 20000 in
theorem gL_alter_X1_alter : GoodIn wsL_alter (wsV RL 27 RX1 yX1_alter wsX1_alter) := goodIn_app (goodIn_of _ (by decide +kernel)) ggL_alter_X1_alter
theorem dL_alter_0 : decode cL_alter 0 = .ok (.aload_n 3, 1) := by decide +kernel
theorem dL_alter_1 : decode cL_alter 1 = .ok (.iconst 0, 1) := by decide +kernel
theorem dL_alter_2 : decode cL_alter 2 = .ok (.aload_n 0, 1) := by decide +kernel
theorem dL_alter_3 : decode cL_alter 3 = .ok (.iload_n 1, 1) := by decide +kernel
theorem dL_alter_4 : decode cL_alter 4 = .ok (.iload_n 2, 1) := by decide +kernel
theorem dL_alter_5 : decode cL_alter 5 = .ok (.invokevirtual 27, 3) := by decide +kernel
theorem dL_alter_8 : decode cL_alter 8 = .ok (.i2l, 1) := by decide +kernel
theorem dL_alter_9 : decode cL_alter 9 = .ok (.lastore, 1) := by decide +kernel
theorem dL_alter_10 : decode cL_alter 10 = .ok (.goto 15, 3) := by decide +kernel
theorem dL_alter_13 : decode cL_alter 13 = .ok (.astore 4, 2) := by decide +kernel
theorem dL_alter_15 : decode cL_alter 15 = .ok (.iconst 1, 1) := by decide +kernel
theorem dL_alter_16 : decode cL_alter 16 = .ok (.ireturn, 1) := by decide +kernel
theorem dL_alter_17 : decode cL_alter 17 = .ok (.astore 4, 2) := by decide +kernel
theorem dL_alter_19 : decode cL_alter 19 = .ok (.iconst 2, 1) := by decide +kernel
theorem dL_alter_20 : decode cL_alter 20 = .ok (.ireturn, 1) := by decide +kernel
theorem dL_alter_21 : decode cL_alter 21 = .ok (.astore 4, 2) := by decide +kernel
theorem dL_alter_23 : decode cL_alter 23 = .ok (.iconst 3, 1) := by decide +kernel
theorem dL_alter_24 : decode cL_alter 24 = .ok (.ireturn, 1) := by decide +kernel
theorem dL_alter_25 : decode cL_alter 25 = .ok (.iconst 0, 1) := by decide +kernel
theorem dL_alter_26 : decode cL_alter 26 = .ok (.ireturn, 1) := by decide +kernel
set_option maxRecDepth 20000 in
theorem ggL_free_X1_free : GoodIn wsL_free wsX1_free := goodIn_ca (goodIn_ca (goodIn_r _ [7, 8, 9, 10, 11, 6, 12, 13, 14, 15, 16, 17, 18, 19, 20, 21, 22, 23, 24, 25, 26, 27, 28, 29, 30, 31, 32, 33, 34, 35, 36, 37, 38, 39, 40, 41, 42, 43, 44, 45, 46, 47, 48, 49, 50, 51, 52, 53, 54, 55, 56, 57, 58, 59] (by decide +kernel) (by decide +kernel)) (goodIn_sub (fun _ h => List.mem_cons_of_mem _ (List.mem_append_left _ (List.mem_append_right _ h))) (by decide +kernel))) (goodIn_sub (fun _ h => List.mem_cons_of_mem _ (List.mem_append_right _ h)) (by decide +kernel))
set_option maxRecDepth 20000 in
theorem gL_free_X1_free : GoodIn wsL_free (wsV RL 30 RX1 yX1_free wsX1_free) := goodIn_app (goodIn_of _ (by decide +kernel)) ggL_free_X1_free
theorem dL_free_0 : decode cL_free 0 = .ok (.aload_n 2, 1) := by decide +kernel
theorem dL_free_1 : decode cL_free 1 = .ok (.iconst 0, 1) := by decide +kernel
theorem dL_free_2 : decode cL_free 2 = .ok (.aload_n 0, 1) := by decide +kernel
theorem dL_free_3 : decode cL_free 3 = .ok (.iload_n 1, 1) := by decide +kernel
theorem dL_free_4 : decode cL_free 4 = .ok (.invokevirtual 30, 3) := by decide +kernel
theorem dL_free_7 : decode cL_free 7 = .ok (.i2l, 1) := by decide +kernel
theorem dL_free_8 : decode cL_free 8 = .ok (.lastore, 1) := by decide +kernel
theorem dL_free_9 : decode cL_free 9 = .ok (.goto 9, 3) := by decide +kernel
theorem dL_free_12 : decode cL_free 12 = .ok (.astore_n 3, 1) := by decide +kernel
theorem dL_free_13 : decode cL_free 13 = .ok (.iconst 1, 1) := by decide +kernel
theorem dL_free_14 : decode cL_free 14 = .ok (.ireturn, 1) := by decide +kernel
theorem dL_free_15 : decode cL_free 15 = .ok (.astore_n 3, 1) := by decide +kernel
theorem dL_free_16 : decode cL_free 16 = .ok (.iconst 2, 1) := by decide +kernel
theorem dL_free_17 : decode cL_free 17 = .ok (.ireturn, 1) := by decide +kernel
theorem dL_free_18 : decode cL_free 18 = .ok (.iconst 0, 1) := by decide +kernel
theorem dL_free_19 : decode cL_free 19 = .ok (.ireturn, 1) := by decide +kernel
set_option maxRecDepth 20000 in
theorem ggL_rule_X1_rule : GoodIn wsL_rule wsX1_rule := goodIn_ca (goodIn_r _ [6, 7, 8, 9, 10, 5, 11, 12, 13, 14, 15, 16, 17, 18, 19, 20, 21, 22, 23, 24, 25, 26, 27, 28, 29, 30, 31, 32, 33, 34, 35, 36, 37, 38, 39, 40, 41, 42, 43, 44, 45, 46, 47, 48, 49, 50, 51, 52, 53, 54, 55, 56, 57, 58, 59, 60] (by decide +kernel) (by decide +kernel)) (goodIn_sub (fun _ h => List.mem_cons_of_mem _ (List.mem_append_right _ h)) (by decide +kernel))
set_option maxRecDepth 20000 in
theorem gL_rule_X1_rule : GoodIn wsL_rule (wsV RL 33 RX1 yX1_rule wsX1_rule) := goodIn_app (goodIn_of _ (by decide +kernel)) ggL_rule_X1_rule
theorem dL_rule_0 : decode cL_rule 0 = .ok (.aload_n 3, 1) := by decide +kernel
theorem dL_rule_1 : decode cL_rule 1 = .ok (.iconst 0, 1) := by decide +kernel
theorem dL_rule_2 : decode cL_rule 2 = .ok (.aload_n 0, 1) := by decide +kernel
theorem dL_rule_3 : decode cL_rule 3 = .ok (.iload_n 1, 1) := by decide +kernel
theorem dL_rule_4 : decode cL_rule 4 = .ok (.iload_n 2, 1) := by decide +kernel
theorem dL_rule_5 : decode cL_rule 5 = .ok (.invokevirtual 33, 3) := by decide +kernel
theorem dL_rule_8 : decode cL_rule 8 = .ok (.i2l, 1) := by decide +kernel
theorem dL_rule_9 : decode cL_rule 9 = .ok (.lastore, 1) := by decide +kernel
theorem dL_rule_10 : decode cL_rule 10 = .ok (.goto 7, 3) := by decide +kernel
theorem dL_rule_13 : decode cL_rule 13 = .ok (.astore 4, 2) := by decide +kernel
theorem dL_rule_15 : decode cL_rule 15 = .ok (.iconst 1, 1) := by decide +kernel
theorem dL_rule_16 : decode cL_rule 16 = .ok (.ireturn, 1) := by decide +kernel
theorem dL_rule_17 : decode cL_rule 17 = .ok (.iconst 0, 1) := by decide +kernel
theorem dL_rule_18 : decode cL_rule 18 = .ok (.ireturn, 1) := by decide +kernel
set_option maxRecDepth 20000 in
theorem ggL_cage_X1_cage : GoodIn wsL_cage wsX1_cage := goodIn_ca (goodIn_r _ [6, 7, 8, 9, 10, 5, 11, 12, 13, 14, 15, 16, 17, 18, 19, 20, 21, 22, 23, 24, 25, 26, 27, 28, 29, 30] (by decide +kernel) (by decide +kernel)) (goodIn_sub (fun _ h => List.mem_cons_of_mem _ (List.mem_append_right _ h)) (by decide +kernel))
set_option maxRecDepth 20000 in
theorem gL_cage_X1_cage : GoodIn wsL_cage (wsV RL 36 RX1 yX1_cage wsX1_cage) := goodIn_app (goodIn_of _ (by decide +kernel)) ggL_cage_X1_cage
theorem dL_cage_0 : decode cL_cage 0 = .ok (.aload_n 2, 1) := by decide +kernel
theorem dL_cage_1 : decode cL_cage 1 = .ok (.iconst 0, 1) := by decide +kernel
theorem dL_cage_2 : decode cL_cage 2 = .ok (.aload_n 0, 1) := by decide +kernel
theorem dL_cage_3 : decode cL_cage 3 = .ok (.iload_n 1, 1) := by decide +kernel
theorem dL_cage_4 : decode cL_cage 4 = .ok (.invokevirtual 36, 3) := by decide +kernel
theorem dL_cage_7 : decode cL_cage 7 = .ok (.i2l, 1) := by decide +kernel
theorem dL_cage_8 : decode cL_cage 8 = .ok (.lastore, 1) := by decide +kernel
theorem dL_cage_9 : decode cL_cage 9 = .ok (.goto 6, 3) := by decide +kernel
theorem dL_cage_12 : decode cL_cage 12 = .ok (.astore_n 3, 1) := by decide +kernel
theorem dL_cage_13 : decode cL_cage 13 = .ok (.iconst 1, 1) := by decide +kernel
theorem dL_cage_14 : decode cL_cage 14 = .ok (.ireturn, 1) := by decide +kernel
theorem dL_cage_15 : decode cL_cage 15 = .ok (.iconst 0, 1) := by decide +kernel
theorem dL_cage_16 : decode cL_cage 16 = .ok (.ireturn, 1) := by decide +kernel
set_option maxRecDepth 20000 in
theorem ggL_count_X1_count : GoodIn wsL_count wsX1_count := goodIn_ca (goodIn_r _ [6, 7, 8, 9, 10, 5, 11, 12, 13, 14, 15, 16, 17, 18, 19, 20, 21, 22, 23, 24, 25, 26, 27, 28, 29, 30, 31, 32, 33, 34, 35, 36, 37, 38, 39, 40, 41, 42, 43, 44, 45, 46, 47, 48, 49, 50, 51, 52, 53, 54, 55, 56, 57, 58, 59, 60, 61, 62, 63] (by decide +kernel) (by decide +kernel)) (goodIn_sub (fun _ h => List.mem_cons_of_mem _ (List.mem_append_right _ h)) (by decide +kernel))
set_option maxRecDepth 20000 in
theorem gL_count_X1_count : GoodIn wsL_count (wsV RL 39 RX1 yX1_count wsX1_count) := goodIn_app (goodIn_of _ (by decide +kernel)) ggL_count_X1_count
theorem dL_count_0 : decode cL_count 0 = .ok (.aload_n 2, 1) := by decide +kernel
theorem dL_count_1 : decode cL_count 1 = .ok (.iconst 0, 1) := by decide +kernel
theorem dL_count_2 : decode cL_count 2 = .ok (.aload_n 0, 1) := by decide +kernel
theorem dL_count_3 : decode cL_count 3 = .ok (.iload_n 1, 1) := by decide +kernel
theorem dL_count_4 : decode cL_count 4 = .ok (.invokevirtual 39, 3) := by decide +kernel
theorem dL_count_7 : decode cL_count 7 = .ok (.i2l, 1) := by decide +kernel
theorem dL_count_8 : decode cL_count 8 = .ok (.lastore, 1) := by decide +kernel
theorem dL_count_9 : decode cL_count 9 = .ok (.goto 6, 3) := by decide +kernel
theorem dL_count_12 : decode cL_count 12 = .ok (.astore_n 3, 1) := by decide +kernel
theorem dL_count_13 : decode cL_count 13 = .ok (.iconst 1, 1) := by decide +kernel
theorem dL_count_14 : decode cL_count 14 = .ok (.ireturn, 1) := by decide +kernel
theorem dL_count_15 : decode cL_count 15 = .ok (.iconst 0, 1) := by decide +kernel
theorem dL_count_16 : decode cL_count 16 = .ok (.ireturn, 1) := by decide +kernel
set_option maxRecDepth 20000 in
theorem ggL_may_X1_may : GoodIn wsL_may wsX1_may := goodIn_ca (goodIn_r _ [6, 7, 8, 9, 10, 5, 11, 12, 13, 14, 15, 16, 17, 18, 19, 20, 21, 22, 23, 24, 25, 26, 27, 28, 29, 30, 31, 32, 33, 34, 35, 36, 37, 38, 39, 40, 41, 42, 43, 44, 45, 46, 47, 48, 49, 50, 51, 52, 53, 54] (by decide +kernel) (by decide +kernel)) (goodIn_sub (fun _ h => List.mem_cons_of_mem _ (List.mem_append_right _ h)) (by decide +kernel))
set_option maxRecDepth 20000 in
theorem gL_may_X1_may : GoodIn wsL_may (wsV RL 42 RX1 yX1_may wsX1_may) := goodIn_app (goodIn_of _ (by decide +kernel)) ggL_may_X1_may
theorem dL_may_0 : decode cL_may 0 = .ok (.aload_n 3, 1) := by decide +kernel
theorem dL_may_1 : decode cL_may 1 = .ok (.iconst 0, 1) := by decide +kernel
theorem dL_may_2 : decode cL_may 2 = .ok (.aload_n 0, 1) := by decide +kernel
theorem dL_may_3 : decode cL_may 3 = .ok (.iload_n 1, 1) := by decide +kernel
theorem dL_may_4 : decode cL_may 4 = .ok (.iload_n 2, 1) := by decide +kernel
theorem dL_may_5 : decode cL_may 5 = .ok (.invokevirtual 42, 3) := by decide +kernel
theorem dL_may_8 : decode cL_may 8 = .ok (.ifCond .eq 7, 3) := by decide +kernel
theorem dL_may_11 : decode cL_may 11 = .ok (.lconst 1, 1) := by decide +kernel
theorem dL_may_12 : decode cL_may 12 = .ok (.goto 4, 3) := by decide +kernel
theorem dL_may_15 : decode cL_may 15 = .ok (.lconst 0, 1) := by decide +kernel
theorem dL_may_16 : decode cL_may 16 = .ok (.lastore, 1) := by decide +kernel
theorem dL_may_17 : decode cL_may 17 = .ok (.goto 7, 3) := by decide +kernel
theorem dL_may_20 : decode cL_may 20 = .ok (.astore 4, 2) := by decide +kernel
theorem dL_may_22 : decode cL_may 22 = .ok (.iconst 1, 1) := by decide +kernel
theorem dL_may_23 : decode cL_may 23 = .ok (.ireturn, 1) := by decide +kernel
theorem dL_may_24 : decode cL_may 24 = .ok (.iconst 0, 1) := by decide +kernel
theorem dL_may_25 : decode cL_may 25 = .ok (.ireturn, 1) := by decide +kernel
set_option maxRecDepth 20000 in
theorem ggL_prey_X1_prey : GoodIn wsL_prey wsX1_prey := goodIn_ca (goodIn_r _ [6, 7, 8, 9, 10, 5, 11, 12, 13, 14, 15, 16, 17, 18, 19, 20, 21, 22, 23, 24, 25, 26, 27, 28, 29, 30, 31, 32, 33, 34, 35, 36, 37, 38, 39, 40, 41, 42, 43, 44, 45, 46, 47, 48, 49, 50, 51, 52, 53, 54, 55, 56, 57, 58, 59, 60, 61, 62, 63, 64, 65, 66, 67, 68] (by decide +kernel) (by decide +kernel)) (goodIn_sub (fun _ h => List.mem_cons_of_mem _ (List.mem_append_right _ h)) (by decide +kernel))
set_option maxRecDepth 20000 in
theorem gL_prey_X1_prey : GoodIn wsL_prey (wsV RL 46 RX1 yX1_prey wsX1_prey) := goodIn_app (goodIn_of _ (by decide +kernel)) ggL_prey_X1_prey
theorem dL_prey_0 : decode cL_prey 0 = .ok (.aload_n 2, 1) := by decide +kernel
theorem dL_prey_1 : decode cL_prey 1 = .ok (.iconst 0, 1) := by decide +kernel
theorem dL_prey_2 : decode cL_prey 2 = .ok (.aload_n 0, 1) := by decide +kernel
theorem dL_prey_3 : decode cL_prey 3 = .ok (.iload_n 1, 1) := by decide +kernel
theorem dL_prey_4 : decode cL_prey 4 = .ok (.invokevirtual 46, 3) := by decide +kernel
theorem dL_prey_7 : decode cL_prey 7 = .ok (.i2l, 1) := by decide +kernel
theorem dL_prey_8 : decode cL_prey 8 = .ok (.lastore, 1) := by decide +kernel
theorem dL_prey_9 : decode cL_prey 9 = .ok (.goto 6, 3) := by decide +kernel
theorem dL_prey_12 : decode cL_prey 12 = .ok (.astore_n 3, 1) := by decide +kernel
theorem dL_prey_13 : decode cL_prey 13 = .ok (.iconst 1, 1) := by decide +kernel
theorem dL_prey_14 : decode cL_prey 14 = .ok (.ireturn, 1) := by decide +kernel
theorem dL_prey_15 : decode cL_prey 15 = .ok (.iconst 0, 1) := by decide +kernel
theorem dL_prey_16 : decode cL_prey 16 = .ok (.ireturn, 1) := by decide +kernel
set_option maxRecDepth 20000 in
theorem ggL_hunters_X1_hunters : GoodIn wsL_hunters wsX1_hunters := goodIn_ca (goodIn_r _ [6, 7, 8, 9, 10, 5, 11, 12, 13, 14, 15, 16, 17, 18, 19, 20, 21, 22, 23, 24, 25, 26, 27, 28, 29, 30, 31, 32, 33, 34, 35, 36, 37, 38, 39, 40, 41, 42, 43, 44, 45, 46, 47, 48, 49, 50, 51, 52, 53, 54, 55, 56, 57, 58, 59, 60, 61, 62, 63, 64, 65, 66, 67, 68] (by decide +kernel) (by decide +kernel)) (goodIn_sub (fun _ h => List.mem_cons_of_mem _ (List.mem_append_right _ h)) (by decide +kernel))
set_option maxRecDepth 20000 in
theorem gL_hunters_X1_hunters : GoodIn wsL_hunters (wsV RL 49 RX1 yX1_hunters wsX1_hunters) := goodIn_app (goodIn_of _ (by decide +kernel)) ggL_hunters_X1_hunters
theorem dL_hunters_0 : decode cL_hunters 0 = .ok (.aload_n 2, 1) := by decide +kernel
theorem dL_hunters_1 : decode cL_hunters 1 = .ok (.iconst 0, 1) := by decide +kernel
theorem dL_hunters_2 : decode cL_hunters 2 = .ok (.aload_n 0, 1) := by decide +kernel
theorem dL_hunters_3 : decode cL_hunters 3 = .ok (.iload_n 1, 1) := by decide +kernel
theorem dL_hunters_4 : decode cL_hunters 4 = .ok (.invokevirtual 49, 3) := by decide +kernel
theorem dL_hunters_7 : decode cL_hunters 7 = .ok (.i2l, 1) := by decide +kernel
theorem dL_hunters_8 : decode cL_hunters 8 = .ok (.lastore, 1) := by decide +kernel
theorem dL_hunters_9 : decode cL_hunters 9 = .ok (.goto 6, 3) := by decide +kernel
theorem dL_hunters_12 : decode cL_hunters 12 = .ok (.astore_n 3, 1) := by decide +kernel
theorem dL_hunters_13 : decode cL_hunters 13 = .ok (.iconst 1, 1) := by decide +kernel
theorem dL_hunters_14 : decode cL_hunters 14 = .ok (.ireturn, 1) := by decide +kernel
theorem dL_hunters_15 : decode cL_hunters 15 = .ok (.iconst 0, 1) := by decide +kernel
theorem dL_hunters_16 : decode cL_hunters 16 = .ok (.ireturn, 1) := by decide +kernel
set_option maxRecDepth 20000 in
theorem ggL_chain_X1_chain : GoodIn wsL_chain wsX1_chain := goodIn_ca (goodIn_r _ [6, 7, 8, 9, 10, 5, 11, 12, 13, 14, 15, 16, 17, 18, 19, 20, 21, 22, 23, 24, 25, 26, 27, 28, 29, 30, 31, 32, 33, 34, 35, 36, 37, 38, 39, 40, 41, 42, 43, 44, 45, 46, 47, 48, 49, 50, 51, 52, 53, 54, 55, 56, 57, 58, 59, 60, 61, 62, 63, 64, 65, 66, 67, 68, 69, 70, 71, 72] (by decide +kernel) (by decide +kernel)) (goodIn_sub (fun _ h => List.mem_cons_of_mem _ (List.mem_append_right _ h)) (by decide +kernel))
set_option maxRecDepth 20000 in
theorem gL_chain_X1_chain : GoodIn wsL_chain (wsV RL 52 RX1 yX1_chain wsX1_chain) := goodIn_app (goodIn_of _ (by decide +kernel)) ggL_chain_X1_chain
theorem dL_chain_0 : decode cL_chain 0 = .ok (.aload_n 2, 1) := by decide +kernel
theorem dL_chain_1 : decode cL_chain 1 = .ok (.iconst 0, 1) := by decide +kernel
theorem dL_chain_2 : decode cL_chain 2 = .ok (.aload_n 0, 1) := by decide +kernel
theorem dL_chain_3 : decode cL_chain 3 = .ok (.iload_n 1, 1) := by decide +kernel
theorem dL_chain_4 : decode cL_chain 4 = .ok (.invokevirtual 52, 3) := by decide +kernel
theorem dL_chain_7 : decode cL_chain 7 = .ok (.i2l, 1) := by decide +kernel
theorem dL_chain_8 : decode cL_chain 8 = .ok (.lastore, 1) := by decide +kernel
theorem dL_chain_9 : decode cL_chain 9 = .ok (.goto 6, 3) := by decide +kernel
theorem dL_chain_12 : decode cL_chain 12 = .ok (.astore_n 3, 1) := by decide +kernel
theorem dL_chain_13 : decode cL_chain 13 = .ok (.iconst 1, 1) := by decide +kernel
theorem dL_chain_14 : decode cL_chain 14 = .ok (.ireturn, 1) := by decide +kernel
theorem dL_chain_15 : decode cL_chain 15 = .ok (.iconst 0, 1) := by decide +kernel
theorem dL_chain_16 : decode cL_chain 16 = .ok (.ireturn, 1) := by decide +kernel
set_option maxRecDepth 20000 in
theorem ggL_pass_X1_pass : GoodIn wsL_pass wsX1_pass := goodIn_ca (goodIn_r _ [6, 7, 8, 9, 10, 5, 11, 12, 13, 14, 15, 16, 17, 18, 19, 20, 21, 22, 23, 24, 25, 26, 27, 28, 29, 30, 31, 32, 33, 34, 35, 36, 37, 38, 39, 40, 41, 42, 43, 44, 45, 46, 47, 48, 49, 50, 51, 52, 53, 54, 55, 56, 57, 58, 59, 60, 61, 62, 63, 64, 65, 66, 67, 68, 69, 70, 71, 72, 73, 74, 75, 76, 77, 78, 79, 80, 81, 82, 83, 84, 85, 86, 87, 88, 89, 90, 91, 92, 93, 94, 95, 96, 97, 98, 99, 100, 101, 102, 103, 104, 105, 106, 107, 108, 109, 110, 111, 112, 113, 114, 115, 116, 117, 118, 119, 120, 121, 122, 123, 124, 125, 126, 127, 128, 129, 130, 131, 132, 133] (by decide +kernel) (by decide +kernel)) (goodIn_sub (fun _ h => List.mem_cons_of_mem _ (List.mem_append_right _ h)) (by decide +kernel))
set_option maxRecDepth 20000 in
theorem gL_pass_X1_pass : GoodIn wsL_pass (wsV RL 55 RX1 yX1_pass wsX1_pass) := goodIn_app (goodIn_of _ (by decide +kernel)) ggL_pass_X1_pass
theorem dL_pass_0 : decode cL_pass 0 = .ok (.aload_n 2, 1) := by decide +kernel
theorem dL_pass_1 : decode cL_pass 1 = .ok (.iconst 0, 1) := by decide +kernel
theorem dL_pass_2 : decode cL_pass 2 = .ok (.aload_n 0, 1) := by decide +kernel
theorem dL_pass_3 : decode cL_pass 3 = .ok (.iload_n 1, 1) := by decide +kernel
theorem dL_pass_4 : decode cL_pass 4 = .ok (.invokevirtual 55, 3) := by decide +kernel
theorem dL_pass_7 : decode cL_pass 7 = .ok (.i2l, 1) := by decide +kernel
theorem dL_pass_8 : decode cL_pass 8 = .ok (.lastore, 1) := by decide +kernel
theorem dL_pass_9 : decode cL_pass 9 = .ok (.goto 6, 3) := by decide +kernel
theorem dL_pass_12 : decode cL_pass 12 = .ok (.astore_n 3, 1) := by decide +kernel
theorem dL_pass_13 : decode cL_pass 13 = .ok (.iconst 1, 1) := by decide +kernel
theorem dL_pass_14 : decode cL_pass 14 = .ok (.ireturn, 1) := by decide +kernel
theorem dL_pass_15 : decode cL_pass 15 = .ok (.iconst 0, 1) := by decide +kernel
theorem dL_pass_16 : decode cL_pass 16 = .ok (.ireturn, 1) := by decide +kernel
set_option maxRecDepth 20000 in
theorem ggL_foresee_X1_foresee : GoodIn wsL_foresee wsX1_foresee := goodIn_ca (goodIn_ca (goodIn_r _ [7, 8, 9, 10, 11, 12, 6, 13, 14, 15, 16, 17, 18, 19, 20, 21, 22, 23, 24, 25, 26, 27, 28, 29, 30, 31, 32, 33, 34, 35, 36, 37, 38, 39, 40, 41, 42, 43, 44, 45, 46, 47, 48, 49, 50, 51, 52, 53, 54, 55, 56, 57, 58, 59, 60, 61, 62, 63, 64, 65, 66, 67, 68, 69, 70, 71, 72, 73, 74, 75, 76, 77, 78, 79, 80, 81, 82, 83, 84, 85, 86, 87, 88, 89, 90, 91, 92, 93, 94, 95, 96, 97, 98, 99, 100, 101, 102, 103, 104, 105, 106, 107, 108, 109, 110, 111, 112, 113, 114, 115, 116, 117, 118, 119, 120, 121, 122, 123, 124, 125, 126, 127, 128, 129, 130, 131, 132, 133, 134, 135, 136, 137, 138, 139, 140, 141, 142, 143, 144, 145, 146, 147, 148, 149, 150, 151, 152, 153, 154, 155, 156, 157, 158, 159] (by decide +kernel) (by decide +kernel)) (goodIn_sub (fun _ h => List.mem_cons_of_mem _ (List.mem_append_left _ (List.mem_append_right _ h))) (by decide +kernel))) (goodIn_sub (fun _ h => List.mem_cons_of_mem _ (List.mem_append_right _ h)) (by decide +kernel))
set_option maxRecDepth 20000 in
theorem gL_foresee_X1_foresee : GoodIn wsL_foresee (wsV RL 58 RX1 yX1_foresee wsX1_foresee) := goodIn_app (goodIn_of _ (by decide +kernel)) ggL_foresee_X1_foresee
theorem dL_foresee_0 : decode cL_foresee 0 = .ok (.aload_n 3, 1) := by decide +kernel
theorem dL_foresee_1 : decode cL_foresee 1 = .ok (.iconst 0, 1) := by decide +kernel
theorem dL_foresee_2 : decode cL_foresee 2 = .ok (.aload_n 0, 1) := by decide +kernel
theorem dL_foresee_3 : decode cL_foresee 3 = .ok (.iload_n 1, 1) := by decide +kernel
theorem dL_foresee_4 : decode cL_foresee 4 = .ok (.iload_n 2, 1) := by decide +kernel
theorem dL_foresee_5 : decode cL_foresee 5 = .ok (.invokevirtual 58, 3) := by decide +kernel
theorem dL_foresee_8 : decode cL_foresee 8 = .ok (.i2l, 1) := by decide +kernel
theorem dL_foresee_9 : decode cL_foresee 9 = .ok (.lastore, 1) := by decide +kernel
theorem dL_foresee_10 : decode cL_foresee 10 = .ok (.goto 11, 3) := by decide +kernel
theorem dL_foresee_13 : decode cL_foresee 13 = .ok (.astore 4, 2) := by decide +kernel
theorem dL_foresee_15 : decode cL_foresee 15 = .ok (.iconst 1, 1) := by decide +kernel
theorem dL_foresee_16 : decode cL_foresee 16 = .ok (.ireturn, 1) := by decide +kernel
theorem dL_foresee_17 : decode cL_foresee 17 = .ok (.astore 4, 2) := by decide +kernel
theorem dL_foresee_19 : decode cL_foresee 19 = .ok (.iconst 2, 1) := by decide +kernel
theorem dL_foresee_20 : decode cL_foresee 20 = .ok (.ireturn, 1) := by decide +kernel
theorem dL_foresee_21 : decode cL_foresee 21 = .ok (.iconst 0, 1) := by decide +kernel
theorem dL_foresee_22 : decode cL_foresee 22 = .ok (.ireturn, 1) := by decide +kernel
set_option maxRecDepth 20000 in
theorem ggL_lives_X1_lives : GoodIn wsL_lives wsX1_lives := goodIn_ca (goodIn_r _ [6, 7, 8, 9, 10, 5, 11, 12, 13, 14, 15, 16, 17, 18, 19, 20, 21, 22, 23, 24, 25, 26, 27, 28, 29, 30, 31, 32, 33, 34, 35, 36, 37, 38, 39, 40, 41, 42, 43, 44, 45, 46, 47, 48, 49, 50, 51, 52, 53, 54, 55, 56, 57, 58, 59, 60, 61, 62, 63, 64, 65, 66, 67, 68, 69, 70, 71, 72, 73, 74, 75, 76, 77, 78, 79, 80, 81, 82, 83, 84, 85, 86, 87, 88, 89, 90, 91, 92, 93, 94, 95, 96, 97, 98, 99, 100, 101, 102, 103, 104, 105, 106, 107, 108, 109, 110, 111, 112, 113, 114, 115, 116, 117, 118, 119, 120, 121, 122, 123, 124, 125, 126, 127, 128, 129, 130, 131, 132, 133, 134, 135, 136, 137, 138, 139, 140, 141, 142, 143, 144, 145, 146, 147, 148, 149, 150] (by decide +kernel) (by decide +kernel)) (goodIn_sub (fun _ h => List.mem_cons_of_mem _ (List.mem_append_right _ h)) (by decide +kernel))
set_option maxRecDepth 20000 in
theorem gL_lives_X1_lives : GoodIn wsL_lives (wsV RL 61 RX1 yX1_lives wsX1_lives) := goodIn_app (goodIn_of _ (by decide +kernel)) ggL_lives_X1_lives
theorem dL_lives_0 : decode cL_lives 0 = .ok (.aload_n 2, 1) := by decide +kernel
theorem dL_lives_1 : decode cL_lives 1 = .ok (.iconst 0, 1) := by decide +kernel
theorem dL_lives_2 : decode cL_lives 2 = .ok (.aload_n 0, 1) := by decide +kernel
theorem dL_lives_3 : decode cL_lives 3 = .ok (.iload_n 1, 1) := by decide +kernel
theorem dL_lives_4 : decode cL_lives 4 = .ok (.invokevirtual 61, 3) := by decide +kernel
theorem dL_lives_7 : decode cL_lives 7 = .ok (.i2l, 1) := by decide +kernel
theorem dL_lives_8 : decode cL_lives 8 = .ok (.lastore, 1) := by decide +kernel
theorem dL_lives_9 : decode cL_lives 9 = .ok (.goto 6, 3) := by decide +kernel
theorem dL_lives_12 : decode cL_lives 12 = .ok (.astore_n 3, 1) := by decide +kernel
theorem dL_lives_13 : decode cL_lives 13 = .ok (.iconst 1, 1) := by decide +kernel
theorem dL_lives_14 : decode cL_lives 14 = .ok (.ireturn, 1) := by decide +kernel
theorem dL_lives_15 : decode cL_lives 15 = .ok (.iconst 0, 1) := by decide +kernel
theorem dL_lives_16 : decode cL_lives 16 = .ok (.ireturn, 1) := by decide +kernel
set_option maxRecDepth 20000 in
theorem ggL_advise_X1_advise : GoodIn wsL_advise wsX1_advise := goodIn_ca (goodIn_r _ [6, 7, 8, 9, 10, 11, 12, 13, 14, 5, 15, 16, 17, 18, 19, 20, 21, 22, 23, 24, 25, 26, 27, 28, 29, 30, 31, 32, 33, 34, 35, 36, 37, 38, 39, 40, 41, 42, 43, 44, 45, 46, 47, 48, 49, 50, 51, 52, 53, 54, 55, 56, 57, 58, 59, 60, 61, 62, 63, 64, 65, 66, 67, 68, 69, 70, 71, 72, 73, 74, 75, 76, 77, 78, 79, 80, 81, 82, 83, 84, 85, 86, 87, 88, 89, 90, 91, 92, 93, 94, 95, 96, 97, 98, 99, 100, 101, 102, 103, 104, 105, 106, 107, 108, 109, 110, 111, 112, 113, 114, 115, 116, 117, 118, 119, 120, 121, 122, 123, 124, 125, 126, 127, 128, 129, 130, 131, 132, 133, 134, 135, 136, 137, 138, 139, 140, 141, 142, 143, 144, 145, 146, 147, 148, 149, 150, 151] (by decide +kernel) (by decide +kernel)) (goodIn_sub (fun _ h => List.mem_cons_of_mem _ (List.mem_append_right _ h)) (by decide +kernel))
set_option maxRecDepth 20000 in
theorem gL_advise_X1_advise : GoodIn wsL_advise (wsV RL 64 RX1 yX1_advise wsX1_advise) := goodIn_app (goodIn_of _ (by decide +kernel)) ggL_advise_X1_advise
theorem dL_advise_0 : decode cL_advise 0 = .ok (.aload_n 2, 1) := by decide +kernel
theorem dL_advise_1 : decode cL_advise 1 = .ok (.iconst 0, 1) := by decide +kernel
theorem dL_advise_2 : decode cL_advise 2 = .ok (.aload_n 0, 1) := by decide +kernel
theorem dL_advise_3 : decode cL_advise 3 = .ok (.iload_n 1, 1) := by decide +kernel
theorem dL_advise_4 : decode cL_advise 4 = .ok (.invokevirtual 64, 3) := by decide +kernel
theorem dL_advise_7 : decode cL_advise 7 = .ok (.i2l, 1) := by decide +kernel
theorem dL_advise_8 : decode cL_advise 8 = .ok (.lastore, 1) := by decide +kernel
theorem dL_advise_9 : decode cL_advise 9 = .ok (.goto 6, 3) := by decide +kernel
theorem dL_advise_12 : decode cL_advise 12 = .ok (.astore_n 3, 1) := by decide +kernel
theorem dL_advise_13 : decode cL_advise 13 = .ok (.iconst 1, 1) := by decide +kernel
theorem dL_advise_14 : decode cL_advise 14 = .ok (.ireturn, 1) := by decide +kernel
theorem dL_advise_15 : decode cL_advise 15 = .ok (.iconst 0, 1) := by decide +kernel
theorem dL_advise_16 : decode cL_advise 16 = .ok (.ireturn, 1) := by decide +kernel

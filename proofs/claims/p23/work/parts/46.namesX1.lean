set_option maxRecDepth 20000 in
theorem ggX1_init_X0_init : GoodIn wsX1_init wsX0_init := goodIn_r _ [11, 12, 2, 3, 13, 14, 15, 16, 17, 18, 19, 20, 21, 22, 23, 24, 25, 26, 27, 28, 29, 30, 31, 32, 33, 34, 35, 36, 37, 38, 39, 40, 41] (by decide +kernel) (by decide +kernel)
set_option maxRecDepth 20000 in
theorem gX1_init_X0_init : GoodIn wsX1_init (wsX0_init) := ggX1_init_X0_init
theorem dX1_init_0 : decode cX1_init 0 = .ok (.aload_n 0, 1) := by decide +kernel
theorem dX1_init_1 : decode cX1_init 1 = .ok (.invokespecial 1, 3) := by decide +kernel
theorem dX1_init_4 : decode cX1_init 4 = .ok (.aload_n 0, 1) := by decide +kernel
theorem dX1_init_5 : decode cX1_init 5 = .ok (.new 7, 3) := by decide +kernel
theorem dX1_init_8 : decode cX1_init 8 = .ok (.dup, 1) := by decide +kernel
theorem dX1_init_9 : decode cX1_init 9 = .ok (.invokespecial 9, 3) := by decide +kernel
theorem dX1_init_12 : decode cX1_init 12 = .ok (.putfield 10, 3) := by decide +kernel
theorem dX1_init_15 : decode cX1_init 15 = .ok (.aload_n 0, 1) := by decide +kernel
theorem dX1_init_16 : decode cX1_init 16 = .ok (.new 7, 3) := by decide +kernel
theorem dX1_init_19 : decode cX1_init 19 = .ok (.dup, 1) := by decide +kernel
theorem dX1_init_20 : decode cX1_init 20 = .ok (.invokespecial 9, 3) := by decide +kernel
theorem dX1_init_23 : decode cX1_init 23 = .ok (.putfield 16, 3) := by decide +kernel
theorem dX1_init_26 : decode cX1_init 26 = .ok (.return_, 1) := by decide +kernel
set_option maxRecDepth 20000 in
theorem ggX1_come_X1_requireCage : GoodIn wsX1_come wsX1_requireCage := goodIn_ca (goodIn_r _ [10, 11, 12] (by decide +kernel) (by decide +kernel)) (goodIn_sub (fun _ h => List.mem_cons_of_mem _ (List.mem_append_right _ h)) (by decide +kernel))
set_option maxRecDepth 20000 in
theorem gX1_come_X1_requireCage : GoodIn wsX1_come (wsV RX1 19 RX1 yX1_requireCage wsX1_requireCage) := goodIn_app (goodIn_of _ (by decide +kernel)) ggX1_come_X1_requireCage
set_option maxRecDepth 20000 in
theorem ggX1_come_X1_requireNumber : GoodIn wsX1_come wsX1_requireNumber := goodIn_ca (goodIn_r _ [16, 1, 2] (by decide +kernel) (by decide +kernel)) (goodIn_sub (fun _ h => List.mem_cons_of_mem _ (List.mem_append_left _ (List.mem_append_left _ (List.mem_append_right _ h)))) (by decide +kernel))
set_option maxRecDepth 20000 in
theorem gX1_come_X1_requireNumber : GoodIn wsX1_come (wsV RX1 30 RX1 yX1_requireNumber wsX1_requireNumber) := goodIn_app (goodIn_of _ (by decide +kernel)) ggX1_come_X1_requireNumber
set_option maxRecDepth 20000 in
theorem ggX1_come_X1_requireFree : GoodIn wsX1_come wsX1_requireFree := goodIn_ca (goodIn_r _ [20, 3, 4, 5, 43, 44, 45, 46, 47, 48, 49, 50, 51, 52, 53, 54, 55, 56, 57, 58, 59] (by decide +kernel) (by decide +kernel)) (goodIn_sub (fun _ h => List.mem_cons_of_mem _ (List.mem_append_left _ (List.mem_append_right _ h))) (by decide +kernel))
set_option maxRecDepth 20000 in
theorem gX1_come_X1_requireFree : GoodIn wsX1_come (wsV RX1 33 RX1 yX1_requireFree wsX1_requireFree) := goodIn_app (goodIn_of _ (by decide +kernel)) ggX1_come_X1_requireFree
set_option maxRecDepth 20000 in
theorem ggX1_come_X0_enter : GoodIn wsX1_come wsX0_enter := goodIn_r _ [25, 26, 27, 28, 29, 30, 31, 32, 33, 34, 35, 36, 37, 38, 39, 40, 41, 24, 42, 45, 46, 47, 48, 49, 50, 51, 52, 53, 54, 55, 56, 57, 58, 59] (by decide +kernel) (by decide +kernel)
set_option maxRecDepth 20000 in
theorem gX1_come_X0_enter : GoodIn wsX1_come (wsV RX1 45 RX0 yX0_enter wsX0_enter) := goodIn_app (goodIn_of _ (by decide +kernel)) ggX1_come_X0_enter
theorem dX1_come_0 : decode cX1_come 0 = .ok (.aload_n 0, 1) := by decide +kernel
theorem dX1_come_1 : decode cX1_come 1 = .ok (.iload_n 1, 1) := by decide +kernel
theorem dX1_come_2 : decode cX1_come 2 = .ok (.invokevirtual 19, 3) := by decide +kernel
theorem dX1_come_5 : decode cX1_come 5 = .ok (.iload_n 2, 1) := by decide +kernel
theorem dX1_come_6 : decode cX1_come 6 = .ok (.ifCond .lt 9, 3) := by decide +kernel
theorem dX1_come_9 : decode cX1_come 9 = .ok (.iload_n 2, 1) := by decide +kernel
theorem dX1_come_10 : decode cX1_come 10 = .ok (.bipush 6, 2) := by decide +kernel
theorem dX1_come_12 : decode cX1_come 12 = .ok (.if_icmp .lt 13, 3) := by decide +kernel
theorem dX1_come_15 : decode cX1_come 15 = .ok (.new 23, 3) := by decide +kernel
theorem dX1_come_18 : decode cX1_come 18 = .ok (.dup, 1) := by decide +kernel
theorem dX1_come_19 : decode cX1_come 19 = .ok (.ldc 25, 2) := by decide +kernel
theorem dX1_come_21 : decode cX1_come 21 = .ok (.invokespecial 27, 3) := by decide +kernel
theorem dX1_come_24 : decode cX1_come 24 = .ok (.athrow, 1) := by decide +kernel
theorem dX1_come_25 : decode cX1_come 25 = .ok (.aload_n 0, 1) := by decide +kernel
theorem dX1_come_26 : decode cX1_come 26 = .ok (.iload_n 3, 1) := by decide +kernel
theorem dX1_come_27 : decode cX1_come 27 = .ok (.invokevirtual 30, 3) := by decide +kernel
theorem dX1_come_30 : decode cX1_come 30 = .ok (.aload_n 0, 1) := by decide +kernel
theorem dX1_come_31 : decode cX1_come 31 = .ok (.iload_n 1, 1) := by decide +kernel
theorem dX1_come_32 : decode cX1_come 32 = .ok (.invokevirtual 33, 3) := by decide +kernel
theorem dX1_come_35 : decode cX1_come 35 = .ok (.aload_n 0, 1) := by decide +kernel
theorem dX1_come_36 : decode cX1_come 36 = .ok (.getfield 10, 3) := by decide +kernel
theorem dX1_come_39 : decode cX1_come 39 = .ok (.getfield 36, 3) := by decide +kernel
theorem dX1_come_42 : decode cX1_come 42 = .ok (.bipush 60, 2) := by decide +kernel
theorem dX1_come_44 : decode cX1_come 44 = .ok (.if_icmp .lt 13, 3) := by decide +kernel
theorem dX1_come_47 : decode cX1_come 47 = .ok (.new 40, 3) := by decide +kernel
theorem dX1_come_50 : decode cX1_come 50 = .ok (.dup, 1) := by decide +kernel
theorem dX1_come_51 : decode cX1_come 51 = .ok (.ldc 42, 2) := by decide +kernel
theorem dX1_come_53 : decode cX1_come 53 = .ok (.invokespecial 44, 3) := by decide +kernel
theorem dX1_come_56 : decode cX1_come 56 = .ok (.athrow, 1) := by decide +kernel
theorem dX1_come_57 : decode cX1_come 57 = .ok (.aload_n 0, 1) := by decide +kernel
theorem dX1_come_58 : decode cX1_come 58 = .ok (.getfield 10, 3) := by decide +kernel
theorem dX1_come_61 : decode cX1_come 61 = .ok (.iload_n 1, 1) := by decide +kernel
theorem dX1_come_62 : decode cX1_come 62 = .ok (.iload_n 2, 1) := by decide +kernel
theorem dX1_come_63 : decode cX1_come 63 = .ok (.iload_n 3, 1) := by decide +kernel
theorem dX1_come_64 : decode cX1_come 64 = .ok (.iconst (-1), 1) := by decide +kernel
theorem dX1_come_65 : decode cX1_come 65 = .ok (.invokevirtual 45, 3) := by decide +kernel
theorem dX1_come_68 : decode cX1_come 68 = .ok (.ireturn, 1) := by decide +kernel
set_option maxRecDepth 20000 in
theorem ggX1_move_X1_requireRule : GoodIn wsX1_move wsX1_requireRule := goodIn_ca (goodIn_r _ [6, 7, 8, 1, 9, 10, 11, 12, 13, 14, 48, 49, 50, 51, 52, 53, 54, 55, 56, 57, 58, 59, 60, 61, 62, 63, 64] (by decide +kernel) (by decide +kernel)) (goodIn_sub (fun _ h => List.mem_cons_of_mem _ (List.mem_append_left _ (List.mem_append_right _ h))) (by decide +kernel))
set_option maxRecDepth 20000 in
theorem gX1_move_X1_requireRule : GoodIn wsX1_move (wsV RX1 49 RX1 yX1_requireRule wsX1_requireRule) := goodIn_app (goodIn_of _ (by decide +kernel)) ggX1_move_X1_requireRule
set_option maxRecDepth 20000 in
theorem ggX1_move_X1_requireCage : GoodIn wsX1_move wsX1_requireCage := goodIn_ca (goodIn_r _ [18, 7, 8] (by decide +kernel) (by decide +kernel)) (goodIn_sub (fun _ h => List.mem_cons_of_mem _ (List.mem_append_left _ (List.mem_append_right _ h))) (by decide +kernel))
set_option maxRecDepth 20000 in
theorem gX1_move_X1_requireCage : GoodIn wsX1_move (wsV RX1 19 RX1 yX1_requireCage wsX1_requireCage) := goodIn_app (goodIn_of _ (by decide +kernel)) ggX1_move_X1_requireCage
set_option maxRecDepth 20000 in
theorem ggX1_move_X1_requireThere : GoodIn wsX1_move wsX1_requireThere := goodIn_ca (goodIn_r _ [22, 23, 24, 1, 25, 26, 27, 12, 28, 14, 29, 48, 49, 50, 51, 52, 53, 54, 55, 56, 57, 58, 59, 60, 61, 62, 63, 64] (by decide +kernel) (by decide +kernel)) (goodIn_sub (fun _ h => List.mem_cons_of_mem _ (List.mem_append_right _ h)) (by decide +kernel))
set_option maxRecDepth 20000 in
theorem gX1_move_X1_requireThere : GoodIn wsX1_move (wsV RX1 52 RX1 yX1_requireThere wsX1_requireThere) := goodIn_app (goodIn_of _ (by decide +kernel)) ggX1_move_X1_requireThere
set_option maxRecDepth 20000 in
theorem ggX1_move_X1_requireFree : GoodIn wsX1_move wsX1_requireFree := goodIn_ca (goodIn_r _ [33, 23, 24, 1, 48, 49, 50, 51, 52, 53, 54, 55, 56, 57, 58, 59, 60, 61, 62, 63, 64] (by decide +kernel) (by decide +kernel)) (goodIn_sub (fun _ h => List.mem_cons_of_mem _ (List.mem_append_right _ h)) (by decide +kernel))
set_option maxRecDepth 20000 in
theorem gX1_move_X1_requireFree : GoodIn wsX1_move (wsV RX1 33 RX1 yX1_requireFree wsX1_requireFree) := goodIn_app (goodIn_of _ (by decide +kernel)) ggX1_move_X1_requireFree
set_option maxRecDepth 20000 in
theorem ggX1_move_X0_settle : GoodIn wsX1_move wsX0_settle := goodIn_r _ [37, 38, 39, 40, 26, 27, 12, 28, 14, 29, 41, 42, 43, 44, 45, 46, 47, 50, 51, 52, 53, 54, 55, 56, 57, 58, 59, 60, 61, 62, 63, 64] (by decide +kernel) (by decide +kernel)
set_option maxRecDepth 20000 in
theorem gX1_move_X0_settle : GoodIn wsX1_move (wsV RX1 59 RX0 yX0_settle wsX0_settle) := goodIn_app (goodIn_of _ (by decide +kernel)) ggX1_move_X0_settle
theorem dX1_move_0 : decode cX1_move 0 = .ok (.aload_n 0, 1) := by decide +kernel
theorem dX1_move_1 : decode cX1_move 1 = .ok (.iload_n 1, 1) := by decide +kernel
theorem dX1_move_2 : decode cX1_move 2 = .ok (.invokevirtual 49, 3) := by decide +kernel
theorem dX1_move_5 : decode cX1_move 5 = .ok (.aload_n 0, 1) := by decide +kernel
theorem dX1_move_6 : decode cX1_move 6 = .ok (.iload_n 2, 1) := by decide +kernel
theorem dX1_move_7 : decode cX1_move 7 = .ok (.invokevirtual 19, 3) := by decide +kernel
theorem dX1_move_10 : decode cX1_move 10 = .ok (.aload_n 0, 1) := by decide +kernel
theorem dX1_move_11 : decode cX1_move 11 = .ok (.iload_n 1, 1) := by decide +kernel
theorem dX1_move_12 : decode cX1_move 12 = .ok (.invokevirtual 52, 3) := by decide +kernel
theorem dX1_move_15 : decode cX1_move 15 = .ok (.aload_n 0, 1) := by decide +kernel
theorem dX1_move_16 : decode cX1_move 16 = .ok (.iload_n 2, 1) := by decide +kernel
theorem dX1_move_17 : decode cX1_move 17 = .ok (.invokevirtual 33, 3) := by decide +kernel
theorem dX1_move_20 : decode cX1_move 20 = .ok (.aload_n 0, 1) := by decide +kernel
theorem dX1_move_21 : decode cX1_move 21 = .ok (.getfield 10, 3) := by decide +kernel
theorem dX1_move_24 : decode cX1_move 24 = .ok (.getfield 55, 3) := by decide +kernel
theorem dX1_move_27 : decode cX1_move 27 = .ok (.iload_n 1, 1) := by decide +kernel
theorem dX1_move_28 : decode cX1_move 28 = .ok (.iaload, 1) := by decide +kernel
theorem dX1_move_29 : decode cX1_move 29 = .ok (.istore_n 3, 1) := by decide +kernel
theorem dX1_move_30 : decode cX1_move 30 = .ok (.aload_n 0, 1) := by decide +kernel
theorem dX1_move_31 : decode cX1_move 31 = .ok (.getfield 10, 3) := by decide +kernel
theorem dX1_move_34 : decode cX1_move 34 = .ok (.iload_n 1, 1) := by decide +kernel
theorem dX1_move_35 : decode cX1_move 35 = .ok (.iload_n 2, 1) := by decide +kernel
theorem dX1_move_36 : decode cX1_move 36 = .ok (.invokevirtual 59, 3) := by decide +kernel
theorem dX1_move_39 : decode cX1_move 39 = .ok (.iload_n 3, 1) := by decide +kernel
theorem dX1_move_40 : decode cX1_move 40 = .ok (.ireturn, 1) := by decide +kernel
set_option maxRecDepth 20000 in
theorem ggX1_alter_X1_requireRule : GoodIn wsX1_alter wsX1_requireRule := goodIn_ca (goodIn_r _ [6, 7, 8, 1, 9, 10, 11, 12, 13, 14, 32, 33, 34, 35, 36, 37, 38, 39, 40, 41, 42, 43, 44, 45, 46, 47, 48] (by decide +kernel) (by decide +kernel)) (goodIn_sub (fun _ h => List.mem_cons_of_mem _ (List.mem_append_left _ (List.mem_append_left _ (List.mem_append_right _ h)))) (by decide +kernel))
set_option maxRecDepth 20000 in
theorem gX1_alter_X1_requireRule : GoodIn wsX1_alter (wsV RX1 49 RX1 yX1_requireRule wsX1_requireRule) := goodIn_app (goodIn_of _ (by decide +kernel)) ggX1_alter_X1_requireRule
set_option maxRecDepth 20000 in
theorem ggX1_alter_X1_requireNumber : GoodIn wsX1_alter wsX1_requireNumber := goodIn_ca (goodIn_r _ [18, 19, 20] (by decide +kernel) (by decide +kernel)) (goodIn_sub (fun _ h => List.mem_cons_of_mem _ (List.mem_append_left _ (List.mem_append_right _ h))) (by decide +kernel))
set_option maxRecDepth 20000 in
theorem gX1_alter_X1_requireNumber : GoodIn wsX1_alter (wsV RX1 30 RX1 yX1_requireNumber wsX1_requireNumber) := goodIn_app (goodIn_of _ (by decide +kernel)) ggX1_alter_X1_requireNumber
set_option maxRecDepth 20000 in
theorem ggX1_alter_X1_requireThere : GoodIn wsX1_alter wsX1_requireThere := goodIn_ca (goodIn_r _ [24, 25, 26, 1, 27, 28, 29, 12, 30, 14, 31, 32, 33, 34, 35, 36, 37, 38, 39, 40, 41, 42, 43, 44, 45, 46, 47, 48] (by decide +kernel) (by decide +kernel)) (goodIn_sub (fun _ h => List.mem_cons_of_mem _ (List.mem_append_right _ h)) (by decide +kernel))
set_option maxRecDepth 20000 in
theorem gX1_alter_X1_requireThere : GoodIn wsX1_alter (wsV RX1 52 RX1 yX1_requireThere wsX1_requireThere) := goodIn_app (goodIn_of _ (by decide +kernel)) ggX1_alter_X1_requireThere
theorem dX1_alter_0 : decode cX1_alter 0 = .ok (.aload_n 0, 1) := by decide +kernel
theorem dX1_alter_1 : decode cX1_alter 1 = .ok (.iload_n 1, 1) := by decide +kernel
theorem dX1_alter_2 : decode cX1_alter 2 = .ok (.invokevirtual 49, 3) := by decide +kernel
theorem dX1_alter_5 : decode cX1_alter 5 = .ok (.aload_n 0, 1) := by decide +kernel
theorem dX1_alter_6 : decode cX1_alter 6 = .ok (.iload_n 2, 1) := by decide +kernel
theorem dX1_alter_7 : decode cX1_alter 7 = .ok (.invokevirtual 30, 3) := by decide +kernel
theorem dX1_alter_10 : decode cX1_alter 10 = .ok (.aload_n 0, 1) := by decide +kernel
theorem dX1_alter_11 : decode cX1_alter 11 = .ok (.iload_n 1, 1) := by decide +kernel
theorem dX1_alter_12 : decode cX1_alter 12 = .ok (.invokevirtual 52, 3) := by decide +kernel
theorem dX1_alter_15 : decode cX1_alter 15 = .ok (.aload_n 0, 1) := by decide +kernel
theorem dX1_alter_16 : decode cX1_alter 16 = .ok (.getfield 10, 3) := by decide +kernel
theorem dX1_alter_19 : decode cX1_alter 19 = .ok (.getfield 66, 3) := by decide +kernel
theorem dX1_alter_22 : decode cX1_alter 22 = .ok (.iload_n 1, 1) := by decide +kernel
theorem dX1_alter_23 : decode cX1_alter 23 = .ok (.iaload, 1) := by decide +kernel
theorem dX1_alter_24 : decode cX1_alter 24 = .ok (.istore_n 3, 1) := by decide +kernel
theorem dX1_alter_25 : decode cX1_alter 25 = .ok (.aload_n 0, 1) := by decide +kernel
theorem dX1_alter_26 : decode cX1_alter 26 = .ok (.getfield 10, 3) := by decide +kernel
theorem dX1_alter_29 : decode cX1_alter 29 = .ok (.getfield 66, 3) := by decide +kernel
theorem dX1_alter_32 : decode cX1_alter 32 = .ok (.iload_n 1, 1) := by decide +kernel
theorem dX1_alter_33 : decode cX1_alter 33 = .ok (.iload_n 2, 1) := by decide +kernel
theorem dX1_alter_34 : decode cX1_alter 34 = .ok (.iastore, 1) := by decide +kernel
theorem dX1_alter_35 : decode cX1_alter 35 = .ok (.iload_n 3, 1) := by decide +kernel
theorem dX1_alter_36 : decode cX1_alter 36 = .ok (.ireturn, 1) := by decide +kernel
set_option maxRecDepth 20000 in
theorem ggX1_rule_X1_requireRule : GoodIn wsX1_rule wsX1_requireRule := goodIn_ca (goodIn_r _ [6, 7, 8, 1, 9, 10, 11, 12, 13, 14, 39, 40, 41, 42, 43, 44, 45, 46, 47, 48, 49, 50, 51, 52, 53, 54, 55] (by decide +kernel) (by decide +kernel)) (goodIn_sub (fun _ h => List.mem_cons_of_mem _ (List.mem_append_right _ h)) (by decide +kernel))
set_option maxRecDepth 20000 in
theorem gX1_rule_X1_requireRule : GoodIn wsX1_rule (wsV RX1 49 RX1 yX1_requireRule wsX1_requireRule) := goodIn_app (goodIn_of _ (by decide +kernel)) ggX1_rule_X1_requireRule
set_option maxRecDepth 20000 in
theorem ggX1_rule_X1_requireAnswer : GoodIn wsX1_rule wsX1_requireAnswer := goodIn_ca (goodIn_r _ [18, 7, 8] (by decide +kernel) (by decide +kernel)) (goodIn_sub (fun _ h => List.mem_cons_of_mem _ (List.mem_append_right _ h)) (by decide +kernel))
set_option maxRecDepth 20000 in
theorem gX1_rule_X1_requireAnswer : GoodIn wsX1_rule (wsV RX1 75 RX1 yX1_requireAnswer wsX1_requireAnswer) := goodIn_app (goodIn_of _ (by decide +kernel)) ggX1_rule_X1_requireAnswer
set_option maxRecDepth 20000 in
theorem ggX1_rule_X0_aboutRule : GoodIn wsX1_rule wsX0_aboutRule := goodIn_r _ [22, 23, 24, 25, 26, 27, 28, 29, 30, 31, 32, 33, 34, 10, 11, 12, 13, 14, 35, 36, 37, 38, 41, 42, 43, 44, 45, 46, 47, 48, 49, 50, 51, 52, 53, 54, 55] (by decide +kernel) (by decide +kernel)
set_option maxRecDepth 20000 in
theorem gX1_rule_X0_aboutRule : GoodIn wsX1_rule (wsV RX1 78 RX0 yX0_aboutRule wsX0_aboutRule) := goodIn_app (goodIn_of _ (by decide +kernel)) ggX1_rule_X0_aboutRule
theorem dX1_rule_0 : decode cX1_rule 0 = .ok (.aload_n 0, 1) := by decide +kernel
theorem dX1_rule_1 : decode cX1_rule 1 = .ok (.iload_n 1, 1) := by decide +kernel
theorem dX1_rule_2 : decode cX1_rule 2 = .ok (.invokevirtual 49, 3) := by decide +kernel
theorem dX1_rule_5 : decode cX1_rule 5 = .ok (.aload_n 0, 1) := by decide +kernel
theorem dX1_rule_6 : decode cX1_rule 6 = .ok (.iload_n 2, 1) := by decide +kernel
theorem dX1_rule_7 : decode cX1_rule 7 = .ok (.bipush 12, 2) := by decide +kernel
theorem dX1_rule_9 : decode cX1_rule 9 = .ok (.invokevirtual 75, 3) := by decide +kernel
theorem dX1_rule_12 : decode cX1_rule 12 = .ok (.aload_n 0, 1) := by decide +kernel
theorem dX1_rule_13 : decode cX1_rule 13 = .ok (.getfield 10, 3) := by decide +kernel
theorem dX1_rule_16 : decode cX1_rule 16 = .ok (.iload_n 1, 1) := by decide +kernel
theorem dX1_rule_17 : decode cX1_rule 17 = .ok (.iload_n 2, 1) := by decide +kernel
theorem dX1_rule_18 : decode cX1_rule 18 = .ok (.invokevirtual 78, 3) := by decide +kernel
theorem dX1_rule_21 : decode cX1_rule 21 = .ok (.ireturn, 1) := by decide +kernel
set_option maxRecDepth 20000 in
theorem ggX1_cage_X1_requireCage : GoodIn wsX1_cage wsX1_requireCage := goodIn_ca (goodIn_r _ [6, 7, 8] (by decide +kernel) (by decide +kernel)) (goodIn_sub (fun _ h => List.mem_cons_of_mem _ (List.mem_append_right _ h)) (by decide +kernel))
set_option maxRecDepth 20000 in
theorem gX1_cage_X1_requireCage : GoodIn wsX1_cage (wsV RX1 19 RX1 yX1_requireCage wsX1_requireCage) := goodIn_app (goodIn_of _ (by decide +kernel)) ggX1_cage_X1_requireCage
theorem dX1_cage_0 : decode cX1_cage 0 = .ok (.aload_n 0, 1) := by decide +kernel
theorem dX1_cage_1 : decode cX1_cage 1 = .ok (.iload_n 1, 1) := by decide +kernel
theorem dX1_cage_2 : decode cX1_cage 2 = .ok (.invokevirtual 19, 3) := by decide +kernel
theorem dX1_cage_5 : decode cX1_cage 5 = .ok (.aload_n 0, 1) := by decide +kernel
theorem dX1_cage_6 : decode cX1_cage 6 = .ok (.getfield 10, 3) := by decide +kernel
theorem dX1_cage_9 : decode cX1_cage 9 = .ok (.getfield 82, 3) := by decide +kernel
theorem dX1_cage_12 : decode cX1_cage 12 = .ok (.iload_n 1, 1) := by decide +kernel
theorem dX1_cage_13 : decode cX1_cage 13 = .ok (.iaload, 1) := by decide +kernel
theorem dX1_cage_14 : decode cX1_cage 14 = .ok (.ireturn, 1) := by decide +kernel
set_option maxRecDepth 20000 in
theorem ggX1_count_X1_requireAnswer : GoodIn wsX1_count wsX1_requireAnswer := goodIn_ca (goodIn_r _ [6, 7, 8] (by decide +kernel) (by decide +kernel)) (goodIn_sub (fun _ h => List.mem_cons_of_mem _ (List.mem_append_right _ h)) (by decide +kernel))
set_option maxRecDepth 20000 in
theorem gX1_count_X1_requireAnswer : GoodIn wsX1_count (wsV RX1 75 RX1 yX1_requireAnswer wsX1_requireAnswer) := goodIn_app (goodIn_of _ (by decide +kernel)) ggX1_count_X1_requireAnswer
set_option maxRecDepth 20000 in
theorem ggX1_count_X0_counted : GoodIn wsX1_count wsX0_counted := goodIn_r _ [13, 14, 15, 16, 17, 18, 12, 19, 20, 21, 22, 23, 24, 25, 26, 27, 28, 29, 30, 31, 32, 33, 34, 35, 36, 37, 38, 39, 40, 41, 44, 45, 46, 47, 48, 49, 50, 51, 52, 53, 54, 55, 56, 57, 58] (by decide +kernel) (by decide +kernel)
set_option maxRecDepth 20000 in
theorem gX1_count_X0_counted : GoodIn wsX1_count (wsV RX1 85 RX0 yX0_counted wsX0_counted) := goodIn_app (goodIn_of _ (by decide +kernel)) ggX1_count_X0_counted
theorem dX1_count_0 : decode cX1_count 0 = .ok (.aload_n 0, 1) := by decide +kernel
theorem dX1_count_1 : decode cX1_count 1 = .ok (.iload_n 1, 1) := by decide +kernel
theorem dX1_count_2 : decode cX1_count 2 = .ok (.bipush 9, 2) := by decide +kernel
theorem dX1_count_4 : decode cX1_count 4 = .ok (.invokevirtual 75, 3) := by decide +kernel
theorem dX1_count_7 : decode cX1_count 7 = .ok (.aload_n 0, 1) := by decide +kernel
theorem dX1_count_8 : decode cX1_count 8 = .ok (.getfield 10, 3) := by decide +kernel
theorem dX1_count_11 : decode cX1_count 11 = .ok (.iload_n 1, 1) := by decide +kernel
theorem dX1_count_12 : decode cX1_count 12 = .ok (.invokevirtual 85, 3) := by decide +kernel
theorem dX1_count_15 : decode cX1_count 15 = .ok (.ireturn, 1) := by decide +kernel
set_option maxRecDepth 20000 in
theorem ggX1_may_X1_requireRule : GoodIn wsX1_may wsX1_requireRule := goodIn_ca (goodIn_r _ [6, 7, 8, 1, 9, 10, 11, 12, 13, 14, 33, 34, 35, 36, 37, 38, 39, 40, 41, 42, 43, 44, 45, 46, 47, 48, 49] (by decide +kernel) (by decide +kernel)) (goodIn_sub (fun _ h => List.mem_cons_of_mem _ (List.mem_append_right _ h)) (by decide +kernel))
set_option maxRecDepth 20000 in
theorem gX1_may_X1_requireRule : GoodIn wsX1_may (wsV RX1 49 RX1 yX1_requireRule wsX1_requireRule) := goodIn_app (goodIn_of _ (by decide +kernel)) ggX1_may_X1_requireRule
set_option maxRecDepth 20000 in
theorem ggX1_may_X0_mayEat : GoodIn wsX1_may wsX0_mayEat := goodIn_r _ [18, 19, 20, 21, 22, 23, 24, 25, 26, 12, 27, 14, 28, 29, 30, 31, 32, 35, 36, 37, 38, 39, 40, 41, 42, 43, 44, 45, 46, 47, 48, 49] (by decide +kernel) (by decide +kernel)
set_option maxRecDepth 20000 in
theorem gX1_may_X0_mayEat : GoodIn wsX1_may (wsV RX1 89 RX0 yX0_mayEat wsX0_mayEat) := goodIn_app (goodIn_of _ (by decide +kernel)) ggX1_may_X0_mayEat
theorem dX1_may_0 : decode cX1_may 0 = .ok (.aload_n 0, 1) := by decide +kernel
theorem dX1_may_1 : decode cX1_may 1 = .ok (.iload_n 1, 1) := by decide +kernel
theorem dX1_may_2 : decode cX1_may 2 = .ok (.invokevirtual 49, 3) := by decide +kernel
theorem dX1_may_5 : decode cX1_may 5 = .ok (.aload_n 0, 1) := by decide +kernel
theorem dX1_may_6 : decode cX1_may 6 = .ok (.iload_n 2, 1) := by decide +kernel
theorem dX1_may_7 : decode cX1_may 7 = .ok (.invokevirtual 49, 3) := by decide +kernel
theorem dX1_may_10 : decode cX1_may 10 = .ok (.aload_n 0, 1) := by decide +kernel
theorem dX1_may_11 : decode cX1_may 11 = .ok (.getfield 10, 3) := by decide +kernel
theorem dX1_may_14 : decode cX1_may 14 = .ok (.iload_n 1, 1) := by decide +kernel
theorem dX1_may_15 : decode cX1_may 15 = .ok (.iload_n 2, 1) := by decide +kernel
theorem dX1_may_16 : decode cX1_may 16 = .ok (.invokevirtual 89, 3) := by decide +kernel
theorem dX1_may_19 : decode cX1_may 19 = .ok (.ireturn, 1) := by decide +kernel
set_option maxRecDepth 20000 in
theorem ggX1_prey_X1_requireRule : GoodIn wsX1_prey wsX1_requireRule := goodIn_ca (goodIn_r _ [6, 7, 8, 1, 9, 10, 11, 12, 13, 14, 47, 48, 49, 50, 51, 52, 53, 54, 55, 56, 57, 58, 59, 60, 61, 62, 63] (by decide +kernel) (by decide +kernel)) (goodIn_sub (fun _ h => List.mem_cons_of_mem _ (List.mem_append_right _ h)) (by decide +kernel))
set_option maxRecDepth 20000 in
theorem gX1_prey_X1_requireRule : GoodIn wsX1_prey (wsV RX1 49 RX1 yX1_requireRule wsX1_requireRule) := goodIn_app (goodIn_of _ (by decide +kernel)) ggX1_prey_X1_requireRule
set_option maxRecDepth 20000 in
theorem ggX1_prey_X0_preyOf : GoodIn wsX1_prey wsX0_preyOf := goodIn_r _ [18, 19, 20, 21, 22, 12, 23, 14, 24, 25, 26, 27, 28, 29, 30, 31, 32, 33, 34, 35, 36, 37, 38, 39, 40, 41, 42, 43, 44, 45, 46, 49, 50, 51, 52, 53, 54, 55, 56, 57, 58, 59, 60, 61, 62, 63] (by decide +kernel) (by decide +kernel)
set_option maxRecDepth 20000 in
theorem gX1_prey_X0_preyOf : GoodIn wsX1_prey (wsV RX1 93 RX0 yX0_preyOf wsX0_preyOf) := goodIn_app (goodIn_of _ (by decide +kernel)) ggX1_prey_X0_preyOf
theorem dX1_prey_0 : decode cX1_prey 0 = .ok (.aload_n 0, 1) := by decide +kernel
theorem dX1_prey_1 : decode cX1_prey 1 = .ok (.iload_n 1, 1) := by decide +kernel
theorem dX1_prey_2 : decode cX1_prey 2 = .ok (.invokevirtual 49, 3) := by decide +kernel
theorem dX1_prey_5 : decode cX1_prey 5 = .ok (.aload_n 0, 1) := by decide +kernel
theorem dX1_prey_6 : decode cX1_prey 6 = .ok (.getfield 10, 3) := by decide +kernel
theorem dX1_prey_9 : decode cX1_prey 9 = .ok (.iload_n 1, 1) := by decide +kernel
theorem dX1_prey_10 : decode cX1_prey 10 = .ok (.invokevirtual 93, 3) := by decide +kernel
theorem dX1_prey_13 : decode cX1_prey 13 = .ok (.ireturn, 1) := by decide +kernel
set_option maxRecDepth 20000 in
theorem ggX1_hunters_X1_requireRule : GoodIn wsX1_hunters wsX1_requireRule := goodIn_ca (goodIn_r _ [6, 7, 8, 1, 9, 10, 11, 12, 13, 14, 47, 48, 49, 50, 51, 52, 53, 54, 55, 56, 57, 58, 59, 60, 61, 62, 63] (by decide +kernel) (by decide +kernel)) (goodIn_sub (fun _ h => List.mem_cons_of_mem _ (List.mem_append_right _ h)) (by decide +kernel))
set_option maxRecDepth 20000 in
theorem gX1_hunters_X1_requireRule : GoodIn wsX1_hunters (wsV RX1 49 RX1 yX1_requireRule wsX1_requireRule) := goodIn_app (goodIn_of _ (by decide +kernel)) ggX1_hunters_X1_requireRule
set_option maxRecDepth 20000 in
theorem ggX1_hunters_X0_preyOf : GoodIn wsX1_hunters wsX0_preyOf := goodIn_r _ [18, 19, 20, 21, 22, 12, 23, 14, 24, 25, 26, 27, 28, 29, 30, 31, 32, 33, 34, 35, 36, 37, 38, 39, 40, 41, 42, 43, 44, 45, 46, 49, 50, 51, 52, 53, 54, 55, 56, 57, 58, 59, 60, 61, 62, 63] (by decide +kernel) (by decide +kernel)
set_option maxRecDepth 20000 in
theorem gX1_hunters_X0_preyOf : GoodIn wsX1_hunters (wsV RX1 93 RX0 yX0_preyOf wsX0_preyOf) := goodIn_app (goodIn_of _ (by decide +kernel)) ggX1_hunters_X0_preyOf
theorem dX1_hunters_0 : decode cX1_hunters 0 = .ok (.aload_n 0, 1) := by decide +kernel
theorem dX1_hunters_1 : decode cX1_hunters 1 = .ok (.iload_n 1, 1) := by decide +kernel
theorem dX1_hunters_2 : decode cX1_hunters 2 = .ok (.invokevirtual 49, 3) := by decide +kernel
theorem dX1_hunters_5 : decode cX1_hunters 5 = .ok (.iconst 0, 1) := by decide +kernel
theorem dX1_hunters_6 : decode cX1_hunters 6 = .ok (.istore_n 2, 1) := by decide +kernel
theorem dX1_hunters_7 : decode cX1_hunters 7 = .ok (.iconst 0, 1) := by decide +kernel
theorem dX1_hunters_8 : decode cX1_hunters 8 = .ok (.istore_n 3, 1) := by decide +kernel
theorem dX1_hunters_9 : decode cX1_hunters 9 = .ok (.iload_n 3, 1) := by decide +kernel
theorem dX1_hunters_10 : decode cX1_hunters 10 = .ok (.aload_n 0, 1) := by decide +kernel
theorem dX1_hunters_11 : decode cX1_hunters 11 = .ok (.getfield 10, 3) := by decide +kernel
theorem dX1_hunters_14 : decode cX1_hunters 14 = .ok (.getfield 36, 3) := by decide +kernel
theorem dX1_hunters_17 : decode cX1_hunters 17 = .ok (.if_icmp .ge 24, 3) := by decide +kernel
theorem dX1_hunters_20 : decode cX1_hunters 20 = .ok (.aload_n 0, 1) := by decide +kernel
theorem dX1_hunters_21 : decode cX1_hunters 21 = .ok (.getfield 10, 3) := by decide +kernel
theorem dX1_hunters_24 : decode cX1_hunters 24 = .ok (.iload_n 3, 1) := by decide +kernel
theorem dX1_hunters_25 : decode cX1_hunters 25 = .ok (.invokevirtual 93, 3) := by decide +kernel
theorem dX1_hunters_28 : decode cX1_hunters 28 = .ok (.iload_n 1, 1) := by decide +kernel
theorem dX1_hunters_29 : decode cX1_hunters 29 = .ok (.if_icmp .ne 6, 3) := by decide +kernel
theorem dX1_hunters_32 : decode cX1_hunters 32 = .ok (.iinc 2 1, 3) := by decide +kernel
theorem dX1_hunters_35 : decode cX1_hunters 35 = .ok (.iinc 3 1, 3) := by decide +kernel
theorem dX1_hunters_38 : decode cX1_hunters 38 = .ok (.goto (-29), 3) := by decide +kernel
theorem dX1_hunters_41 : decode cX1_hunters 41 = .ok (.iload_n 2, 1) := by decide +kernel
theorem dX1_hunters_42 : decode cX1_hunters 42 = .ok (.ireturn, 1) := by decide +kernel
set_option maxRecDepth 20000 in
theorem ggX1_chain_X1_requireRule : GoodIn wsX1_chain wsX1_requireRule := goodIn_ca (goodIn_r _ [6, 7, 8, 1, 9, 10, 11, 12, 13, 14, 51, 52, 53, 54, 55, 56, 57, 58, 59, 60, 61, 62, 63, 64, 65, 66, 67] (by decide +kernel) (by decide +kernel)) (goodIn_sub (fun _ h => List.mem_cons_of_mem _ (List.mem_append_right _ h)) (by decide +kernel))
set_option maxRecDepth 20000 in
theorem gX1_chain_X1_requireRule : GoodIn wsX1_chain (wsV RX1 49 RX1 yX1_requireRule wsX1_requireRule) := goodIn_app (goodIn_of _ (by decide +kernel)) ggX1_chain_X1_requireRule
set_option maxRecDepth 20000 in
theorem ggX1_chain_X0_rowFrom : GoodIn wsX1_chain wsX0_rowFrom := goodIn_r _ [18, 19, 20, 21, 12, 22, 14, 23, 24, 25, 26, 27, 28, 29, 30, 31, 32, 33, 34, 35, 36, 37, 38, 39, 40, 41, 42, 43, 44, 45, 46, 47, 48, 49, 50, 53, 54, 55, 56, 57, 58, 59, 60, 61, 62, 63, 64, 65, 66, 67] (by decide +kernel) (by decide +kernel)
set_option maxRecDepth 20000 in
theorem gX1_chain_X0_rowFrom : GoodIn wsX1_chain (wsV RX1 96 RX0 yX0_rowFrom wsX0_rowFrom) := goodIn_app (goodIn_of _ (by decide +kernel)) ggX1_chain_X0_rowFrom
theorem dX1_chain_0 : decode cX1_chain 0 = .ok (.aload_n 0, 1) := by decide +kernel
theorem dX1_chain_1 : decode cX1_chain 1 = .ok (.iload_n 1, 1) := by decide +kernel
theorem dX1_chain_2 : decode cX1_chain 2 = .ok (.invokevirtual 49, 3) := by decide +kernel
theorem dX1_chain_5 : decode cX1_chain 5 = .ok (.aload_n 0, 1) := by decide +kernel
theorem dX1_chain_6 : decode cX1_chain 6 = .ok (.getfield 10, 3) := by decide +kernel
theorem dX1_chain_9 : decode cX1_chain 9 = .ok (.iload_n 1, 1) := by decide +kernel
theorem dX1_chain_10 : decode cX1_chain 10 = .ok (.invokevirtual 96, 3) := by decide +kernel
theorem dX1_chain_13 : decode cX1_chain 13 = .ok (.ireturn, 1) := by decide +kernel
set_option maxRecDepth 20000 in
theorem ggX1_pass_X1_requireDays : GoodIn wsX1_pass wsX1_requireDays := goodIn_ca (goodIn_r _ [6, 7, 8] (by decide +kernel) (by decide +kernel)) (goodIn_sub (fun _ h => List.mem_cons_of_mem _ (List.mem_append_right _ h)) (by decide +kernel))
set_option maxRecDepth 20000 in
theorem gX1_pass_X1_requireDays : GoodIn wsX1_pass (wsV RX1 99 RX1 yX1_requireDays wsX1_requireDays) := goodIn_app (goodIn_of _ (by decide +kernel)) ggX1_pass_X1_requireDays
set_option maxRecDepth 20000 in
theorem ggX1_pass_X0_withFate : GoodIn wsX1_pass wsX0_withFate := goodIn_r _ [13, 14, 15, 114, 115, 116, 117, 118, 119, 120, 121, 122, 123, 124, 125, 126, 127, 128] (by decide +kernel) (by decide +kernel)
set_option maxRecDepth 20000 in
theorem gX1_pass_X0_withFate : GoodIn wsX1_pass (wsV RX1 102 RX0 yX0_withFate wsX0_withFate) := goodIn_app (goodIn_of _ (by decide +kernel)) ggX1_pass_X0_withFate
set_option maxRecDepth 20000 in
theorem ggX1_pass_X0_liveDays : GoodIn wsX1_pass wsX0_liveDays := goodIn_r _ [19, 20, 21, 22, 12, 23, 14, 24, 25, 26, 27, 28, 29, 30, 31, 32, 33, 34, 35, 36, 37, 15, 38, 39, 40, 41, 42, 43, 44, 45, 46, 47, 48, 49, 50, 51, 52, 53, 54, 55, 56, 57, 58, 59, 60, 61, 62, 63, 64, 65, 66, 67, 68, 69, 70, 71, 72, 73, 74, 75, 76, 77, 78, 79, 80, 81, 82, 83, 84, 85, 86, 87, 88, 89, 90, 91, 92, 93, 94, 95, 96, 97, 98, 99, 100, 101, 102, 103, 104, 105, 106, 107, 108, 109, 110, 111, 114, 115, 116, 117, 118, 119, 120, 121, 122, 123, 124, 125, 126, 127, 128] (by decide +kernel) (by decide +kernel)
set_option maxRecDepth 20000 in
theorem gX1_pass_X0_liveDays : GoodIn wsX1_pass (wsV RX1 105 RX0 yX0_liveDays wsX0_liveDays) := goodIn_app (goodIn_of _ (by decide +kernel)) ggX1_pass_X0_liveDays
theorem dX1_pass_0 : decode cX1_pass 0 = .ok (.aload_n 0, 1) := by decide +kernel
theorem dX1_pass_1 : decode cX1_pass 1 = .ok (.iload_n 1, 1) := by decide +kernel
theorem dX1_pass_2 : decode cX1_pass 2 = .ok (.invokevirtual 99, 3) := by decide +kernel
theorem dX1_pass_5 : decode cX1_pass 5 = .ok (.aload_n 0, 1) := by decide +kernel
theorem dX1_pass_6 : decode cX1_pass 6 = .ok (.getfield 10, 3) := by decide +kernel
theorem dX1_pass_9 : decode cX1_pass 9 = .ok (.getfield 36, 3) := by decide +kernel
theorem dX1_pass_12 : decode cX1_pass 12 = .ok (.aload_n 0, 1) := by decide +kernel
theorem dX1_pass_13 : decode cX1_pass 13 = .ok (.getfield 10, 3) := by decide +kernel
theorem dX1_pass_16 : decode cX1_pass 16 = .ok (.iconst 0, 1) := by decide +kernel
theorem dX1_pass_17 : decode cX1_pass 17 = .ok (.invokevirtual 102, 3) := by decide +kernel
theorem dX1_pass_20 : decode cX1_pass 20 = .ok (.isub, 1) := by decide +kernel
theorem dX1_pass_21 : decode cX1_pass 21 = .ok (.istore_n 2, 1) := by decide +kernel
theorem dX1_pass_22 : decode cX1_pass 22 = .ok (.aload_n 0, 1) := by decide +kernel
theorem dX1_pass_23 : decode cX1_pass 23 = .ok (.getfield 10, 3) := by decide +kernel
theorem dX1_pass_26 : decode cX1_pass 26 = .ok (.iload_n 1, 1) := by decide +kernel
theorem dX1_pass_27 : decode cX1_pass 27 = .ok (.invokevirtual 105, 3) := by decide +kernel
theorem dX1_pass_30 : decode cX1_pass 30 = .ok (.aload_n 0, 1) := by decide +kernel
theorem dX1_pass_31 : decode cX1_pass 31 = .ok (.getfield 10, 3) := by decide +kernel
theorem dX1_pass_34 : decode cX1_pass 34 = .ok (.getfield 36, 3) := by decide +kernel
theorem dX1_pass_37 : decode cX1_pass 37 = .ok (.aload_n 0, 1) := by decide +kernel
theorem dX1_pass_38 : decode cX1_pass 38 = .ok (.getfield 10, 3) := by decide +kernel
theorem dX1_pass_41 : decode cX1_pass 41 = .ok (.iconst 0, 1) := by decide +kernel
theorem dX1_pass_42 : decode cX1_pass 42 = .ok (.invokevirtual 102, 3) := by decide +kernel
theorem dX1_pass_45 : decode cX1_pass 45 = .ok (.isub, 1) := by decide +kernel
theorem dX1_pass_46 : decode cX1_pass 46 = .ok (.iload_n 2, 1) := by decide +kernel
theorem dX1_pass_47 : decode cX1_pass 47 = .ok (.isub, 1) := by decide +kernel
theorem dX1_pass_48 : decode cX1_pass 48 = .ok (.ireturn, 1) := by decide +kernel
set_option maxRecDepth 20000 in
theorem ggX1_foresee_X1_requireDays : GoodIn wsX1_foresee wsX1_requireDays := goodIn_ca (goodIn_r _ [7, 8, 9] (by decide +kernel) (by decide +kernel)) (goodIn_sub (fun _ h => List.mem_cons_of_mem _ (List.mem_append_left _ (List.mem_append_right _ h))) (by decide +kernel))
set_option maxRecDepth 20000 in
theorem gX1_foresee_X1_requireDays : GoodIn wsX1_foresee (wsV RX1 99 RX1 yX1_requireDays wsX1_requireDays) := goodIn_app (goodIn_of _ (by decide +kernel)) ggX1_foresee_X1_requireDays
set_option maxRecDepth 20000 in
theorem ggX1_foresee_X1_requireAnswer : GoodIn wsX1_foresee wsX1_requireAnswer := goodIn_ca (goodIn_r _ [13, 14, 15] (by decide +kernel) (by decide +kernel)) (goodIn_sub (fun _ h => List.mem_cons_of_mem _ (List.mem_append_right _ h)) (by decide +kernel))
set_option maxRecDepth 20000 in
theorem gX1_foresee_X1_requireAnswer : GoodIn wsX1_foresee (wsV RX1 75 RX1 yX1_requireAnswer wsX1_requireAnswer) := goodIn_app (goodIn_of _ (by decide +kernel)) ggX1_foresee_X1_requireAnswer
set_option maxRecDepth 20000 in
theorem ggX1_foresee_X0_copyFrom : GoodIn wsX1_foresee wsX0_copyFrom := goodIn_r _ [20, 21, 22, 23, 24, 25, 26, 27, 28, 29, 30, 31, 32, 33, 34, 35, 36, 37, 19, 38, 39, 40, 41, 42, 43, 44, 45, 46, 139, 140, 141, 142, 143, 144, 145, 146, 147, 148, 149, 150, 151, 152, 153] (by decide +kernel) (by decide +kernel)
set_option maxRecDepth 20000 in
theorem gX1_foresee_X0_copyFrom : GoodIn wsX1_foresee (wsV RX1 108 RX0 yX0_copyFrom wsX0_copyFrom) := goodIn_app (goodIn_of _ (by decide +kernel)) ggX1_foresee_X0_copyFrom
set_option maxRecDepth 20000 in
theorem ggX1_foresee_X0_liveDays : GoodIn wsX1_foresee wsX0_liveDays := goodIn_r _ [50, 51, 52, 53, 19, 54, 34, 35, 55, 56, 57, 58, 59, 60, 61, 62, 33, 63, 64, 65, 66, 29, 67, 68, 69, 70, 28, 71, 72, 73, 74, 75, 76, 77, 78, 27, 22, 21, 23, 24, 79, 80, 81, 82, 83, 84, 85, 86, 31, 87, 88, 41, 89, 25, 26, 32, 90, 91, 92, 93, 94, 95, 96, 97, 98, 99, 100, 101, 102, 103, 104, 105, 106, 107, 108, 109, 30, 110, 111, 112, 113, 114, 115, 116, 117, 118, 119, 120, 121, 122, 123, 124, 125, 126, 127, 128, 139, 140, 141, 142, 143, 144, 145, 146, 147, 148, 149, 150, 151, 152, 153] (by decide +kernel) (by decide +kernel)
set_option maxRecDepth 20000 in
theorem gX1_foresee_X0_liveDays : GoodIn wsX1_foresee (wsV RX1 105 RX0 yX0_liveDays wsX0_liveDays) := goodIn_app (goodIn_of _ (by decide +kernel)) ggX1_foresee_X0_liveDays
set_option maxRecDepth 20000 in
theorem ggX1_foresee_X0_withFate : GoodIn wsX1_foresee wsX0_withFate := goodIn_r _ [132, 34, 29, 139, 140, 141, 142, 143, 144, 145, 146, 147, 148, 149, 150, 151, 152, 153] (by decide +kernel) (by decide +kernel)
set_option maxRecDepth 20000 in
theorem gX1_foresee_X0_withFate : GoodIn wsX1_foresee (wsV RX1 102 RX0 yX0_withFate wsX0_withFate) := goodIn_app (goodIn_of _ (by decide +kernel)) ggX1_foresee_X0_withFate
set_option maxRecDepth 20000 in
theorem ggX1_foresee_X0_hungerOfAll : GoodIn wsX1_foresee wsX0_hungerOfAll := goodIn_r _ [136, 34, 23, 63, 64, 65, 19, 66, 29, 139, 140, 141, 142, 143, 144, 145, 146, 147, 148, 149, 150, 151, 152, 153] (by decide +kernel) (by decide +kernel)
set_option maxRecDepth 20000 in
theorem gX1_foresee_X0_hungerOfAll : GoodIn wsX1_foresee (wsV RX1 112 RX0 yX0_hungerOfAll wsX0_hungerOfAll) := goodIn_app (goodIn_of _ (by decide +kernel)) ggX1_foresee_X0_hungerOfAll
theorem dX1_foresee_0 : decode cX1_foresee 0 = .ok (.aload_n 0, 1) := by decide +kernel
theorem dX1_foresee_1 : decode cX1_foresee 1 = .ok (.iload_n 1, 1) := by decide +kernel
theorem dX1_foresee_2 : decode cX1_foresee 2 = .ok (.invokevirtual 99, 3) := by decide +kernel
theorem dX1_foresee_5 : decode cX1_foresee 5 = .ok (.aload_n 0, 1) := by decide +kernel
theorem dX1_foresee_6 : decode cX1_foresee 6 = .ok (.iload_n 2, 1) := by decide +kernel
theorem dX1_foresee_7 : decode cX1_foresee 7 = .ok (.iconst 4, 1) := by decide +kernel
theorem dX1_foresee_8 : decode cX1_foresee 8 = .ok (.invokevirtual 75, 3) := by decide +kernel
theorem dX1_foresee_11 : decode cX1_foresee 11 = .ok (.aload_n 0, 1) := by decide +kernel
theorem dX1_foresee_12 : decode cX1_foresee 12 = .ok (.getfield 16, 3) := by decide +kernel
theorem dX1_foresee_15 : decode cX1_foresee 15 = .ok (.aload_n 0, 1) := by decide +kernel
theorem dX1_foresee_16 : decode cX1_foresee 16 = .ok (.getfield 10, 3) := by decide +kernel
theorem dX1_foresee_19 : decode cX1_foresee 19 = .ok (.invokevirtual 108, 3) := by decide +kernel
theorem dX1_foresee_22 : decode cX1_foresee 22 = .ok (.aload_n 0, 1) := by decide +kernel
theorem dX1_foresee_23 : decode cX1_foresee 23 = .ok (.getfield 16, 3) := by decide +kernel
theorem dX1_foresee_26 : decode cX1_foresee 26 = .ok (.iload_n 1, 1) := by decide +kernel
theorem dX1_foresee_27 : decode cX1_foresee 27 = .ok (.invokevirtual 105, 3) := by decide +kernel
theorem dX1_foresee_30 : decode cX1_foresee 30 = .ok (.iload_n 2, 1) := by decide +kernel
theorem dX1_foresee_31 : decode cX1_foresee 31 = .ok (.tableswitch 51 0 2 #[25, 34, 43], 25) := by decide +kernel
theorem dX1_foresee_56 : decode cX1_foresee 56 = .ok (.aload_n 0, 1) := by decide +kernel
theorem dX1_foresee_57 : decode cX1_foresee 57 = .ok (.getfield 16, 3) := by decide +kernel
theorem dX1_foresee_60 : decode cX1_foresee 60 = .ok (.iconst 0, 1) := by decide +kernel
theorem dX1_foresee_61 : decode cX1_foresee 61 = .ok (.invokevirtual 102, 3) := by decide +kernel
theorem dX1_foresee_64 : decode cX1_foresee 64 = .ok (.ireturn, 1) := by decide +kernel
theorem dX1_foresee_65 : decode cX1_foresee 65 = .ok (.aload_n 0, 1) := by decide +kernel
theorem dX1_foresee_66 : decode cX1_foresee 66 = .ok (.getfield 16, 3) := by decide +kernel
theorem dX1_foresee_69 : decode cX1_foresee 69 = .ok (.iconst 1, 1) := by decide +kernel
theorem dX1_foresee_70 : decode cX1_foresee 70 = .ok (.invokevirtual 102, 3) := by decide +kernel
theorem dX1_foresee_73 : decode cX1_foresee 73 = .ok (.ireturn, 1) := by decide +kernel
theorem dX1_foresee_74 : decode cX1_foresee 74 = .ok (.aload_n 0, 1) := by decide +kernel
theorem dX1_foresee_75 : decode cX1_foresee 75 = .ok (.getfield 16, 3) := by decide +kernel
theorem dX1_foresee_78 : decode cX1_foresee 78 = .ok (.getfield 36, 3) := by decide +kernel
theorem dX1_foresee_81 : decode cX1_foresee 81 = .ok (.ireturn, 1) := by decide +kernel
theorem dX1_foresee_82 : decode cX1_foresee 82 = .ok (.aload_n 0, 1) := by decide +kernel
theorem dX1_foresee_83 : decode cX1_foresee 83 = .ok (.getfield 16, 3) := by decide +kernel
theorem dX1_foresee_86 : decode cX1_foresee 86 = .ok (.invokevirtual 112, 3) := by decide +kernel
theorem dX1_foresee_89 : decode cX1_foresee 89 = .ok (.ireturn, 1) := by decide +kernel
set_option maxRecDepth 20000 in
theorem ggX1_lives_X1_requireRule : GoodIn wsX1_lives wsX1_requireRule := goodIn_ca (goodIn_r _ [6, 7, 8, 1, 9, 10, 11, 12, 13, 14, 129, 130, 131, 132, 133, 134, 135, 136, 137, 138, 139, 140, 141, 142, 143, 144, 145] (by decide +kernel) (by decide +kernel)) (goodIn_sub (fun _ h => List.mem_cons_of_mem _ (List.mem_append_right _ h)) (by decide +kernel))
set_option maxRecDepth 20000 in
theorem gX1_lives_X1_requireRule : GoodIn wsX1_lives (wsV RX1 49 RX1 yX1_requireRule wsX1_requireRule) := goodIn_app (goodIn_of _ (by decide +kernel)) ggX1_lives_X1_requireRule
set_option maxRecDepth 20000 in
theorem ggX1_lives_X0_isThere : GoodIn wsX1_lives wsX0_isThere := goodIn_r _ [18, 14, 19, 131, 132, 133, 134, 135, 136, 137, 138, 139, 140, 141, 142, 143, 144, 145] (by decide +kernel) (by decide +kernel)
set_option maxRecDepth 20000 in
theorem gX1_lives_X0_isThere : GoodIn wsX1_lives (wsV RX1 116 RX0 yX0_isThere wsX0_isThere) := goodIn_app (goodIn_of _ (by decide +kernel)) ggX1_lives_X0_isThere
set_option maxRecDepth 20000 in
theorem ggX1_lives_X1_daysTillGone : GoodIn wsX1_lives wsX1_daysTillGone := goodIn_r _ [23, 24, 1, 25, 26, 27, 12, 28, 29, 30, 31, 32, 33, 34, 35, 36, 19, 37, 38, 39, 40, 14, 41, 42, 43, 44, 45, 46, 47, 48, 49, 50, 51, 52, 53, 54, 55, 56, 57, 16, 17, 18, 58, 59, 60, 61, 62, 63, 64, 65, 66, 67, 68, 69, 70, 71, 72, 73, 74, 75, 76, 77, 78, 79, 80, 81, 82, 83, 84, 85, 86, 87, 88, 89, 90, 91, 92, 93, 94, 95, 96, 97, 98, 99, 100, 101, 102, 103, 104, 105, 106, 107, 108, 109, 110, 111, 112, 113, 114, 115, 116, 117, 118, 119, 120, 10, 11, 13, 121, 122, 123, 124, 125, 126, 127, 128, 15, 129, 130, 131, 132, 133, 134, 135, 136, 137, 138, 139, 140, 141, 142, 143, 144, 145] (by decide +kernel) (by decide +kernel)
set_option maxRecDepth 20000 in
theorem gX1_lives_X1_daysTillGone : GoodIn wsX1_lives (wsV RX1 120 RX1 yX1_daysTillGone wsX1_daysTillGone) := goodIn_app (goodIn_of _ (by decide +kernel)) ggX1_lives_X1_daysTillGone
theorem dX1_lives_0 : decode cX1_lives 0 = .ok (.aload_n 0, 1) := by decide +kernel
theorem dX1_lives_1 : decode cX1_lives 1 = .ok (.iload_n 1, 1) := by decide +kernel
theorem dX1_lives_2 : decode cX1_lives 2 = .ok (.invokevirtual 49, 3) := by decide +kernel
theorem dX1_lives_5 : decode cX1_lives 5 = .ok (.aload_n 0, 1) := by decide +kernel
theorem dX1_lives_6 : decode cX1_lives 6 = .ok (.getfield 10, 3) := by decide +kernel
theorem dX1_lives_9 : decode cX1_lives 9 = .ok (.iload_n 1, 1) := by decide +kernel
theorem dX1_lives_10 : decode cX1_lives 10 = .ok (.invokevirtual 116, 3) := by decide +kernel
theorem dX1_lives_13 : decode cX1_lives 13 = .ok (.ifCond .ne 5, 3) := by decide +kernel
theorem dX1_lives_16 : decode cX1_lives 16 = .ok (.iconst 0, 1) := by decide +kernel
theorem dX1_lives_17 : decode cX1_lives 17 = .ok (.ireturn, 1) := by decide +kernel
theorem dX1_lives_18 : decode cX1_lives 18 = .ok (.aload_n 0, 1) := by decide +kernel
theorem dX1_lives_19 : decode cX1_lives 19 = .ok (.iload_n 1, 1) := by decide +kernel
theorem dX1_lives_20 : decode cX1_lives 20 = .ok (.aload_n 0, 1) := by decide +kernel
theorem dX1_lives_21 : decode cX1_lives 21 = .ok (.getfield 10, 3) := by decide +kernel
theorem dX1_lives_24 : decode cX1_lives 24 = .ok (.getfield 55, 3) := by decide +kernel
theorem dX1_lives_27 : decode cX1_lives 27 = .ok (.iload_n 1, 1) := by decide +kernel
theorem dX1_lives_28 : decode cX1_lives 28 = .ok (.iaload, 1) := by decide +kernel
theorem dX1_lives_29 : decode cX1_lives 29 = .ok (.bipush 100, 2) := by decide +kernel
theorem dX1_lives_31 : decode cX1_lives 31 = .ok (.invokevirtual 120, 3) := by decide +kernel
theorem dX1_lives_34 : decode cX1_lives 34 = .ok (.istore_n 2, 1) := by decide +kernel
theorem dX1_lives_35 : decode cX1_lives 35 = .ok (.iload_n 2, 1) := by decide +kernel
theorem dX1_lives_36 : decode cX1_lives 36 = .ok (.bipush 100, 2) := by decide +kernel
theorem dX1_lives_38 : decode cX1_lives 38 = .ok (.if_icmp .le 7, 3) := by decide +kernel
theorem dX1_lives_41 : decode cX1_lives 41 = .ok (.iconst (-1), 1) := by decide +kernel
theorem dX1_lives_42 : decode cX1_lives 42 = .ok (.goto 4, 3) := by decide +kernel
theorem dX1_lives_45 : decode cX1_lives 45 = .ok (.iload_n 2, 1) := by decide +kernel
theorem dX1_lives_46 : decode cX1_lives 46 = .ok (.ireturn, 1) := by decide +kernel
set_option maxRecDepth 20000 in
theorem ggX1_ends_X1_tryTillEnd : GoodIn wsX1_ends wsX1_tryTillEnd := goodIn_r _ [5, 6, 7, 8, 9, 10, 11, 12, 13, 14, 15, 16, 17, 18, 19, 20, 21, 22, 23, 24, 25, 26, 27, 28, 29, 30, 31, 32, 33, 34, 35, 36, 37, 38, 39, 40, 41, 42, 43, 44, 45, 46, 47, 48, 49, 50, 51, 52, 53, 54, 55, 56, 57, 58, 59, 60, 61, 62, 63, 64, 65, 66, 67, 68, 69, 70, 71, 72, 73, 74, 75, 76, 77, 78, 79, 80, 81, 82, 83, 84, 85, 86, 87, 88, 89, 90, 91, 92, 93, 94, 95, 96, 97, 98, 99, 100, 101, 102, 103, 104, 105, 106, 107, 108, 109, 110, 111, 112, 113, 114, 115, 116, 117, 118, 119, 120, 121, 122, 123, 124, 125, 126, 127, 128, 129, 130, 131, 132, 133, 134, 135, 136, 137] (by decide +kernel) (by decide +kernel)
set_option maxRecDepth 20000 in
theorem gX1_ends_X1_tryTillEnd : GoodIn wsX1_ends (wsV RX1 124 RX1 yX1_tryTillEnd wsX1_tryTillEnd) := goodIn_app (goodIn_of _ (by decide +kernel)) ggX1_ends_X1_tryTillEnd
theorem dX1_ends_0 : decode cX1_ends 0 = .ok (.aload_n 0, 1) := by decide +kernel
theorem dX1_ends_1 : decode cX1_ends 1 = .ok (.invokevirtual 124, 3) := by decide +kernel
theorem dX1_ends_4 : decode cX1_ends 4 = .ok (.ireturn, 1) := by decide +kernel
set_option maxRecDepth 20000 in
theorem ggX1_last_X1_tryTillEnd : GoodIn wsX1_last wsX1_tryTillEnd := goodIn_r _ [6, 1, 7, 8, 9, 10, 11, 12, 13, 14, 15, 16, 17, 18, 19, 20, 21, 22, 23, 24, 25, 26, 27, 28, 29, 30, 31, 32, 33, 34, 35, 36, 37, 38, 39, 40, 41, 42, 43, 44, 45, 46, 47, 48, 49, 50, 51, 52, 53, 54, 55, 56, 57, 58, 59, 60, 61, 62, 63, 64, 65, 66, 67, 68, 69, 70, 71, 72, 73, 74, 75, 76, 77, 78, 79, 80, 81, 82, 83, 84, 85, 86, 87, 88, 89, 90, 91, 92, 93, 94, 95, 96, 97, 98, 99, 100, 101, 102, 103, 104, 105, 106, 107, 108, 109, 110, 111, 112, 113, 114, 115, 116, 117, 118, 119, 120, 125, 126, 127, 128, 129, 130, 131, 132, 133, 134, 135, 136, 137, 138, 139, 140, 141] (by decide +kernel) (by decide +kernel)
set_option maxRecDepth 20000 in
theorem gX1_last_X1_tryTillEnd : GoodIn wsX1_last (wsV RX1 124 RX1 yX1_tryTillEnd wsX1_tryTillEnd) := goodIn_app (goodIn_of _ (by decide +kernel)) ggX1_last_X1_tryTillEnd
set_option maxRecDepth 20000 in
theorem ggX1_last_X0_firstThere : GoodIn wsX1_last wsX0_firstThere := goodIn_r _ [124, 26, 55, 56, 57, 11, 58, 21, 127, 128, 129, 130, 131, 132, 133, 134, 135, 136, 137, 138, 139, 140, 141] (by decide +kernel) (by decide +kernel)
set_option maxRecDepth 20000 in
theorem gX1_last_X0_firstThere : GoodIn wsX1_last (wsV RX1 127 RX0 yX0_firstThere wsX0_firstThere) := goodIn_app (goodIn_of _ (by decide +kernel)) ggX1_last_X0_firstThere
theorem dX1_last_0 : decode cX1_last 0 = .ok (.aload_n 0, 1) := by decide +kernel
theorem dX1_last_1 : decode cX1_last 1 = .ok (.invokevirtual 124, 3) := by decide +kernel
theorem dX1_last_4 : decode cX1_last 4 = .ok (.iconst (-1), 1) := by decide +kernel
theorem dX1_last_5 : decode cX1_last 5 = .ok (.if_icmp .ne 5, 3) := by decide +kernel
theorem dX1_last_8 : decode cX1_last 8 = .ok (.iconst (-1), 1) := by decide +kernel
theorem dX1_last_9 : decode cX1_last 9 = .ok (.ireturn, 1) := by decide +kernel
theorem dX1_last_10 : decode cX1_last 10 = .ok (.aload_n 0, 1) := by decide +kernel
theorem dX1_last_11 : decode cX1_last 11 = .ok (.getfield 16, 3) := by decide +kernel
theorem dX1_last_14 : decode cX1_last 14 = .ok (.invokevirtual 127, 3) := by decide +kernel
theorem dX1_last_17 : decode cX1_last 17 = .ok (.ireturn, 1) := by decide +kernel
set_option maxRecDepth 20000 in
theorem ggX1_advise_X1_requireRule : GoodIn wsX1_advise wsX1_requireRule := goodIn_ca (goodIn_r _ [10, 11, 12, 1, 13, 14, 15, 16, 17, 18, 130, 131, 132, 133, 134, 135, 136, 137, 138, 139, 140, 141, 142, 143, 144, 145, 146] (by decide +kernel) (by decide +kernel)) (goodIn_sub (fun _ h => List.mem_cons_of_mem _ (List.mem_append_right _ h)) (by decide +kernel))
set_option maxRecDepth 20000 in
theorem gX1_advise_X1_requireRule : GoodIn wsX1_advise (wsV RX1 49 RX1 yX1_requireRule wsX1_requireRule) := goodIn_app (goodIn_of _ (by decide +kernel)) ggX1_advise_X1_requireRule
set_option maxRecDepth 20000 in
theorem ggX1_advise_X0_isThere : GoodIn wsX1_advise wsX0_isThere := goodIn_r _ [22, 18, 23, 132, 133, 134, 135, 136, 137, 138, 139, 140, 141, 142, 143, 144, 145, 146] (by decide +kernel) (by decide +kernel)
set_option maxRecDepth 20000 in
theorem gX1_advise_X0_isThere : GoodIn wsX1_advise (wsV RX1 116 RX0 yX0_isThere wsX0_isThere) := goodIn_app (goodIn_of _ (by decide +kernel)) ggX1_advise_X0_isThere
set_option maxRecDepth 20000 in
theorem ggX1_advise_X1_daysTillGone : GoodIn wsX1_advise wsX1_daysTillGone := goodIn_r _ [27, 28, 1, 29, 30, 31, 16, 32, 33, 34, 35, 36, 37, 38, 39, 40, 23, 41, 42, 43, 44, 18, 45, 46, 47, 48, 49, 3, 4, 5, 50, 51, 52, 53, 54, 55, 56, 57, 58, 20, 21, 22, 59, 60, 61, 62, 63, 64, 65, 66, 67, 68, 69, 70, 71, 72, 73, 74, 75, 76, 77, 78, 79, 80, 81, 82, 83, 84, 85, 86, 87, 88, 89, 90, 91, 92, 93, 94, 95, 96, 97, 98, 99, 100, 101, 102, 103, 104, 105, 106, 107, 108, 109, 110, 111, 112, 113, 114, 115, 116, 117, 118, 119, 120, 121, 14, 15, 17, 122, 123, 124, 125, 126, 127, 128, 129, 19, 130, 131, 132, 133, 134, 135, 136, 137, 138, 139, 140, 141, 142, 143, 144, 145, 146] (by decide +kernel) (by decide +kernel)
set_option maxRecDepth 20000 in
theorem gX1_advise_X1_daysTillGone : GoodIn wsX1_advise (wsV RX1 120 RX1 yX1_daysTillGone wsX1_daysTillGone) := goodIn_app (goodIn_of _ (by decide +kernel)) ggX1_advise_X1_daysTillGone
theorem dX1_advise_0 : decode cX1_advise 0 = .ok (.aload_n 0, 1) := by decide +kernel
theorem dX1_advise_1 : decode cX1_advise 1 = .ok (.iload_n 1, 1) := by decide +kernel
theorem dX1_advise_2 : decode cX1_advise 2 = .ok (.invokevirtual 49, 3) := by decide +kernel
theorem dX1_advise_5 : decode cX1_advise 5 = .ok (.aload_n 0, 1) := by decide +kernel
theorem dX1_advise_6 : decode cX1_advise 6 = .ok (.getfield 10, 3) := by decide +kernel
theorem dX1_advise_9 : decode cX1_advise 9 = .ok (.iload_n 1, 1) := by decide +kernel
theorem dX1_advise_10 : decode cX1_advise 10 = .ok (.invokevirtual 116, 3) := by decide +kernel
theorem dX1_advise_13 : decode cX1_advise 13 = .ok (.ifCond .ne 5, 3) := by decide +kernel
theorem dX1_advise_16 : decode cX1_advise 16 = .ok (.iconst (-1), 1) := by decide +kernel
theorem dX1_advise_17 : decode cX1_advise 17 = .ok (.ireturn, 1) := by decide +kernel
theorem dX1_advise_18 : decode cX1_advise 18 = .ok (.aload_n 0, 1) := by decide +kernel
theorem dX1_advise_19 : decode cX1_advise 19 = .ok (.getfield 10, 3) := by decide +kernel
theorem dX1_advise_22 : decode cX1_advise 22 = .ok (.getfield 55, 3) := by decide +kernel
theorem dX1_advise_25 : decode cX1_advise 25 = .ok (.iload_n 1, 1) := by decide +kernel
theorem dX1_advise_26 : decode cX1_advise 26 = .ok (.iaload, 1) := by decide +kernel
theorem dX1_advise_27 : decode cX1_advise 27 = .ok (.istore_n 2, 1) := by decide +kernel
theorem dX1_advise_28 : decode cX1_advise 28 = .ok (.aload_n 0, 1) := by decide +kernel
theorem dX1_advise_29 : decode cX1_advise 29 = .ok (.iload_n 1, 1) := by decide +kernel
theorem dX1_advise_30 : decode cX1_advise 30 = .ok (.iload_n 2, 1) := by decide +kernel
theorem dX1_advise_31 : decode cX1_advise 31 = .ok (.bipush 40, 2) := by decide +kernel
theorem dX1_advise_33 : decode cX1_advise 33 = .ok (.invokevirtual 120, 3) := by decide +kernel
theorem dX1_advise_36 : decode cX1_advise 36 = .ok (.bipush 40, 2) := by decide +kernel
theorem dX1_advise_38 : decode cX1_advise 38 = .ok (.invokestatic 130, 3) := by decide +kernel
theorem dX1_advise_41 : decode cX1_advise 41 = .ok (.istore_n 3, 1) := by decide +kernel
theorem dX1_advise_42 : decode cX1_advise 42 = .ok (.iconst 0, 1) := by decide +kernel
theorem dX1_advise_43 : decode cX1_advise 43 = .ok (.istore 4, 2) := by decide +kernel
theorem dX1_advise_45 : decode cX1_advise 45 = .ok (.iload 4, 2) := by decide +kernel
theorem dX1_advise_47 : decode cX1_advise 47 = .ok (.bipush 20, 2) := by decide +kernel
theorem dX1_advise_49 : decode cX1_advise 49 = .ok (.if_icmp .ge 51, 3) := by decide +kernel
theorem dX1_advise_52 : decode cX1_advise 52 = .ok (.aload_n 0, 1) := by decide +kernel
theorem dX1_advise_53 : decode cX1_advise 53 = .ok (.getfield 10, 3) := by decide +kernel
theorem dX1_advise_56 : decode cX1_advise 56 = .ok (.getfield 82, 3) := by decide +kernel
theorem dX1_advise_59 : decode cX1_advise 59 = .ok (.iload 4, 2) := by decide +kernel
theorem dX1_advise_61 : decode cX1_advise 61 = .ok (.iaload, 1) := by decide +kernel
theorem dX1_advise_62 : decode cX1_advise 62 = .ok (.iconst (-1), 1) := by decide +kernel
theorem dX1_advise_63 : decode cX1_advise 63 = .ok (.if_icmp .ne 31, 3) := by decide +kernel
theorem dX1_advise_66 : decode cX1_advise 66 = .ok (.aload_n 0, 1) := by decide +kernel
theorem dX1_advise_67 : decode cX1_advise 67 = .ok (.iload_n 1, 1) := by decide +kernel
theorem dX1_advise_68 : decode cX1_advise 68 = .ok (.iload 4, 2) := by decide +kernel
theorem dX1_advise_70 : decode cX1_advise 70 = .ok (.bipush 40, 2) := by decide +kernel
theorem dX1_advise_72 : decode cX1_advise 72 = .ok (.invokevirtual 120, 3) := by decide +kernel
theorem dX1_advise_75 : decode cX1_advise 75 = .ok (.bipush 40, 2) := by decide +kernel
theorem dX1_advise_77 : decode cX1_advise 77 = .ok (.invokestatic 130, 3) := by decide +kernel
theorem dX1_advise_80 : decode cX1_advise 80 = .ok (.istore 5, 2) := by decide +kernel
theorem dX1_advise_82 : decode cX1_advise 82 = .ok (.iload 5, 2) := by decide +kernel
theorem dX1_advise_84 : decode cX1_advise 84 = .ok (.iload_n 3, 1) := by decide +kernel
theorem dX1_advise_85 : decode cX1_advise 85 = .ok (.if_icmp .le 9, 3) := by decide +kernel
theorem dX1_advise_88 : decode cX1_advise 88 = .ok (.iload 5, 2) := by decide +kernel
theorem dX1_advise_90 : decode cX1_advise 90 = .ok (.istore_n 3, 1) := by decide +kernel
theorem dX1_advise_91 : decode cX1_advise 91 = .ok (.iload 4, 2) := by decide +kernel
theorem dX1_advise_93 : decode cX1_advise 93 = .ok (.istore_n 2, 1) := by decide +kernel
theorem dX1_advise_94 : decode cX1_advise 94 = .ok (.iinc 4 1, 3) := by decide +kernel
theorem dX1_advise_97 : decode cX1_advise 97 = .ok (.goto (-52), 3) := by decide +kernel
theorem dX1_advise_100 : decode cX1_advise 100 = .ok (.iload_n 2, 1) := by decide +kernel
theorem dX1_advise_101 : decode cX1_advise 101 = .ok (.ireturn, 1) := by decide +kernel
set_option maxRecDepth 20000 in
theorem ggX1_mean_X0_withFate : GoodIn wsX1_mean wsX0_withFate := goodIn_r _ [6, 7, 8, 20, 21, 22, 23, 24, 25, 26, 27, 28, 29, 30, 31, 32, 33, 34] (by decide +kernel) (by decide +kernel)
set_option maxRecDepth 20000 in
theorem gX1_mean_X0_withFate : GoodIn wsX1_mean (wsV RX1 102 RX0 yX0_withFate wsX0_withFate) := goodIn_app (goodIn_of _ (by decide +kernel)) ggX1_mean_X0_withFate
set_option maxRecDepth 20000 in
theorem ggX1_mean_X0_hungerOfAll : GoodIn wsX1_mean wsX0_hungerOfAll := goodIn_r _ [12, 7, 13, 14, 15, 16, 5, 17, 8, 20, 21, 22, 23, 24, 25, 26, 27, 28, 29, 30, 31, 32, 33, 34] (by decide +kernel) (by decide +kernel)
set_option maxRecDepth 20000 in
theorem gX1_mean_X0_hungerOfAll : GoodIn wsX1_mean (wsV RX1 112 RX0 yX0_hungerOfAll wsX0_hungerOfAll) := goodIn_app (goodIn_of _ (by decide +kernel)) ggX1_mean_X0_hungerOfAll
theorem dX1_mean_0 : decode cX1_mean 0 = .ok (.aload_n 0, 1) := by decide +kernel
theorem dX1_mean_1 : decode cX1_mean 1 = .ok (.getfield 10, 3) := by decide +kernel
theorem dX1_mean_4 : decode cX1_mean 4 = .ok (.iconst 0, 1) := by decide +kernel
theorem dX1_mean_5 : decode cX1_mean 5 = .ok (.invokevirtual 102, 3) := by decide +kernel
theorem dX1_mean_8 : decode cX1_mean 8 = .ok (.istore_n 1, 1) := by decide +kernel
theorem dX1_mean_9 : decode cX1_mean 9 = .ok (.iload_n 1, 1) := by decide +kernel
theorem dX1_mean_10 : decode cX1_mean 10 = .ok (.ifCond .ne 5, 3) := by decide +kernel
theorem dX1_mean_13 : decode cX1_mean 13 = .ok (.dconst 0, 1) := by decide +kernel
theorem dX1_mean_14 : decode cX1_mean 14 = .ok (.dreturn, 1) := by decide +kernel
theorem dX1_mean_15 : decode cX1_mean 15 = .ok (.aload_n 0, 1) := by decide +kernel
theorem dX1_mean_16 : decode cX1_mean 16 = .ok (.getfield 10, 3) := by decide +kernel
theorem dX1_mean_19 : decode cX1_mean 19 = .ok (.invokevirtual 112, 3) := by decide +kernel
theorem dX1_mean_22 : decode cX1_mean 22 = .ok (.i2d, 1) := by decide +kernel
theorem dX1_mean_23 : decode cX1_mean 23 = .ok (.iload_n 1, 1) := by decide +kernel
theorem dX1_mean_24 : decode cX1_mean 24 = .ok (.i2d, 1) := by decide +kernel
theorem dX1_mean_25 : decode cX1_mean 25 = .ok (.ddiv, 1) := by decide +kernel
theorem dX1_mean_26 : decode cX1_mean 26 = .ok (.dreturn, 1) := by decide +kernel
set_option maxRecDepth 20000 in
theorem ggX1_digest_X0_counted : GoodIn wsX1_digest wsX0_counted := goodIn_r _ [8, 9, 10, 11, 12, 13, 7, 14, 15, 16, 17, 18, 19, 20, 21, 22, 23, 24, 25, 26, 27, 28, 29, 30, 31, 32, 33, 34, 35, 36, 59, 60, 61, 62, 63, 64, 65, 66, 67, 68, 69, 70, 71, 72, 73] (by decide +kernel) (by decide +kernel)
set_option maxRecDepth 20000 in
theorem gX1_digest_X0_counted : GoodIn wsX1_digest (wsV RX1 85 RX0 yX0_counted wsX0_counted) := goodIn_app (goodIn_of _ (by decide +kernel)) ggX1_digest_X0_counted
set_option maxRecDepth 20000 in
theorem ggX1_digest_X0_aboutRule : GoodIn wsX1_digest wsX0_aboutRule := goodIn_r _ [40, 25, 41, 42, 43, 44, 45, 20, 46, 15, 47, 48, 49, 50, 51, 7, 52, 10, 53, 54, 55, 56, 59, 60, 61, 62, 63, 64, 65, 66, 67, 68, 69, 70, 71, 72, 73] (by decide +kernel) (by decide +kernel)
set_option maxRecDepth 20000 in
theorem gX1_digest_X0_aboutRule : GoodIn wsX1_digest (wsV RX1 78 RX0 yX0_aboutRule wsX0_aboutRule) := goodIn_app (goodIn_of _ (by decide +kernel)) ggX1_digest_X0_aboutRule
theorem dX1_digest_0 : decode cX1_digest 0 = .ok (.ldc2_w 135, 3) := by decide +kernel
theorem dX1_digest_3 : decode cX1_digest 3 = .ok (.lstore_n 1, 1) := by decide +kernel
theorem dX1_digest_4 : decode cX1_digest 4 = .ok (.iconst 0, 1) := by decide +kernel
theorem dX1_digest_5 : decode cX1_digest 5 = .ok (.istore_n 3, 1) := by decide +kernel
theorem dX1_digest_6 : decode cX1_digest 6 = .ok (.iload_n 3, 1) := by decide +kernel
theorem dX1_digest_7 : decode cX1_digest 7 = .ok (.bipush 9, 2) := by decide +kernel
theorem dX1_digest_9 : decode cX1_digest 9 = .ok (.if_icmp .ge 25, 3) := by decide +kernel
theorem dX1_digest_12 : decode cX1_digest 12 = .ok (.lload_n 1, 1) := by decide +kernel
theorem dX1_digest_13 : decode cX1_digest 13 = .ok (.ldc2_w 137, 3) := by decide +kernel
theorem dX1_digest_16 : decode cX1_digest 16 = .ok (.lmul, 1) := by decide +kernel
theorem dX1_digest_17 : decode cX1_digest 17 = .ok (.aload_n 0, 1) := by decide +kernel
theorem dX1_digest_18 : decode cX1_digest 18 = .ok (.getfield 10, 3) := by decide +kernel
theorem dX1_digest_21 : decode cX1_digest 21 = .ok (.iload_n 3, 1) := by decide +kernel
theorem dX1_digest_22 : decode cX1_digest 22 = .ok (.invokevirtual 85, 3) := by decide +kernel
theorem dX1_digest_25 : decode cX1_digest 25 = .ok (.i2l, 1) := by decide +kernel
theorem dX1_digest_26 : decode cX1_digest 26 = .ok (.ladd, 1) := by decide +kernel
theorem dX1_digest_27 : decode cX1_digest 27 = .ok (.lstore_n 1, 1) := by decide +kernel
theorem dX1_digest_28 : decode cX1_digest 28 = .ok (.iinc 3 1, 3) := by decide +kernel
theorem dX1_digest_31 : decode cX1_digest 31 = .ok (.goto (-25), 3) := by decide +kernel
theorem dX1_digest_34 : decode cX1_digest 34 = .ok (.iconst 0, 1) := by decide +kernel
theorem dX1_digest_35 : decode cX1_digest 35 = .ok (.istore_n 3, 1) := by decide +kernel
theorem dX1_digest_36 : decode cX1_digest 36 = .ok (.iload_n 3, 1) := by decide +kernel
theorem dX1_digest_37 : decode cX1_digest 37 = .ok (.bipush 20, 2) := by decide +kernel
theorem dX1_digest_39 : decode cX1_digest 39 = .ok (.if_icmp .ge 26, 3) := by decide +kernel
theorem dX1_digest_42 : decode cX1_digest 42 = .ok (.lload_n 1, 1) := by decide +kernel
theorem dX1_digest_43 : decode cX1_digest 43 = .ok (.ldc2_w 137, 3) := by decide +kernel
theorem dX1_digest_46 : decode cX1_digest 46 = .ok (.lmul, 1) := by decide +kernel
theorem dX1_digest_47 : decode cX1_digest 47 = .ok (.aload_n 0, 1) := by decide +kernel
theorem dX1_digest_48 : decode cX1_digest 48 = .ok (.getfield 10, 3) := by decide +kernel
theorem dX1_digest_51 : decode cX1_digest 51 = .ok (.getfield 82, 3) := by decide +kernel
theorem dX1_digest_54 : decode cX1_digest 54 = .ok (.iload_n 3, 1) := by decide +kernel
theorem dX1_digest_55 : decode cX1_digest 55 = .ok (.iaload, 1) := by decide +kernel
theorem dX1_digest_56 : decode cX1_digest 56 = .ok (.i2l, 1) := by decide +kernel
theorem dX1_digest_57 : decode cX1_digest 57 = .ok (.ladd, 1) := by decide +kernel
theorem dX1_digest_58 : decode cX1_digest 58 = .ok (.lstore_n 1, 1) := by decide +kernel
theorem dX1_digest_59 : decode cX1_digest 59 = .ok (.iinc 3 1, 3) := by decide +kernel
theorem dX1_digest_62 : decode cX1_digest 62 = .ok (.goto (-26), 3) := by decide +kernel
theorem dX1_digest_65 : decode cX1_digest 65 = .ok (.iconst 0, 1) := by decide +kernel
theorem dX1_digest_66 : decode cX1_digest 66 = .ok (.istore_n 3, 1) := by decide +kernel
theorem dX1_digest_67 : decode cX1_digest 67 = .ok (.iload_n 3, 1) := by decide +kernel
theorem dX1_digest_68 : decode cX1_digest 68 = .ok (.aload_n 0, 1) := by decide +kernel
theorem dX1_digest_69 : decode cX1_digest 69 = .ok (.getfield 10, 3) := by decide +kernel
theorem dX1_digest_72 : decode cX1_digest 72 = .ok (.getfield 36, 3) := by decide +kernel
theorem dX1_digest_75 : decode cX1_digest 75 = .ok (.if_icmp .ge 43, 3) := by decide +kernel
theorem dX1_digest_78 : decode cX1_digest 78 = .ok (.iconst 0, 1) := by decide +kernel
theorem dX1_digest_79 : decode cX1_digest 79 = .ok (.istore 4, 2) := by decide +kernel
theorem dX1_digest_81 : decode cX1_digest 81 = .ok (.iload 4, 2) := by decide +kernel
theorem dX1_digest_83 : decode cX1_digest 83 = .ok (.bipush 12, 2) := by decide +kernel
theorem dX1_digest_85 : decode cX1_digest 85 = .ok (.if_icmp .ge 27, 3) := by decide +kernel
theorem dX1_digest_88 : decode cX1_digest 88 = .ok (.lload_n 1, 1) := by decide +kernel
theorem dX1_digest_89 : decode cX1_digest 89 = .ok (.ldc2_w 137, 3) := by decide +kernel
theorem dX1_digest_92 : decode cX1_digest 92 = .ok (.lmul, 1) := by decide +kernel
theorem dX1_digest_93 : decode cX1_digest 93 = .ok (.aload_n 0, 1) := by decide +kernel
theorem dX1_digest_94 : decode cX1_digest 94 = .ok (.getfield 10, 3) := by decide +kernel
theorem dX1_digest_97 : decode cX1_digest 97 = .ok (.iload_n 3, 1) := by decide +kernel
theorem dX1_digest_98 : decode cX1_digest 98 = .ok (.iload 4, 2) := by decide +kernel
theorem dX1_digest_100 : decode cX1_digest 100 = .ok (.invokevirtual 78, 3) := by decide +kernel
theorem dX1_digest_103 : decode cX1_digest 103 = .ok (.i2l, 1) := by decide +kernel
theorem dX1_digest_104 : decode cX1_digest 104 = .ok (.ladd, 1) := by decide +kernel
theorem dX1_digest_105 : decode cX1_digest 105 = .ok (.lstore_n 1, 1) := by decide +kernel
theorem dX1_digest_106 : decode cX1_digest 106 = .ok (.iinc 4 1, 3) := by decide +kernel
theorem dX1_digest_109 : decode cX1_digest 109 = .ok (.goto (-28), 3) := by decide +kernel
theorem dX1_digest_112 : decode cX1_digest 112 = .ok (.iinc 3 1, 3) := by decide +kernel
theorem dX1_digest_115 : decode cX1_digest 115 = .ok (.goto (-48), 3) := by decide +kernel
theorem dX1_digest_118 : decode cX1_digest 118 = .ok (.lload_n 1, 1) := by decide +kernel
theorem dX1_digest_119 : decode cX1_digest 119 = .ok (.lreturn, 1) := by decide +kernel
set_option maxRecDepth 20000 in
theorem ggX1_daysTillGone_X0_copyFrom : GoodIn wsX1_daysTillGone wsX0_copyFrom := goodIn_r _ [7, 8, 9, 10, 11, 12, 13, 14, 15, 16, 17, 18, 19, 20, 21, 22, 23, 24, 6, 25, 26, 27, 28, 29, 30, 31, 32, 33, 119, 120, 121, 122, 123, 124, 125, 126, 127, 128, 129, 130, 131, 132, 133] (by decide +kernel) (by decide +kernel)
set_option maxRecDepth 20000 in
theorem gX1_daysTillGone_X0_copyFrom : GoodIn wsX1_daysTillGone (wsV RX1 108 RX0 yX0_copyFrom wsX0_copyFrom) := goodIn_app (goodIn_of _ (by decide +kernel)) ggX1_daysTillGone_X0_copyFrom
set_option maxRecDepth 20000 in
theorem ggX1_daysTillGone_X0_settle : GoodIn wsX1_daysTillGone wsX0_settle := goodIn_r _ [37, 15, 20, 38, 39, 40, 6, 41, 21, 16, 42, 43, 44, 45, 46, 47, 48, 119, 120, 121, 122, 123, 124, 125, 126, 127, 128, 129, 130, 131, 132, 133] (by decide +kernel) (by decide +kernel)
set_option maxRecDepth 20000 in
theorem gX1_daysTillGone_X0_settle : GoodIn wsX1_daysTillGone (wsV RX1 59 RX0 yX0_settle wsX0_settle) := goodIn_app (goodIn_of _ (by decide +kernel)) ggX1_daysTillGone_X0_settle
set_option maxRecDepth 20000 in
theorem ggX1_daysTillGone_X0_liveDay : GoodIn wsX1_daysTillGone wsX0_liveDay := goodIn_r _ [52, 21, 22, 53, 54, 55, 6, 56, 57, 58, 59, 60, 20, 38, 39, 40, 41, 16, 61, 62, 63, 64, 15, 65, 66, 67, 68, 69, 70, 71, 72, 14, 9, 8, 10, 11, 73, 74, 75, 76, 77, 78, 79, 80, 18, 81, 82, 28, 83, 12, 13, 19, 84, 85, 86, 87, 45, 46, 47, 48, 88, 89, 90, 91, 92, 93, 94, 95, 96, 97, 98, 99, 17, 100, 101, 102, 103, 104, 105, 106, 107, 108, 109, 110, 111, 42, 43, 44, 112, 113, 114, 115, 119, 120, 121, 122, 123, 124, 125, 126, 127, 128, 129, 130, 131, 132, 133] (by decide +kernel) (by decide +kernel)
set_option maxRecDepth 20000 in
theorem gX1_daysTillGone_X0_liveDay : GoodIn wsX1_daysTillGone (wsV RX1 139 RX0 yX0_liveDay wsX0_liveDay) := goodIn_app (goodIn_of _ (by decide +kernel)) ggX1_daysTillGone_X0_liveDay
set_option maxRecDepth 20000 in
theorem ggX1_daysTillGone_X0_isThere : GoodIn wsX1_daysTillGone wsX0_isThere := goodIn_r _ [41, 21, 16, 119, 120, 121, 122, 123, 124, 125, 126, 127, 128, 129, 130, 131, 132, 133] (by decide +kernel) (by decide +kernel)
set_option maxRecDepth 20000 in
theorem gX1_daysTillGone_X0_isThere : GoodIn wsX1_daysTillGone (wsV RX1 116 RX0 yX0_isThere wsX0_isThere) := goodIn_app (goodIn_of _ (by decide +kernel)) ggX1_daysTillGone_X0_isThere
theorem dX1_daysTillGone_0 : decode cX1_daysTillGone 0 = .ok (.aload_n 0, 1) := by decide +kernel
theorem dX1_daysTillGone_1 : decode cX1_daysTillGone 1 = .ok (.getfield 16, 3) := by decide +kernel
theorem dX1_daysTillGone_4 : decode cX1_daysTillGone 4 = .ok (.aload_n 0, 1) := by decide +kernel
theorem dX1_daysTillGone_5 : decode cX1_daysTillGone 5 = .ok (.getfield 10, 3) := by decide +kernel
theorem dX1_daysTillGone_8 : decode cX1_daysTillGone 8 = .ok (.invokevirtual 108, 3) := by decide +kernel
theorem dX1_daysTillGone_11 : decode cX1_daysTillGone 11 = .ok (.aload_n 0, 1) := by decide +kernel
theorem dX1_daysTillGone_12 : decode cX1_daysTillGone 12 = .ok (.getfield 16, 3) := by decide +kernel
theorem dX1_daysTillGone_15 : decode cX1_daysTillGone 15 = .ok (.iload_n 1, 1) := by decide +kernel
theorem dX1_daysTillGone_16 : decode cX1_daysTillGone 16 = .ok (.iload_n 2, 1) := by decide +kernel
theorem dX1_daysTillGone_17 : decode cX1_daysTillGone 17 = .ok (.invokevirtual 59, 3) := by decide +kernel
theorem dX1_daysTillGone_20 : decode cX1_daysTillGone 20 = .ok (.iconst 1, 1) := by decide +kernel
theorem dX1_daysTillGone_21 : decode cX1_daysTillGone 21 = .ok (.istore 4, 2) := by decide +kernel
theorem dX1_daysTillGone_23 : decode cX1_daysTillGone 23 = .ok (.iload 4, 2) := by decide +kernel
theorem dX1_daysTillGone_25 : decode cX1_daysTillGone 25 = .ok (.iload_n 3, 1) := by decide +kernel
theorem dX1_daysTillGone_26 : decode cX1_daysTillGone 26 = .ok (.if_icmp .gt 30, 3) := by decide +kernel
theorem dX1_daysTillGone_29 : decode cX1_daysTillGone 29 = .ok (.aload_n 0, 1) := by decide +kernel
theorem dX1_daysTillGone_30 : decode cX1_daysTillGone 30 = .ok (.getfield 16, 3) := by decide +kernel
theorem dX1_daysTillGone_33 : decode cX1_daysTillGone 33 = .ok (.invokevirtual 139, 3) := by decide +kernel
theorem dX1_daysTillGone_36 : decode cX1_daysTillGone 36 = .ok (.aload_n 0, 1) := by decide +kernel
theorem dX1_daysTillGone_37 : decode cX1_daysTillGone 37 = .ok (.getfield 16, 3) := by decide +kernel
theorem dX1_daysTillGone_40 : decode cX1_daysTillGone 40 = .ok (.iload_n 1, 1) := by decide +kernel
theorem dX1_daysTillGone_41 : decode cX1_daysTillGone 41 = .ok (.invokevirtual 116, 3) := by decide +kernel
theorem dX1_daysTillGone_44 : decode cX1_daysTillGone 44 = .ok (.ifCond .ne 6, 3) := by decide +kernel
theorem dX1_daysTillGone_47 : decode cX1_daysTillGone 47 = .ok (.iload 4, 2) := by decide +kernel
theorem dX1_daysTillGone_49 : decode cX1_daysTillGone 49 = .ok (.ireturn, 1) := by decide +kernel
theorem dX1_daysTillGone_50 : decode cX1_daysTillGone 50 = .ok (.iinc 4 1, 3) := by decide +kernel
theorem dX1_daysTillGone_53 : decode cX1_daysTillGone 53 = .ok (.goto (-30), 3) := by decide +kernel
theorem dX1_daysTillGone_56 : decode cX1_daysTillGone 56 = .ok (.iload_n 3, 1) := by decide +kernel
theorem dX1_daysTillGone_57 : decode cX1_daysTillGone 57 = .ok (.iconst 1, 1) := by decide +kernel
theorem dX1_daysTillGone_58 : decode cX1_daysTillGone 58 = .ok (.iadd, 1) := by decide +kernel
theorem dX1_daysTillGone_59 : decode cX1_daysTillGone 59 = .ok (.ireturn, 1) := by decide +kernel
set_option maxRecDepth 20000 in
theorem ggX1_tryTillEnd_X0_copyFrom : GoodIn wsX1_tryTillEnd wsX0_copyFrom := goodIn_r _ [7, 8, 9, 10, 11, 12, 13, 14, 15, 16, 17, 18, 19, 20, 21, 22, 23, 24, 6, 25, 26, 27, 28, 29, 30, 31, 32, 33, 118, 119, 120, 121, 122, 123, 124, 125, 126, 127, 128, 129, 130, 131, 132] (by decide +kernel) (by decide +kernel)
set_option maxRecDepth 20000 in
theorem gX1_tryTillEnd_X0_copyFrom : GoodIn wsX1_tryTillEnd (wsV RX1 108 RX0 yX0_copyFrom wsX0_copyFrom) := goodIn_app (goodIn_of _ (by decide +kernel)) ggX1_tryTillEnd_X0_copyFrom
set_option maxRecDepth 20000 in
theorem ggX1_tryTillEnd_X0_withFate : GoodIn wsX1_tryTillEnd wsX0_withFate := goodIn_r _ [37, 21, 16, 118, 119, 120, 121, 122, 123, 124, 125, 126, 127, 128, 129, 130, 131, 132] (by decide +kernel) (by decide +kernel)
set_option maxRecDepth 20000 in
theorem gX1_tryTillEnd_X0_withFate : GoodIn wsX1_tryTillEnd (wsV RX1 102 RX0 yX0_withFate wsX0_withFate) := goodIn_app (goodIn_of _ (by decide +kernel)) ggX1_tryTillEnd_X0_withFate
set_option maxRecDepth 20000 in
theorem ggX1_tryTillEnd_X0_liveDay : GoodIn wsX1_tryTillEnd wsX0_liveDay := goodIn_r _ [41, 21, 22, 42, 43, 44, 6, 45, 46, 47, 48, 49, 20, 50, 51, 52, 53, 16, 54, 55, 56, 57, 15, 58, 59, 60, 61, 62, 63, 64, 65, 14, 9, 8, 10, 11, 66, 67, 68, 69, 70, 71, 72, 73, 18, 74, 75, 28, 76, 12, 13, 19, 77, 78, 79, 80, 81, 82, 83, 84, 85, 86, 87, 88, 89, 90, 91, 92, 93, 94, 95, 96, 17, 97, 98, 99, 100, 101, 102, 103, 104, 105, 106, 107, 108, 109, 110, 111, 112, 113, 114, 115, 118, 119, 120, 121, 122, 123, 124, 125, 126, 127, 128, 129, 130, 131, 132] (by decide +kernel) (by decide +kernel)
set_option maxRecDepth 20000 in
theorem gX1_tryTillEnd_X0_liveDay : GoodIn wsX1_tryTillEnd (wsV RX1 139 RX0 yX0_liveDay wsX0_liveDay) := goodIn_app (goodIn_of _ (by decide +kernel)) ggX1_tryTillEnd_X0_liveDay
theorem dX1_tryTillEnd_0 : decode cX1_tryTillEnd 0 = .ok (.aload_n 0, 1) := by decide +kernel
theorem dX1_tryTillEnd_1 : decode cX1_tryTillEnd 1 = .ok (.getfield 16, 3) := by decide +kernel
theorem dX1_tryTillEnd_4 : decode cX1_tryTillEnd 4 = .ok (.aload_n 0, 1) := by decide +kernel
theorem dX1_tryTillEnd_5 : decode cX1_tryTillEnd 5 = .ok (.getfield 10, 3) := by decide +kernel
theorem dX1_tryTillEnd_8 : decode cX1_tryTillEnd 8 = .ok (.invokevirtual 108, 3) := by decide +kernel
theorem dX1_tryTillEnd_11 : decode cX1_tryTillEnd 11 = .ok (.aload_n 0, 1) := by decide +kernel
theorem dX1_tryTillEnd_12 : decode cX1_tryTillEnd 12 = .ok (.getfield 16, 3) := by decide +kernel
theorem dX1_tryTillEnd_15 : decode cX1_tryTillEnd 15 = .ok (.iconst 0, 1) := by decide +kernel
theorem dX1_tryTillEnd_16 : decode cX1_tryTillEnd 16 = .ok (.invokevirtual 102, 3) := by decide +kernel
theorem dX1_tryTillEnd_19 : decode cX1_tryTillEnd 19 = .ok (.iconst 1, 1) := by decide +kernel
theorem dX1_tryTillEnd_20 : decode cX1_tryTillEnd 20 = .ok (.if_icmp .gt 5, 3) := by decide +kernel
theorem dX1_tryTillEnd_23 : decode cX1_tryTillEnd 23 = .ok (.iconst 0, 1) := by decide +kernel
theorem dX1_tryTillEnd_24 : decode cX1_tryTillEnd 24 = .ok (.ireturn, 1) := by decide +kernel
theorem dX1_tryTillEnd_25 : decode cX1_tryTillEnd 25 = .ok (.iconst 1, 1) := by decide +kernel
theorem dX1_tryTillEnd_26 : decode cX1_tryTillEnd 26 = .ok (.istore_n 1, 1) := by decide +kernel
theorem dX1_tryTillEnd_27 : decode cX1_tryTillEnd 27 = .ok (.iload_n 1, 1) := by decide +kernel
theorem dX1_tryTillEnd_28 : decode cX1_tryTillEnd 28 = .ok (.bipush 100, 2) := by decide +kernel
theorem dX1_tryTillEnd_30 : decode cX1_tryTillEnd 30 = .ok (.if_icmp .gt 30, 3) := by decide +kernel
theorem dX1_tryTillEnd_33 : decode cX1_tryTillEnd 33 = .ok (.aload_n 0, 1) := by decide +kernel
theorem dX1_tryTillEnd_34 : decode cX1_tryTillEnd 34 = .ok (.getfield 16, 3) := by decide +kernel
theorem dX1_tryTillEnd_37 : decode cX1_tryTillEnd 37 = .ok (.invokevirtual 139, 3) := by decide +kernel
theorem dX1_tryTillEnd_40 : decode cX1_tryTillEnd 40 = .ok (.aload_n 0, 1) := by decide +kernel
theorem dX1_tryTillEnd_41 : decode cX1_tryTillEnd 41 = .ok (.getfield 16, 3) := by decide +kernel
theorem dX1_tryTillEnd_44 : decode cX1_tryTillEnd 44 = .ok (.iconst 0, 1) := by decide +kernel
theorem dX1_tryTillEnd_45 : decode cX1_tryTillEnd 45 = .ok (.invokevirtual 102, 3) := by decide +kernel
theorem dX1_tryTillEnd_48 : decode cX1_tryTillEnd 48 = .ok (.iconst 1, 1) := by decide +kernel
theorem dX1_tryTillEnd_49 : decode cX1_tryTillEnd 49 = .ok (.if_icmp .gt 5, 3) := by decide +kernel
theorem dX1_tryTillEnd_52 : decode cX1_tryTillEnd 52 = .ok (.iload_n 1, 1) := by decide +kernel
theorem dX1_tryTillEnd_53 : decode cX1_tryTillEnd 53 = .ok (.ireturn, 1) := by decide +kernel
theorem dX1_tryTillEnd_54 : decode cX1_tryTillEnd 54 = .ok (.iinc 1 1, 3) := by decide +kernel
theorem dX1_tryTillEnd_57 : decode cX1_tryTillEnd 57 = .ok (.goto (-30), 3) := by decide +kernel
theorem dX1_tryTillEnd_60 : decode cX1_tryTillEnd 60 = .ok (.iconst (-1), 1) := by decide +kernel
theorem dX1_tryTillEnd_61 : decode cX1_tryTillEnd 61 = .ok (.ireturn, 1) := by decide +kernel
theorem dX1_requireCage_0 : decode cX1_requireCage 0 = .ok (.iload_n 1, 1) := by decide +kernel
theorem dX1_requireCage_1 : decode cX1_requireCage 1 = .ok (.ifCond .lt 9, 3) := by decide +kernel
theorem dX1_requireCage_4 : decode cX1_requireCage 4 = .ok (.iload_n 1, 1) := by decide +kernel
theorem dX1_requireCage_5 : decode cX1_requireCage 5 = .ok (.bipush 20, 2) := by decide +kernel
theorem dX1_requireCage_7 : decode cX1_requireCage 7 = .ok (.if_icmp .lt 13, 3) := by decide +kernel
theorem dX1_requireCage_10 : decode cX1_requireCage 10 = .ok (.new 142, 3) := by decide +kernel
theorem dX1_requireCage_13 : decode cX1_requireCage 13 = .ok (.dup, 1) := by decide +kernel
theorem dX1_requireCage_14 : decode cX1_requireCage 14 = .ok (.ldc 144, 2) := by decide +kernel
theorem dX1_requireCage_16 : decode cX1_requireCage 16 = .ok (.invokespecial 146, 3) := by decide +kernel
theorem dX1_requireCage_19 : decode cX1_requireCage 19 = .ok (.athrow, 1) := by decide +kernel
theorem dX1_requireCage_20 : decode cX1_requireCage 20 = .ok (.return_, 1) := by decide +kernel
set_option maxRecDepth 20000 in
theorem ggX1_requireRule_X0_isRule : GoodIn wsX1_requireRule wsX0_isRule := goodIn_r _ [8, 9, 12, 13, 14, 15, 16, 17, 18, 19, 20, 21, 22, 23, 24, 25, 26] (by decide +kernel) (by decide +kernel)
set_option maxRecDepth 20000 in
theorem gX1_requireRule_X0_isRule : GoodIn wsX1_requireRule (wsV RX1 147 RX0 yX0_isRule wsX0_isRule) := goodIn_app (goodIn_of _ (by decide +kernel)) ggX1_requireRule_X0_isRule
theorem dX1_requireRule_0 : decode cX1_requireRule 0 = .ok (.aload_n 0, 1) := by decide +kernel
theorem dX1_requireRule_1 : decode cX1_requireRule 1 = .ok (.getfield 10, 3) := by decide +kernel
theorem dX1_requireRule_4 : decode cX1_requireRule 4 = .ok (.iload_n 1, 1) := by decide +kernel
theorem dX1_requireRule_5 : decode cX1_requireRule 5 = .ok (.invokevirtual 147, 3) := by decide +kernel
theorem dX1_requireRule_8 : decode cX1_requireRule 8 = .ok (.ifCond .ne 13, 3) := by decide +kernel
theorem dX1_requireRule_11 : decode cX1_requireRule 11 = .ok (.new 142, 3) := by decide +kernel
theorem dX1_requireRule_14 : decode cX1_requireRule 14 = .ok (.dup, 1) := by decide +kernel
theorem dX1_requireRule_15 : decode cX1_requireRule 15 = .ok (.ldc 150, 2) := by decide +kernel
theorem dX1_requireRule_17 : decode cX1_requireRule 17 = .ok (.invokespecial 146, 3) := by decide +kernel
theorem dX1_requireRule_20 : decode cX1_requireRule 20 = .ok (.athrow, 1) := by decide +kernel
theorem dX1_requireRule_21 : decode cX1_requireRule 21 = .ok (.return_, 1) := by decide +kernel
theorem dX1_requireAnswer_0 : decode cX1_requireAnswer 0 = .ok (.iload_n 1, 1) := by decide +kernel
theorem dX1_requireAnswer_1 : decode cX1_requireAnswer 1 = .ok (.ifCond .lt 8, 3) := by decide +kernel
theorem dX1_requireAnswer_4 : decode cX1_requireAnswer 4 = .ok (.iload_n 1, 1) := by decide +kernel
theorem dX1_requireAnswer_5 : decode cX1_requireAnswer 5 = .ok (.iload_n 2, 1) := by decide +kernel
theorem dX1_requireAnswer_6 : decode cX1_requireAnswer 6 = .ok (.if_icmp .lt 13, 3) := by decide +kernel
theorem dX1_requireAnswer_9 : decode cX1_requireAnswer 9 = .ok (.new 142, 3) := by decide +kernel
theorem dX1_requireAnswer_12 : decode cX1_requireAnswer 12 = .ok (.dup, 1) := by decide +kernel
theorem dX1_requireAnswer_13 : decode cX1_requireAnswer 13 = .ok (.ldc 152, 2) := by decide +kernel
theorem dX1_requireAnswer_15 : decode cX1_requireAnswer 15 = .ok (.invokespecial 146, 3) := by decide +kernel
theorem dX1_requireAnswer_18 : decode cX1_requireAnswer 18 = .ok (.athrow, 1) := by decide +kernel
theorem dX1_requireAnswer_19 : decode cX1_requireAnswer 19 = .ok (.return_, 1) := by decide +kernel
theorem dX1_requireNumber_0 : decode cX1_requireNumber 0 = .ok (.iload_n 1, 1) := by decide +kernel
theorem dX1_requireNumber_1 : decode cX1_requireNumber 1 = .ok (.iconst 1, 1) := by decide +kernel
theorem dX1_requireNumber_2 : decode cX1_requireNumber 2 = .ok (.if_icmp .lt 9, 3) := by decide +kernel
theorem dX1_requireNumber_5 : decode cX1_requireNumber 5 = .ok (.iload_n 1, 1) := by decide +kernel
theorem dX1_requireNumber_6 : decode cX1_requireNumber 6 = .ok (.bipush 15, 2) := by decide +kernel
theorem dX1_requireNumber_8 : decode cX1_requireNumber 8 = .ok (.if_icmp .le 13, 3) := by decide +kernel
theorem dX1_requireNumber_11 : decode cX1_requireNumber 11 = .ok (.new 23, 3) := by decide +kernel
theorem dX1_requireNumber_14 : decode cX1_requireNumber 14 = .ok (.dup, 1) := by decide +kernel
theorem dX1_requireNumber_15 : decode cX1_requireNumber 15 = .ok (.ldc 154, 2) := by decide +kernel
theorem dX1_requireNumber_17 : decode cX1_requireNumber 17 = .ok (.invokespecial 27, 3) := by decide +kernel
theorem dX1_requireNumber_20 : decode cX1_requireNumber 20 = .ok (.athrow, 1) := by decide +kernel
theorem dX1_requireNumber_21 : decode cX1_requireNumber 21 = .ok (.return_, 1) := by decide +kernel
theorem dX1_requireDays_0 : decode cX1_requireDays 0 = .ok (.iload_n 1, 1) := by decide +kernel
theorem dX1_requireDays_1 : decode cX1_requireDays 1 = .ok (.iconst 1, 1) := by decide +kernel
theorem dX1_requireDays_2 : decode cX1_requireDays 2 = .ok (.if_icmp .lt 9, 3) := by decide +kernel
theorem dX1_requireDays_5 : decode cX1_requireDays 5 = .ok (.iload_n 1, 1) := by decide +kernel
theorem dX1_requireDays_6 : decode cX1_requireDays 6 = .ok (.bipush 50, 2) := by decide +kernel
theorem dX1_requireDays_8 : decode cX1_requireDays 8 = .ok (.if_icmp .le 13, 3) := by decide +kernel
theorem dX1_requireDays_11 : decode cX1_requireDays 11 = .ok (.new 23, 3) := by decide +kernel
theorem dX1_requireDays_14 : decode cX1_requireDays 14 = .ok (.dup, 1) := by decide +kernel
theorem dX1_requireDays_15 : decode cX1_requireDays 15 = .ok (.ldc 156, 2) := by decide +kernel
theorem dX1_requireDays_17 : decode cX1_requireDays 17 = .ok (.invokespecial 27, 3) := by decide +kernel
theorem dX1_requireDays_20 : decode cX1_requireDays 20 = .ok (.athrow, 1) := by decide +kernel
theorem dX1_requireDays_21 : decode cX1_requireDays 21 = .ok (.return_, 1) := by decide +kernel
set_option maxRecDepth 20000 in
theorem ggX1_requireThere_X0_isThere : GoodIn wsX1_requireThere wsX0_isThere := goodIn_r _ [8, 9, 10, 13, 14, 15, 16, 17, 18, 19, 20, 21, 22, 23, 24, 25, 26, 27] (by decide +kernel) (by decide +kernel)
set_option maxRecDepth 20000 in
theorem gX1_requireThere_X0_isThere : GoodIn wsX1_requireThere (wsV RX1 116 RX0 yX0_isThere wsX0_isThere) := goodIn_app (goodIn_of _ (by decide +kernel)) ggX1_requireThere_X0_isThere
theorem dX1_requireThere_0 : decode cX1_requireThere 0 = .ok (.aload_n 0, 1) := by decide +kernel
theorem dX1_requireThere_1 : decode cX1_requireThere 1 = .ok (.getfield 10, 3) := by decide +kernel
theorem dX1_requireThere_4 : decode cX1_requireThere 4 = .ok (.iload_n 1, 1) := by decide +kernel
theorem dX1_requireThere_5 : decode cX1_requireThere 5 = .ok (.invokevirtual 116, 3) := by decide +kernel
theorem dX1_requireThere_8 : decode cX1_requireThere 8 = .ok (.ifCond .ne 13, 3) := by decide +kernel
theorem dX1_requireThere_11 : decode cX1_requireThere 11 = .ok (.new 40, 3) := by decide +kernel
theorem dX1_requireThere_14 : decode cX1_requireThere 14 = .ok (.dup, 1) := by decide +kernel
theorem dX1_requireThere_15 : decode cX1_requireThere 15 = .ok (.ldc 158, 2) := by decide +kernel
theorem dX1_requireThere_17 : decode cX1_requireThere 17 = .ok (.invokespecial 44, 3) := by decide +kernel
theorem dX1_requireThere_20 : decode cX1_requireThere 20 = .ok (.athrow, 1) := by decide +kernel
theorem dX1_requireThere_21 : decode cX1_requireThere 21 = .ok (.return_, 1) := by decide +kernel
theorem dX1_requireFree_0 : decode cX1_requireFree 0 = .ok (.aload_n 0, 1) := by decide +kernel
theorem dX1_requireFree_1 : decode cX1_requireFree 1 = .ok (.getfield 10, 3) := by decide +kernel
theorem dX1_requireFree_4 : decode cX1_requireFree 4 = .ok (.getfield 82, 3) := by decide +kernel
theorem dX1_requireFree_7 : decode cX1_requireFree 7 = .ok (.iload_n 1, 1) := by decide +kernel
theorem dX1_requireFree_8 : decode cX1_requireFree 8 = .ok (.iaload, 1) := by decide +kernel
theorem dX1_requireFree_9 : decode cX1_requireFree 9 = .ok (.iconst (-1), 1) := by decide +kernel
theorem dX1_requireFree_10 : decode cX1_requireFree 10 = .ok (.if_icmp .eq 13, 3) := by decide +kernel
theorem dX1_requireFree_13 : decode cX1_requireFree 13 = .ok (.new 40, 3) := by decide +kernel
theorem dX1_requireFree_16 : decode cX1_requireFree 16 = .ok (.dup, 1) := by decide +kernel
theorem dX1_requireFree_17 : decode cX1_requireFree 17 = .ok (.ldc 160, 2) := by decide +kernel
theorem dX1_requireFree_19 : decode cX1_requireFree 19 = .ok (.invokespecial 44, 3) := by decide +kernel
theorem dX1_requireFree_22 : decode cX1_requireFree 22 = .ok (.athrow, 1) := by decide +kernel
theorem dX1_requireFree_23 : decode cX1_requireFree 23 = .ok (.return_, 1) := by decide +kernel

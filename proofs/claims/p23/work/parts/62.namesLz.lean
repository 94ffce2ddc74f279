set_option maxRecDepth 20000 in
theorem ggL_zoo_X1_init : GoodIn wsL_zoo wsX1_init := goodIn_r _ [6, 7, 8, 9, 10, 11, 12, 13, 14, 15, 16, 17, 18, 19, 20, 21, 22, 23, 24, 25, 26, 27, 28, 29, 30, 31, 32, 230, 231, 232, 233, 234, 235, 236, 237, 238, 239, 240, 241, 242, 243, 244, 228, 229] (by decide +kernel) (by decide +kernel)
set_option maxRecDepth 20000 in
theorem gL_zoo_X1_init : GoodIn wsL_zoo (wsX1_init) := ggL_zoo_X1_init
set_option maxRecDepth 20000 in
theorem ggL_zoo_L_cell : GoodIn wsL_zoo wsL_cell := goodIn_r _ [36, 37] (by decide +kernel) (by decide +kernel)
set_option maxRecDepth 20000 in
theorem gL_zoo_L_cell : GoodIn wsL_zoo (va_wsS RL 12 yL_cell wsL_cell) := goodIn_app (goodIn_of _ (by decide +kernel)) ggL_zoo_L_cell
set_option maxRecDepth 20000 in
theorem ggL_zoo_L_below : GoodIn wsL_zoo wsL_below := goodIn_r _ [40, 41] (by decide +kernel) (by decide +kernel)
set_option maxRecDepth 20000 in
theorem gL_zoo_L_below : GoodIn wsL_zoo (va_wsS RL 18 yL_below wsL_below) := goodIn_app (goodIn_of _ (by decide +kernel)) ggL_zoo_L_below
set_option maxRecDepth 20000 in
theorem ggL_zoo_L_come : GoodIn wsL_zoo wsL_come := goodIn_ca (goodIn_ca (goodIn_ca (goodIn_r _ [44, 45, 46, 47, 48, 3, 49, 50, 51, 52, 53, 13, 54, 55, 56, 57, 58, 59, 60, 61, 62, 63, 64, 65, 66, 67, 68, 69, 70, 12, 71, 72, 20, 21, 22, 23, 24, 25, 26, 27, 28, 29, 30, 31, 32, 73, 74, 75, 228, 229, 230, 231, 232, 233, 234, 235, 236, 237, 238, 239, 240, 241, 242, 243, 244] (by decide +kernel) (by decide +kernel)) (goodIn_sub (fun _ h => List.mem_cons_of_mem _ (List.mem_append_left _ (List.mem_append_left _ (List.mem_append_right _ h)))) (by decide +kernel))) (goodIn_sub (fun _ h => List.mem_cons_of_mem _ (List.mem_append_left _ (List.mem_append_right _ h))) (by decide +kernel))) (goodIn_sub (fun _ h => List.mem_cons_of_mem _ (List.mem_append_right _ h)) (by decide +kernel))
set_option maxRecDepth 20000 in
theorem gL_zoo_L_come : GoodIn wsL_zoo (va_wsS RL 22 yL_come wsL_come) := goodIn_app (goodIn_of _ (by decide +kernel)) ggL_zoo_L_come
set_option maxRecDepth 20000 in
theorem ggL_zoo_X1_count : GoodIn wsL_zoo wsX1_count := goodIn_ca (goodIn_r _ [79, 13, 80, 81, 82, 3, 83, 58, 59, 84, 85, 86, 12, 87, 88, 72, 89, 90, 91, 92, 28, 93, 94, 95, 96, 26, 97, 98, 99, 100, 20, 101, 102, 103, 104, 105, 106, 107, 108, 109, 110, 111, 228, 229, 230, 231, 232, 233, 234, 235, 236, 237, 238, 239, 240, 241, 242, 243, 244] (by decide +kernel) (by decide +kernel)) (goodIn_sub (fun _ h => List.mem_cons_of_mem _ (List.mem_append_right _ h)) (by decide +kernel))
set_option maxRecDepth 20000 in
theorem gL_zoo_X1_count : GoodIn wsL_zoo (wsV RL 26 RX1 yX1_count wsX1_count) := goodIn_app (goodIn_of _ (by decide +kernel)) ggL_zoo_X1_count
set_option maxRecDepth 20000 in
theorem ggL_zoo_X1_rule : GoodIn wsL_zoo wsX1_rule := goodIn_ca (goodIn_r _ [115, 13, 116, 117, 118, 3, 119, 58, 59, 120, 121, 122, 12, 123, 72, 80, 81, 82, 83, 124, 125, 126, 127, 20, 21, 22, 23, 24, 25, 26, 27, 28, 29, 30, 128, 129, 130, 131, 132, 228, 229, 230, 231, 232, 233, 234, 235, 236, 237, 238, 239, 240, 241, 242, 243, 244] (by decide +kernel) (by decide +kernel)) (goodIn_sub (fun _ h => List.mem_cons_of_mem _ (List.mem_append_right _ h)) (by decide +kernel))
set_option maxRecDepth 20000 in
theorem gL_zoo_X1_rule : GoodIn wsL_zoo (wsV RL 30 RX1 yX1_rule wsX1_rule) := goodIn_app (goodIn_of _ (by decide +kernel)) ggL_zoo_X1_rule
set_option maxRecDepth 20000 in
theorem ggL_zoo_X1_cage : GoodIn wsL_zoo wsX1_cage := goodIn_ca (goodIn_r _ [136, 13, 54, 55, 56, 3, 57, 58, 59, 228, 229, 230, 231, 232, 233, 234, 235, 236, 237, 238, 239, 240, 241, 242, 243, 244] (by decide +kernel) (by decide +kernel)) (goodIn_sub (fun _ h => List.mem_cons_of_mem _ (List.mem_append_right _ h)) (by decide +kernel))
set_option maxRecDepth 20000 in
theorem gL_zoo_X1_cage : GoodIn wsL_zoo (wsV RL 33 RX1 yX1_cage wsX1_cage) := goodIn_app (goodIn_of _ (by decide +kernel)) ggL_zoo_X1_cage
set_option maxRecDepth 20000 in
theorem ggL_zoo_X1_move : GoodIn wsL_zoo wsX1_move := goodIn_ca (goodIn_ca (goodIn_r _ [140, 13, 116, 117, 118, 3, 119, 58, 59, 120, 121, 122, 12, 123, 72, 54, 55, 56, 57, 141, 142, 143, 144, 52, 53, 145, 102, 103, 104, 28, 64, 65, 66, 67, 146, 147, 148, 149, 27, 32, 101, 73, 74, 75, 150, 151, 152, 153, 228, 229, 230, 231, 232, 233, 234, 235, 236, 237, 238, 239, 240, 241, 242, 243, 244] (by decide +kernel) (by decide +kernel)) (goodIn_sub (fun _ h => List.mem_cons_of_mem _ (List.mem_append_right _ h)) (by decide +kernel))) (goodIn_sub (fun _ h => List.mem_cons_of_mem _ (List.mem_append_left _ (List.mem_append_right _ h))) (by decide +kernel))
set_option maxRecDepth 20000 in
theorem gL_zoo_X1_move : GoodIn wsL_zoo (wsV RL 36 RX1 yX1_move wsX1_move) := goodIn_app (goodIn_of _ (by decide +kernel)) ggL_zoo_X1_move
set_option maxRecDepth 20000 in
theorem ggL_zoo_X1_alter : GoodIn wsL_zoo wsX1_alter := goodIn_ca (goodIn_ca (goodIn_ca (goodIn_r _ [157, 13, 116, 117, 118, 3, 119, 58, 59, 120, 121, 122, 12, 123, 72, 60, 61, 62, 63, 50, 51, 141, 142, 143, 144, 52, 53, 145, 102, 103, 104, 28, 228, 229, 230, 231, 232, 233, 234, 235, 236, 237, 238, 239, 240, 241, 242, 243, 244] (by decide +kernel) (by decide +kernel)) (goodIn_sub (fun _ h => List.mem_cons_of_mem _ (List.mem_append_right _ h)) (by decide +kernel))) (goodIn_sub (fun _ h => List.mem_cons_of_mem _ (List.mem_append_left _ (List.mem_append_left _ (List.mem_append_right _ h)))) (by decide +kernel))) (goodIn_sub (fun _ h => List.mem_cons_of_mem _ (List.mem_append_left _ (List.mem_append_right _ h))) (by decide +kernel))
set_option maxRecDepth 20000 in
theorem gL_zoo_X1_alter : GoodIn wsL_zoo (wsV RL 39 RX1 yX1_alter wsX1_alter) := goodIn_app (goodIn_of _ (by decide +kernel)) ggL_zoo_X1_alter
set_option maxRecDepth 20000 in
theorem ggL_zoo_X1_pass : GoodIn wsL_zoo wsX1_pass := goodIn_ca (goodIn_r _ [161, 13, 162, 163, 164, 3, 165, 50, 51, 166, 90, 91, 12, 92, 72, 28, 167, 168, 169, 170, 171, 172, 173, 174, 88, 175, 176, 177, 178, 179, 180, 181, 182, 32, 101, 102, 103, 104, 183, 184, 185, 186, 27, 187, 188, 189, 190, 191, 192, 193, 194, 26, 21, 20, 22, 23, 129, 130, 131, 132, 195, 196, 197, 198, 30, 199, 200, 201, 202, 24, 25, 31, 203, 204, 205, 206, 150, 151, 152, 153, 207, 208, 209, 210, 211, 212, 213, 214, 215, 216, 217, 218, 29, 219, 220, 221, 222, 128, 121, 122, 123, 223, 69, 70, 71, 73, 74, 75, 224, 225, 226, 227, 228, 229, 230, 231, 232, 233, 234, 235, 236, 237, 238, 239, 240, 241, 242, 243, 244] (by decide +kernel) (by decide +kernel)) (goodIn_sub (fun _ h => List.mem_cons_of_mem _ (List.mem_append_left _ (List.mem_append_left _ (List.mem_append_right _ h)))) (by decide +kernel))
set_option maxRecDepth 20000 in
theorem gL_zoo_X1_pass : GoodIn wsL_zoo (wsV RL 42 RX1 yX1_pass wsX1_pass) := goodIn_app (goodIn_of _ (by decide +kernel)) ggL_zoo_X1_pass
theorem dL_zoo_0 : decode cL_zoo 0 = .ok (.new 9, 3) := by decide +kernel
theorem dL_zoo_3 : decode cL_zoo 3 = .ok (.dup, 1) := by decide +kernel
theorem dL_zoo_4 : decode cL_zoo 4 = .ok (.invokespecial 11, 3) := by decide +kernel
theorem dL_zoo_7 : decode cL_zoo 7 = .ok (.astore_n 1, 1) := by decide +kernel
theorem dL_zoo_8 : decode cL_zoo 8 = .ok (.aload_n 0, 1) := by decide +kernel
theorem dL_zoo_9 : decode cL_zoo 9 = .ok (.iconst 0, 1) := by decide +kernel
theorem dL_zoo_10 : decode cL_zoo 10 = .ok (.invokestatic 12, 3) := by decide +kernel
theorem dL_zoo_13 : decode cL_zoo 13 = .ok (.bipush 19, 2) := by decide +kernel
theorem dL_zoo_15 : decode cL_zoo 15 = .ok (.invokestatic 18, 3) := by decide +kernel
theorem dL_zoo_18 : decode cL_zoo 18 = .ok (.istore_n 2, 1) := by decide +kernel
theorem dL_zoo_19 : decode cL_zoo 19 = .ok (.iconst 1, 1) := by decide +kernel
theorem dL_zoo_20 : decode cL_zoo 20 = .ok (.aload_n 0, 1) := by decide +kernel
theorem dL_zoo_21 : decode cL_zoo 21 = .ok (.iconst 0, 1) := by decide +kernel
theorem dL_zoo_22 : decode cL_zoo 22 = .ok (.invokestatic 12, 3) := by decide +kernel
theorem dL_zoo_25 : decode cL_zoo 25 = .ok (.iconst 5, 1) := by decide +kernel
theorem dL_zoo_26 : decode cL_zoo 26 = .ok (.ishr, 1) := by decide +kernel
theorem dL_zoo_27 : decode cL_zoo 27 = .ok (.bipush 6, 2) := by decide +kernel
theorem dL_zoo_29 : decode cL_zoo 29 = .ok (.invokestatic 18, 3) := by decide +kernel
theorem dL_zoo_32 : decode cL_zoo 32 = .ok (.iadd, 1) := by decide +kernel
theorem dL_zoo_33 : decode cL_zoo 33 = .ok (.istore_n 3, 1) := by decide +kernel
theorem dL_zoo_34 : decode cL_zoo 34 = .ok (.iconst 0, 1) := by decide +kernel
theorem dL_zoo_35 : decode cL_zoo 35 = .ok (.istore 4, 2) := by decide +kernel
theorem dL_zoo_37 : decode cL_zoo 37 = .ok (.iload 4, 2) := by decide +kernel
theorem dL_zoo_39 : decode cL_zoo 39 = .ok (.iload_n 2, 1) := by decide +kernel
theorem dL_zoo_40 : decode cL_zoo 40 = .ok (.if_icmp .ge 102, 3) := by decide +kernel
theorem dL_zoo_43 : decode cL_zoo 43 = .ok (.aload_n 0, 1) := by decide +kernel
theorem dL_zoo_44 : decode cL_zoo 44 = .ok (.iconst 1, 1) := by decide +kernel
theorem dL_zoo_45 : decode cL_zoo 45 = .ok (.iload 4, 2) := by decide +kernel
theorem dL_zoo_47 : decode cL_zoo 47 = .ok (.bipush 6, 2) := by decide +kernel
theorem dL_zoo_49 : decode cL_zoo 49 = .ok (.irem, 1) := by decide +kernel
theorem dL_zoo_50 : decode cL_zoo 50 = .ok (.iadd, 1) := by decide +kernel
theorem dL_zoo_51 : decode cL_zoo 51 = .ok (.invokestatic 12, 3) := by decide +kernel
theorem dL_zoo_54 : decode cL_zoo 54 = .ok (.iload 4, 2) := by decide +kernel
theorem dL_zoo_56 : decode cL_zoo 56 = .ok (.bipush 6, 2) := by decide +kernel
theorem dL_zoo_58 : decode cL_zoo 58 = .ok (.idiv, 1) := by decide +kernel
theorem dL_zoo_59 : decode cL_zoo 59 = .ok (.bipush 7, 2) := by decide +kernel
theorem dL_zoo_61 : decode cL_zoo 61 = .ok (.imul, 1) := by decide +kernel
theorem dL_zoo_62 : decode cL_zoo 62 = .ok (.ishr, 1) := by decide +kernel
theorem dL_zoo_63 : decode cL_zoo 63 = .ok (.bipush 23, 2) := by decide +kernel
theorem dL_zoo_65 : decode cL_zoo 65 = .ok (.iload 4, 2) := by decide +kernel
theorem dL_zoo_67 : decode cL_zoo 67 = .ok (.imul, 1) := by decide +kernel
theorem dL_zoo_68 : decode cL_zoo 68 = .ok (.iadd, 1) := by decide +kernel
theorem dL_zoo_69 : decode cL_zoo 69 = .ok (.istore 5, 2) := by decide +kernel
theorem dL_zoo_71 : decode cL_zoo 71 = .ok (.aload_n 1, 1) := by decide +kernel
theorem dL_zoo_72 : decode cL_zoo 72 = .ok (.iload 5, 2) := by decide +kernel
theorem dL_zoo_74 : decode cL_zoo 74 = .ok (.bipush 20, 2) := by decide +kernel
theorem dL_zoo_76 : decode cL_zoo 76 = .ok (.invokestatic 18, 3) := by decide +kernel
theorem dL_zoo_79 : decode cL_zoo 79 = .ok (.iload 5, 2) := by decide +kernel
theorem dL_zoo_81 : decode cL_zoo 81 = .ok (.iconst 2, 1) := by decide +kernel
theorem dL_zoo_82 : decode cL_zoo 82 = .ok (.ishr, 1) := by decide +kernel
theorem dL_zoo_83 : decode cL_zoo 83 = .ok (.iload_n 3, 1) := by decide +kernel
theorem dL_zoo_84 : decode cL_zoo 84 = .ok (.invokestatic 18, 3) := by decide +kernel
theorem dL_zoo_87 : decode cL_zoo 87 = .ok (.aload_n 0, 1) := by decide +kernel
theorem dL_zoo_88 : decode cL_zoo 88 = .ok (.bipush 7, 2) := by decide +kernel
theorem dL_zoo_90 : decode cL_zoo 90 = .ok (.invokestatic 12, 3) := by decide +kernel
theorem dL_zoo_93 : decode cL_zoo 93 = .ok (.bipush 6, 2) := by decide +kernel
theorem dL_zoo_95 : decode cL_zoo 95 = .ok (.invokestatic 18, 3) := by decide +kernel
theorem dL_zoo_98 : decode cL_zoo 98 = .ok (.iadd, 1) := by decide +kernel
theorem dL_zoo_99 : decode cL_zoo 99 = .ok (.bipush 6, 2) := by decide +kernel
theorem dL_zoo_101 : decode cL_zoo 101 = .ok (.irem, 1) := by decide +kernel
theorem dL_zoo_102 : decode cL_zoo 102 = .ok (.iconst 1, 1) := by decide +kernel
theorem dL_zoo_103 : decode cL_zoo 103 = .ok (.iload 5, 2) := by decide +kernel
theorem dL_zoo_105 : decode cL_zoo 105 = .ok (.iconst 4, 1) := by decide +kernel
theorem dL_zoo_106 : decode cL_zoo 106 = .ok (.ishr, 1) := by decide +kernel
theorem dL_zoo_107 : decode cL_zoo 107 = .ok (.aload_n 0, 1) := by decide +kernel
theorem dL_zoo_108 : decode cL_zoo 108 = .ok (.bipush 7, 2) := by decide +kernel
theorem dL_zoo_110 : decode cL_zoo 110 = .ok (.invokestatic 12, 3) := by decide +kernel
theorem dL_zoo_113 : decode cL_zoo 113 = .ok (.iconst 4, 1) := by decide +kernel
theorem dL_zoo_114 : decode cL_zoo 114 = .ok (.ishr, 1) := by decide +kernel
theorem dL_zoo_115 : decode cL_zoo 115 = .ok (.iconst 2, 1) := by decide +kernel
theorem dL_zoo_116 : decode cL_zoo 116 = .ok (.invokestatic 18, 3) := by decide +kernel
theorem dL_zoo_119 : decode cL_zoo 119 = .ok (.ifCond .ne 8, 3) := by decide +kernel
theorem dL_zoo_122 : decode cL_zoo 122 = .ok (.bipush 15, 2) := by decide +kernel
theorem dL_zoo_124 : decode cL_zoo 124 = .ok (.goto 4, 3) := by decide +kernel
theorem dL_zoo_127 : decode cL_zoo 127 = .ok (.iconst 5, 1) := by decide +kernel
theorem dL_zoo_128 : decode cL_zoo 128 = .ok (.invokestatic 18, 3) := by decide +kernel
theorem dL_zoo_131 : decode cL_zoo 131 = .ok (.iadd, 1) := by decide +kernel
theorem dL_zoo_132 : decode cL_zoo 132 = .ok (.invokestatic 22, 3) := by decide +kernel
theorem dL_zoo_135 : decode cL_zoo 135 = .ok (.pop, 1) := by decide +kernel
theorem dL_zoo_136 : decode cL_zoo 136 = .ok (.iinc 4 1, 3) := by decide +kernel
theorem dL_zoo_139 : decode cL_zoo 139 = .ok (.goto (-102), 3) := by decide +kernel
theorem dL_zoo_142 : decode cL_zoo 142 = .ok (.iconst 0, 1) := by decide +kernel
theorem dL_zoo_143 : decode cL_zoo 143 = .ok (.istore 4, 2) := by decide +kernel
theorem dL_zoo_145 : decode cL_zoo 145 = .ok (.iload 4, 2) := by decide +kernel
theorem dL_zoo_147 : decode cL_zoo 147 = .ok (.bipush 6, 2) := by decide +kernel
theorem dL_zoo_149 : decode cL_zoo 149 = .ok (.if_icmp .ge 209, 3) := by decide +kernel
theorem dL_zoo_152 : decode cL_zoo 152 = .ok (.aload_n 1, 1) := by decide +kernel
theorem dL_zoo_153 : decode cL_zoo 153 = .ok (.iconst 2, 1) := by decide +kernel
theorem dL_zoo_154 : decode cL_zoo 154 = .ok (.invokevirtual 26, 3) := by decide +kernel
theorem dL_zoo_157 : decode cL_zoo 157 = .ok (.ifCond .le 201, 3) := by decide +kernel
theorem dL_zoo_160 : decode cL_zoo 160 = .ok (.aload_n 0, 1) := by decide +kernel
theorem dL_zoo_161 : decode cL_zoo 161 = .ok (.bipush 8, 2) := by decide +kernel
theorem dL_zoo_163 : decode cL_zoo 163 = .ok (.iload 4, 2) := by decide +kernel
theorem dL_zoo_165 : decode cL_zoo 165 = .ok (.iadd, 1) := by decide +kernel
theorem dL_zoo_166 : decode cL_zoo 166 = .ok (.invokestatic 12, 3) := by decide +kernel
theorem dL_zoo_169 : decode cL_zoo 169 = .ok (.istore 5, 2) := by decide +kernel
theorem dL_zoo_171 : decode cL_zoo 171 = .ok (.iload 5, 2) := by decide +kernel
theorem dL_zoo_173 : decode cL_zoo 173 = .ok (.aload_n 1, 1) := by decide +kernel
theorem dL_zoo_174 : decode cL_zoo 174 = .ok (.iconst 2, 1) := by decide +kernel
theorem dL_zoo_175 : decode cL_zoo 175 = .ok (.invokevirtual 26, 3) := by decide +kernel
theorem dL_zoo_178 : decode cL_zoo 178 = .ok (.invokestatic 18, 3) := by decide +kernel
theorem dL_zoo_181 : decode cL_zoo 181 = .ok (.istore 6, 2) := by decide +kernel
theorem dL_zoo_183 : decode cL_zoo 183 = .ok (.aload_n 1, 1) := by decide +kernel
theorem dL_zoo_184 : decode cL_zoo 184 = .ok (.iload 6, 2) := by decide +kernel
theorem dL_zoo_186 : decode cL_zoo 186 = .ok (.bipush 9, 2) := by decide +kernel
theorem dL_zoo_188 : decode cL_zoo 188 = .ok (.invokevirtual 30, 3) := by decide +kernel
theorem dL_zoo_191 : decode cL_zoo 191 = .ok (.ifCond .le 6, 3) := by decide +kernel
theorem dL_zoo_194 : decode cL_zoo 194 = .ok (.goto 158, 3) := by decide +kernel
theorem dL_zoo_197 : decode cL_zoo 197 = .ok (.iload 5, 2) := by decide +kernel
theorem dL_zoo_199 : decode cL_zoo 199 = .ok (.iconst 3, 1) := by decide +kernel
theorem dL_zoo_200 : decode cL_zoo 200 = .ok (.ishr, 1) := by decide +kernel
theorem dL_zoo_201 : decode cL_zoo 201 = .ok (.iconst 3, 1) := by decide +kernel
theorem dL_zoo_202 : decode cL_zoo 202 = .ok (.invokestatic 18, 3) := by decide +kernel
theorem dL_zoo_205 : decode cL_zoo 205 = .ok (.ifCond .ne 35, 3) := by decide +kernel
theorem dL_zoo_208 : decode cL_zoo 208 = .ok (.aload_n 1, 1) := by decide +kernel
theorem dL_zoo_209 : decode cL_zoo 209 = .ok (.iload 5, 2) := by decide +kernel
theorem dL_zoo_211 : decode cL_zoo 211 = .ok (.iconst 5, 1) := by decide +kernel
theorem dL_zoo_212 : decode cL_zoo 212 = .ok (.ishr, 1) := by decide +kernel
theorem dL_zoo_213 : decode cL_zoo 213 = .ok (.bipush 20, 2) := by decide +kernel
theorem dL_zoo_215 : decode cL_zoo 215 = .ok (.invokestatic 18, 3) := by decide +kernel
theorem dL_zoo_218 : decode cL_zoo 218 = .ok (.invokevirtual 33, 3) := by decide +kernel
theorem dL_zoo_221 : decode cL_zoo 221 = .ok (.ifCond .ge 19, 3) := by decide +kernel
theorem dL_zoo_224 : decode cL_zoo 224 = .ok (.aload_n 1, 1) := by decide +kernel
theorem dL_zoo_225 : decode cL_zoo 225 = .ok (.iload 6, 2) := by decide +kernel
theorem dL_zoo_227 : decode cL_zoo 227 = .ok (.iload 5, 2) := by decide +kernel
theorem dL_zoo_229 : decode cL_zoo 229 = .ok (.iconst 5, 1) := by decide +kernel
theorem dL_zoo_230 : decode cL_zoo 230 = .ok (.ishr, 1) := by decide +kernel
theorem dL_zoo_231 : decode cL_zoo 231 = .ok (.bipush 20, 2) := by decide +kernel
theorem dL_zoo_233 : decode cL_zoo 233 = .ok (.invokestatic 18, 3) := by decide +kernel
theorem dL_zoo_236 : decode cL_zoo 236 = .ok (.invokevirtual 36, 3) := by decide +kernel
theorem dL_zoo_239 : decode cL_zoo 239 = .ok (.pop, 1) := by decide +kernel
theorem dL_zoo_240 : decode cL_zoo 240 = .ok (.iload 5, 2) := by decide +kernel
theorem dL_zoo_242 : decode cL_zoo 242 = .ok (.iconst 4, 1) := by decide +kernel
theorem dL_zoo_243 : decode cL_zoo 243 = .ok (.ishr, 1) := by decide +kernel
theorem dL_zoo_244 : decode cL_zoo 244 = .ok (.iconst 3, 1) := by decide +kernel
theorem dL_zoo_245 : decode cL_zoo 245 = .ok (.invokestatic 18, 3) := by decide +kernel
theorem dL_zoo_248 : decode cL_zoo 248 = .ok (.ifCond .ne 22, 3) := by decide +kernel
theorem dL_zoo_251 : decode cL_zoo 251 = .ok (.aload_n 1, 1) := by decide +kernel
theorem dL_zoo_252 : decode cL_zoo 252 = .ok (.iload 6, 2) := by decide +kernel
theorem dL_zoo_254 : decode cL_zoo 254 = .ok (.iconst 1, 1) := by decide +kernel
theorem dL_zoo_255 : decode cL_zoo 255 = .ok (.iload 5, 2) := by decide +kernel
theorem dL_zoo_257 : decode cL_zoo 257 = .ok (.bipush 6, 2) := by decide +kernel
theorem dL_zoo_259 : decode cL_zoo 259 = .ok (.ishr, 1) := by decide +kernel
theorem dL_zoo_260 : decode cL_zoo 260 = .ok (.bipush 15, 2) := by decide +kernel
theorem dL_zoo_262 : decode cL_zoo 262 = .ok (.invokestatic 18, 3) := by decide +kernel
theorem dL_zoo_265 : decode cL_zoo 265 = .ok (.iadd, 1) := by decide +kernel
theorem dL_zoo_266 : decode cL_zoo 266 = .ok (.invokevirtual 39, 3) := by decide +kernel
theorem dL_zoo_269 : decode cL_zoo 269 = .ok (.pop, 1) := by decide +kernel
theorem dL_zoo_270 : decode cL_zoo 270 = .ok (.iload 5, 2) := by decide +kernel
theorem dL_zoo_272 : decode cL_zoo 272 = .ok (.iconst 5, 1) := by decide +kernel
theorem dL_zoo_273 : decode cL_zoo 273 = .ok (.ishr, 1) := by decide +kernel
theorem dL_zoo_274 : decode cL_zoo 274 = .ok (.iconst 2, 1) := by decide +kernel
theorem dL_zoo_275 : decode cL_zoo 275 = .ok (.invokestatic 18, 3) := by decide +kernel
theorem dL_zoo_278 : decode cL_zoo 278 = .ok (.ifCond .ne 19, 3) := by decide +kernel
theorem dL_zoo_281 : decode cL_zoo 281 = .ok (.aload_n 1, 1) := by decide +kernel
theorem dL_zoo_282 : decode cL_zoo 282 = .ok (.iconst 1, 1) := by decide +kernel
theorem dL_zoo_283 : decode cL_zoo 283 = .ok (.iload 5, 2) := by decide +kernel
theorem dL_zoo_285 : decode cL_zoo 285 = .ok (.bipush 7, 2) := by decide +kernel
theorem dL_zoo_287 : decode cL_zoo 287 = .ok (.ishr, 1) := by decide +kernel
theorem dL_zoo_288 : decode cL_zoo 288 = .ok (.iconst 5, 1) := by decide +kernel
theorem dL_zoo_289 : decode cL_zoo 289 = .ok (.invokestatic 18, 3) := by decide +kernel
theorem dL_zoo_292 : decode cL_zoo 292 = .ok (.iadd, 1) := by decide +kernel
theorem dL_zoo_293 : decode cL_zoo 293 = .ok (.invokevirtual 42, 3) := by decide +kernel
theorem dL_zoo_296 : decode cL_zoo 296 = .ok (.pop, 1) := by decide +kernel
theorem dL_zoo_297 : decode cL_zoo 297 = .ok (.aload_n 1, 1) := by decide +kernel
theorem dL_zoo_298 : decode cL_zoo 298 = .ok (.iconst 1, 1) := by decide +kernel
theorem dL_zoo_299 : decode cL_zoo 299 = .ok (.invokevirtual 26, 3) := by decide +kernel
theorem dL_zoo_302 : decode cL_zoo 302 = .ok (.bipush 6, 2) := by decide +kernel
theorem dL_zoo_304 : decode cL_zoo 304 = .ok (.if_icmp .ge 48, 3) := by decide +kernel
theorem dL_zoo_307 : decode cL_zoo 307 = .ok (.aload_n 1, 1) := by decide +kernel
theorem dL_zoo_308 : decode cL_zoo 308 = .ok (.iconst 2, 1) := by decide +kernel
theorem dL_zoo_309 : decode cL_zoo 309 = .ok (.invokevirtual 26, 3) := by decide +kernel
theorem dL_zoo_312 : decode cL_zoo 312 = .ok (.bipush 50, 2) := by decide +kernel
theorem dL_zoo_314 : decode cL_zoo 314 = .ok (.if_icmp .ge 38, 3) := by decide +kernel
theorem dL_zoo_317 : decode cL_zoo 317 = .ok (.aload_n 1, 1) := by decide +kernel
theorem dL_zoo_318 : decode cL_zoo 318 = .ok (.iload 5, 2) := by decide +kernel
theorem dL_zoo_320 : decode cL_zoo 320 = .ok (.iconst 2, 1) := by decide +kernel
theorem dL_zoo_321 : decode cL_zoo 321 = .ok (.ishr, 1) := by decide +kernel
theorem dL_zoo_322 : decode cL_zoo 322 = .ok (.bipush 20, 2) := by decide +kernel
theorem dL_zoo_324 : decode cL_zoo 324 = .ok (.invokestatic 18, 3) := by decide +kernel
theorem dL_zoo_327 : decode cL_zoo 327 = .ok (.iload 5, 2) := by decide +kernel
theorem dL_zoo_329 : decode cL_zoo 329 = .ok (.iconst 3, 1) := by decide +kernel
theorem dL_zoo_330 : decode cL_zoo 330 = .ok (.ishr, 1) := by decide +kernel
theorem dL_zoo_331 : decode cL_zoo 331 = .ok (.bipush 6, 2) := by decide +kernel
theorem dL_zoo_333 : decode cL_zoo 333 = .ok (.invokestatic 18, 3) := by decide +kernel
theorem dL_zoo_336 : decode cL_zoo 336 = .ok (.iconst 1, 1) := by decide +kernel
theorem dL_zoo_337 : decode cL_zoo 337 = .ok (.iload 5, 2) := by decide +kernel
theorem dL_zoo_339 : decode cL_zoo 339 = .ok (.bipush 6, 2) := by decide +kernel
theorem dL_zoo_341 : decode cL_zoo 341 = .ok (.ishr, 1) := by decide +kernel
theorem dL_zoo_342 : decode cL_zoo 342 = .ok (.bipush 15, 2) := by decide +kernel
theorem dL_zoo_344 : decode cL_zoo 344 = .ok (.invokestatic 18, 3) := by decide +kernel
theorem dL_zoo_347 : decode cL_zoo 347 = .ok (.iadd, 1) := by decide +kernel
theorem dL_zoo_348 : decode cL_zoo 348 = .ok (.invokestatic 22, 3) := by decide +kernel
theorem dL_zoo_351 : decode cL_zoo 351 = .ok (.pop, 1) := by decide +kernel
theorem dL_zoo_352 : decode cL_zoo 352 = .ok (.iinc 4 1, 3) := by decide +kernel
theorem dL_zoo_355 : decode cL_zoo 355 = .ok (.goto (-210), 3) := by decide +kernel
theorem dL_zoo_358 : decode cL_zoo 358 = .ok (.aload_n 1, 1) := by decide +kernel
theorem dL_zoo_359 : decode cL_zoo 359 = .ok (.areturn, 1) := by decide +kernel

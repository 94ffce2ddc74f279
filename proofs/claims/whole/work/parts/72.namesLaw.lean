set_option maxRecDepth 20000 in
theorem ggL_law_X1_init : GoodIn wsL_law wsX1_init := goodIn_r _ [9, 10, 11, 12, 13, 14, 15, 16, 17, 18, 19, 20, 21, 22, 23, 24, 25, 26, 27, 28, 29, 30, 31, 32, 33, 34, 35, 579, 580, 581, 582, 583, 584, 585, 586, 587, 588, 589, 590, 591, 592, 593, 574, 575] (by decide +kernel) (by decide +kernel)
set_option maxRecDepth 20000 in
theorem gL_law_X1_init : GoodIn wsL_law (wsX1_init) := ggL_law_X1_init
set_option maxRecDepth 20000 in
theorem ggL_law_X3_init : GoodIn wsL_law wsX3_init := goodIn_r _ [38, 39, 11, 12, 40, 41, 42, 43, 44, 45, 46, 47, 48, 22, 49, 50, 51, 594, 595, 596, 597, 576, 577, 578] (by decide +kernel) (by decide +kernel)
set_option maxRecDepth 20000 in
theorem gL_law_X3_init : GoodIn wsL_law (wsX3_init) := ggL_law_X3_init
set_option maxRecDepth 20000 in
theorem ggL_law_L_come : GoodIn wsL_law wsL_come := goodIn_ca (goodIn_ca (goodIn_ca (goodIn_r _ [55, 56, 57, 58, 59, 60, 61, 2, 62, 63, 64, 65, 66, 16, 67, 68, 69, 70, 71, 72, 73, 74, 75, 76, 77, 78, 79, 80, 81, 82, 83, 15, 84, 85, 23, 24, 25, 26, 27, 28, 29, 30, 31, 32, 33, 34, 35, 86, 87, 88, 574, 575, 579, 580, 581, 582, 583, 584, 585, 586, 587, 588, 589, 590, 591, 592, 593] (by decide +kernel) (by decide +kernel)) (goodIn_sub (fun _ h => List.mem_append_left _ (List.mem_append_left _ (List.mem_append_right _ h))) (by decide +kernel))) (goodIn_sub (fun _ h => List.mem_append_left _ (List.mem_append_right _ h)) (by decide +kernel))) (goodIn_sub (fun _ h => List.mem_append_right _ h) (by decide +kernel))
set_option maxRecDepth 20000 in
theorem gL_law_L_come : GoodIn wsL_law (va_wsS RL 71 yL_come wsL_come) := goodIn_app (goodIn_of _ (by decide +kernel)) ggL_law_L_come
set_option maxRecDepth 20000 in
theorem ggL_law_X3_come : GoodIn wsL_law wsX3_come := goodIn_r _ [92, 93, 43, 94, 95, 5, 96, 97, 98, 99, 100, 101, 102, 103, 104, 105, 106, 42, 107, 51, 108, 49, 576, 577, 578, 594, 595, 596, 597] (by decide +kernel) (by decide +kernel)
set_option maxRecDepth 20000 in
theorem gL_law_X3_come : GoodIn wsL_law (wsV RL 76 RX3 yX3_come wsX3_come) := goodIn_app (goodIn_of _ (by decide +kernel)) ggL_law_X3_come
set_option maxRecDepth 20000 in
theorem ggL_law_X3_thrown : GoodIn wsL_law wsX3_thrown := goodIn_r _ [112, 93, 576, 577, 578] (by decide +kernel) (by decide +kernel)
set_option maxRecDepth 20000 in
theorem gL_law_X3_thrown : GoodIn wsL_law (wsV RL 77 RX3 yX3_thrown wsX3_thrown) := goodIn_app (goodIn_of _ (by decide +kernel)) ggL_law_X3_thrown
set_option maxRecDepth 20000 in
theorem ggL_law_L_move : GoodIn wsL_law wsL_move := goodIn_ca (goodIn_ca (goodIn_r _ [115, 56, 58, 116, 117, 118, 2, 119, 16, 120, 121, 122, 123, 71, 72, 124, 125, 126, 15, 127, 85, 67, 68, 69, 70, 128, 129, 130, 131, 65, 66, 132, 133, 134, 135, 31, 77, 78, 79, 80, 136, 137, 138, 139, 30, 35, 140, 86, 87, 88, 141, 142, 143, 144, 574, 575, 579, 580, 581, 582, 583, 584, 585, 586, 587, 588, 589, 590, 591, 592, 593] (by decide +kernel) (by decide +kernel)) (goodIn_sub (fun _ h => List.mem_append_right _ h) (by decide +kernel))) (goodIn_sub (fun _ h => List.mem_append_left _ (List.mem_append_right _ h)) (by decide +kernel))
set_option maxRecDepth 20000 in
theorem gL_law_L_move : GoodIn wsL_law (va_wsS RL 81 yL_move wsL_move) := goodIn_app (goodIn_of _ (by decide +kernel)) ggL_law_L_move
set_option maxRecDepth 20000 in
theorem ggL_law_X3_move : GoodIn wsL_law wsX3_move := goodIn_r _ [148, 93, 43, 149, 150, 151, 5, 152, 97, 98, 99, 94, 95, 96, 100, 101, 102, 103, 153, 154, 155, 42, 156, 51, 157, 158, 159, 576, 577, 578, 594, 595, 596, 597] (by decide +kernel) (by decide +kernel)
set_option maxRecDepth 20000 in
theorem gL_law_X3_move : GoodIn wsL_law (wsV RL 84 RX3 yX3_move wsX3_move) := goodIn_app (goodIn_of _ (by decide +kernel)) ggL_law_X3_move
set_option maxRecDepth 20000 in
theorem ggL_law_L_feed : GoodIn wsL_law wsL_feed := goodIn_ca (goodIn_ca (goodIn_r _ [162, 56, 58, 163, 164, 165, 2, 166, 16, 120, 121, 122, 123, 71, 72, 124, 125, 126, 15, 127, 85, 128, 129, 130, 131, 65, 66, 132, 133, 134, 135, 31, 574, 575, 579, 580, 581, 582, 583, 584, 585, 586, 587, 588, 589, 590, 591, 592, 593] (by decide +kernel) (by decide +kernel)) (goodIn_sub (fun _ h => List.mem_append_right _ h) (by decide +kernel))) (goodIn_sub (fun _ h => List.mem_append_left _ (List.mem_append_right _ h)) (by decide +kernel))
set_option maxRecDepth 20000 in
theorem gL_law_L_feed : GoodIn wsL_law (va_wsS RL 85 yL_feed wsL_feed) := goodIn_app (goodIn_of _ (by decide +kernel)) ggL_law_L_feed
set_option maxRecDepth 20000 in
theorem ggL_law_X3_feed : GoodIn wsL_law wsX3_feed := goodIn_r _ [170, 93, 43, 149, 150, 151, 5, 152, 97, 98, 99, 100, 101, 102, 103, 153, 154, 155, 42, 156, 51, 576, 577, 578, 594, 595, 596, 597] (by decide +kernel) (by decide +kernel)
set_option maxRecDepth 20000 in
theorem gL_law_X3_feed : GoodIn wsL_law (wsV RL 88 RX3 yX3_feed wsX3_feed) := goodIn_app (goodIn_of _ (by decide +kernel)) ggL_law_X3_feed
set_option maxRecDepth 20000 in
theorem ggL_law_L_alter : GoodIn wsL_law wsL_alter := goodIn_ca (goodIn_ca (goodIn_ca (goodIn_r _ [173, 56, 57, 58, 174, 175, 176, 2, 177, 16, 120, 121, 122, 123, 71, 72, 124, 125, 126, 15, 127, 85, 73, 74, 75, 76, 63, 64, 128, 129, 130, 131, 65, 66, 132, 133, 134, 135, 31, 574, 575, 579, 580, 581, 582, 583, 584, 585, 586, 587, 588, 589, 590, 591, 592, 593] (by decide +kernel) (by decide +kernel)) (goodIn_sub (fun _ h => List.mem_append_right _ h) (by decide +kernel))) (goodIn_sub (fun _ h => List.mem_append_left _ (List.mem_append_left _ (List.mem_append_right _ h))) (by decide +kernel))) (goodIn_sub (fun _ h => List.mem_append_left _ (List.mem_append_right _ h)) (by decide +kernel))
set_option maxRecDepth 20000 in
theorem gL_law_L_alter : GoodIn wsL_law (va_wsS RL 89 yL_alter wsL_alter) := goodIn_app (goodIn_of _ (by decide +kernel)) ggL_law_L_alter
set_option maxRecDepth 20000 in
theorem ggL_law_X3_alter : GoodIn wsL_law wsX3_alter := goodIn_r _ [181, 93, 43, 149, 150, 151, 5, 152, 97, 98, 99, 100, 101, 102, 103, 153, 154, 155, 42, 156, 51, 576, 577, 578, 594, 595, 596, 597] (by decide +kernel) (by decide +kernel)
set_option maxRecDepth 20000 in
theorem gL_law_X3_alter : GoodIn wsL_law (wsV RL 91 RX3 yX3_alter wsX3_alter) := goodIn_app (goodIn_of _ (by decide +kernel)) ggL_law_X3_alter
set_option maxRecDepth 20000 in
theorem ggL_law_L_free : GoodIn wsL_law wsL_free := goodIn_ca (goodIn_ca (goodIn_r _ [184, 56, 58, 185, 186, 187, 2, 188, 16, 120, 121, 122, 123, 71, 72, 124, 125, 126, 15, 127, 85, 128, 129, 130, 131, 65, 66, 132, 133, 134, 135, 31, 189, 190, 191, 192, 30, 140, 141, 142, 143, 144, 35, 574, 575, 579, 580, 581, 582, 583, 584, 585, 586, 587, 588, 589, 590, 591, 592, 593] (by decide +kernel) (by decide +kernel)) (goodIn_sub (fun _ h => List.mem_append_right _ h) (by decide +kernel))) (goodIn_sub (fun _ h => List.mem_append_left _ (List.mem_append_right _ h)) (by decide +kernel))
set_option maxRecDepth 20000 in
theorem gL_law_L_free : GoodIn wsL_law (va_wsS RL 92 yL_free wsL_free) := goodIn_app (goodIn_of _ (by decide +kernel)) ggL_law_L_free
set_option maxRecDepth 20000 in
theorem ggL_law_X3_free : GoodIn wsL_law wsX3_free := goodIn_r _ [196, 93, 43, 149, 150, 151, 5, 152, 97, 98, 99, 100, 101, 102, 103, 153, 154, 155, 42, 156, 51, 197, 198, 199, 200, 49, 576, 577, 578, 594, 595, 596, 597] (by decide +kernel) (by decide +kernel)
set_option maxRecDepth 20000 in
theorem gL_law_X3_free : GoodIn wsL_law (wsV RL 94 RX3 yX3_free wsX3_free) := goodIn_app (goodIn_of _ (by decide +kernel)) ggL_law_X3_free
set_option maxRecDepth 20000 in
theorem ggL_law_L_rule : GoodIn wsL_law wsL_rule := goodIn_ca (goodIn_r _ [203, 56, 204, 205, 206, 2, 207, 16, 120, 121, 122, 123, 71, 72, 124, 125, 126, 15, 127, 85, 208, 209, 210, 211, 212, 213, 214, 215, 23, 24, 25, 26, 27, 28, 29, 30, 31, 32, 33, 216, 217, 218, 219, 220, 574, 575, 579, 580, 581, 582, 583, 584, 585, 586, 587, 588, 589, 590, 591, 592, 593] (by decide +kernel) (by decide +kernel)) (goodIn_sub (fun _ h => List.mem_append_right _ h) (by decide +kernel))
set_option maxRecDepth 20000 in
theorem gL_law_L_rule : GoodIn wsL_law (va_wsS RL 95 yL_rule wsL_rule) := goodIn_app (goodIn_of _ (by decide +kernel)) ggL_law_L_rule
set_option maxRecDepth 20000 in
theorem ggL_law_X3_rule : GoodIn wsL_law wsX3_rule := goodIn_r _ [224, 93, 149, 150, 151, 5, 152, 43, 97, 98, 99, 225, 226, 227, 228, 229, 230, 231, 42, 232, 51, 100, 101, 102, 103, 576, 577, 578, 594, 595, 596, 597] (by decide +kernel) (by decide +kernel)
set_option maxRecDepth 20000 in
theorem gL_law_X3_rule : GoodIn wsL_law (wsV RL 97 RX3 yX3_rule wsX3_rule) := goodIn_app (goodIn_of _ (by decide +kernel)) ggL_law_X3_rule
set_option maxRecDepth 20000 in
theorem ggL_law_L_cage : GoodIn wsL_law wsL_cage := goodIn_ca (goodIn_r _ [235, 56, 236, 237, 238, 2, 239, 16, 67, 68, 69, 70, 71, 72, 574, 575, 579, 580, 581, 582, 583, 584, 585, 586, 587, 588, 589, 590, 591, 592, 593] (by decide +kernel) (by decide +kernel)) (goodIn_sub (fun _ h => List.mem_append_right _ h) (by decide +kernel))
set_option maxRecDepth 20000 in
theorem gL_law_L_cage : GoodIn wsL_law (va_wsS RL 98 yL_cage wsL_cage) := goodIn_app (goodIn_of _ (by decide +kernel)) ggL_law_L_cage
set_option maxRecDepth 20000 in
theorem ggL_law_X3_cage : GoodIn wsL_law wsX3_cage := goodIn_r _ [243, 93, 43, 94, 95, 5, 96, 97, 98, 99, 100, 101, 102, 103, 576, 577, 578, 594, 595, 596, 597] (by decide +kernel) (by decide +kernel)
set_option maxRecDepth 20000 in
theorem gL_law_X3_cage : GoodIn wsL_law (wsV RL 100 RX3 yX3_cage wsX3_cage) := goodIn_app (goodIn_of _ (by decide +kernel)) ggL_law_X3_cage
set_option maxRecDepth 20000 in
theorem ggL_law_L_count : GoodIn wsL_law wsL_count := goodIn_ca (goodIn_r _ [246, 56, 247, 248, 249, 2, 250, 16, 208, 209, 210, 211, 71, 72, 251, 252, 253, 15, 254, 255, 85, 256, 257, 258, 259, 31, 260, 261, 262, 263, 29, 264, 265, 266, 267, 23, 140, 133, 134, 135, 268, 269, 270, 271, 272, 273, 274, 574, 575, 579, 580, 581, 582, 583, 584, 585, 586, 587, 588, 589, 590, 591, 592, 593] (by decide +kernel) (by decide +kernel)) (goodIn_sub (fun _ h => List.mem_append_right _ h) (by decide +kernel))
set_option maxRecDepth 20000 in
theorem gL_law_L_count : GoodIn wsL_law (va_wsS RL 101 yL_count wsL_count) := goodIn_app (goodIn_of _ (by decide +kernel)) ggL_law_L_count
set_option maxRecDepth 20000 in
theorem ggL_law_X3_count : GoodIn wsL_law wsX3_count := goodIn_r _ [278, 93, 97, 98, 5, 99, 279, 280, 281, 282, 43, 22, 153, 154, 155, 42, 156, 51, 283, 284, 285, 286, 108, 287, 269, 270, 271, 272, 273, 274, 100, 101, 102, 103, 576, 577, 578, 594, 595, 596, 597] (by decide +kernel) (by decide +kernel)
set_option maxRecDepth 20000 in
theorem gL_law_X3_count : GoodIn wsL_law (wsV RL 103 RX3 yX3_count wsX3_count) := goodIn_app (goodIn_of _ (by decide +kernel)) ggL_law_X3_count
set_option maxRecDepth 20000 in
theorem ggL_law_L_may : GoodIn wsL_law wsL_may := goodIn_ca (goodIn_r _ [290, 56, 291, 292, 293, 2, 294, 16, 120, 121, 122, 123, 71, 72, 124, 125, 126, 15, 127, 85, 295, 296, 297, 298, 29, 24, 23, 25, 26, 140, 133, 134, 135, 31, 217, 218, 219, 220, 574, 575, 579, 580, 581, 582, 583, 584, 585, 586, 587, 588, 589, 590, 591, 592, 593] (by decide +kernel) (by decide +kernel)) (goodIn_sub (fun _ h => List.mem_append_right _ h) (by decide +kernel))
set_option maxRecDepth 20000 in
theorem gL_law_L_may : GoodIn wsL_law (va_wsS RL 104 yL_may wsL_may) := goodIn_app (goodIn_of _ (by decide +kernel)) ggL_law_L_may
set_option maxRecDepth 20000 in
theorem ggL_law_X3_may : GoodIn wsL_law wsX3_may := goodIn_r _ [302, 93, 43, 149, 150, 151, 5, 152, 97, 98, 99, 303, 304, 305, 42, 306, 51, 307, 154, 155, 156, 308, 230, 231, 232, 100, 101, 102, 103, 576, 577, 578, 594, 595, 596, 597] (by decide +kernel) (by decide +kernel)
set_option maxRecDepth 20000 in
theorem gL_law_X3_may : GoodIn wsL_law (wsV RL 106 RX3 yX3_may wsX3_may) := goodIn_app (goodIn_of _ (by decide +kernel)) ggL_law_X3_may
set_option maxRecDepth 20000 in
theorem ggL_law_L_prey : GoodIn wsL_law wsL_prey := goodIn_ca (goodIn_r _ [311, 56, 312, 313, 314, 2, 315, 16, 120, 121, 122, 123, 71, 72, 124, 125, 126, 15, 127, 85, 316, 317, 318, 319, 35, 140, 133, 134, 135, 31, 320, 321, 322, 323, 30, 324, 325, 326, 327, 328, 296, 297, 298, 29, 24, 23, 25, 26, 217, 218, 219, 220, 574, 575, 579, 580, 581, 582, 583, 584, 585, 586, 587, 588, 589, 590, 591, 592, 593] (by decide +kernel) (by decide +kernel)) (goodIn_sub (fun _ h => List.mem_append_right _ h) (by decide +kernel))
set_option maxRecDepth 20000 in
theorem gL_law_L_prey : GoodIn wsL_law (va_wsS RL 107 yL_prey wsL_prey) := goodIn_app (goodIn_of _ (by decide +kernel)) ggL_law_L_prey
set_option maxRecDepth 20000 in
theorem ggL_law_X3_prey : GoodIn wsL_law wsX3_prey := goodIn_r _ [332, 93, 43, 149, 150, 151, 5, 152, 97, 98, 99, 333, 334, 335, 42, 336, 49, 51, 307, 154, 155, 156, 337, 338, 339, 340, 304, 305, 306, 308, 230, 231, 232, 100, 101, 102, 103, 576, 577, 578, 594, 595, 596, 597] (by decide +kernel) (by decide +kernel)
set_option maxRecDepth 20000 in
theorem gL_law_X3_prey : GoodIn wsL_law (wsV RL 109 RX3 yX3_prey wsX3_prey) := goodIn_app (goodIn_of _ (by decide +kernel)) ggL_law_X3_prey
set_option maxRecDepth 20000 in
theorem ggL_law_L_hunters : GoodIn wsL_law wsL_hunters := goodIn_ca (goodIn_r _ [343, 56, 344, 345, 346, 2, 347, 16, 120, 121, 122, 123, 71, 72, 124, 125, 126, 15, 127, 85, 316, 317, 318, 319, 35, 140, 133, 134, 135, 31, 320, 321, 322, 323, 30, 324, 325, 326, 327, 328, 296, 297, 298, 29, 24, 23, 25, 26, 217, 218, 219, 220, 574, 575, 579, 580, 581, 582, 583, 584, 585, 586, 587, 588, 589, 590, 591, 592, 593] (by decide +kernel) (by decide +kernel)) (goodIn_sub (fun _ h => List.mem_append_right _ h) (by decide +kernel))
set_option maxRecDepth 20000 in
theorem gL_law_L_hunters : GoodIn wsL_law (va_wsS RL 110 yL_hunters wsL_hunters) := goodIn_app (goodIn_of _ (by decide +kernel)) ggL_law_L_hunters
set_option maxRecDepth 20000 in
theorem ggL_law_X3_hunters : GoodIn wsL_law wsX3_hunters := goodIn_r _ [351, 93, 43, 149, 150, 151, 5, 152, 97, 98, 99, 100, 101, 102, 103, 333, 334, 335, 42, 336, 49, 51, 307, 154, 155, 156, 337, 338, 339, 340, 304, 305, 306, 308, 230, 231, 232, 576, 577, 578, 594, 595, 596, 597] (by decide +kernel) (by decide +kernel)
set_option maxRecDepth 20000 in
theorem gL_law_X3_hunters : GoodIn wsL_law (wsV RL 112 RX3 yX3_hunters wsX3_hunters) := goodIn_app (goodIn_of _ (by decide +kernel)) ggL_law_X3_hunters
set_option maxRecDepth 20000 in
theorem ggL_law_L_chain : GoodIn wsL_law wsL_chain := goodIn_ca (goodIn_r _ [354, 56, 355, 356, 357, 2, 358, 16, 120, 121, 122, 123, 71, 72, 124, 125, 126, 15, 127, 85, 359, 360, 361, 362, 140, 133, 134, 135, 31, 363, 317, 318, 319, 35, 320, 321, 322, 323, 30, 324, 325, 326, 327, 328, 296, 297, 298, 29, 24, 23, 25, 26, 217, 218, 219, 220, 574, 575, 579, 580, 581, 582, 583, 584, 585, 586, 587, 588, 589, 590, 591, 592, 593] (by decide +kernel) (by decide +kernel)) (goodIn_sub (fun _ h => List.mem_append_right _ h) (by decide +kernel))
set_option maxRecDepth 20000 in
theorem gL_law_L_chain : GoodIn wsL_law (va_wsS RL 113 yL_chain wsL_chain) := goodIn_app (goodIn_of _ (by decide +kernel)) ggL_law_L_chain
set_option maxRecDepth 20000 in
theorem ggL_law_X3_chain : GoodIn wsL_law wsX3_chain := goodIn_r _ [367, 93, 43, 149, 150, 151, 5, 152, 97, 98, 99, 100, 101, 102, 103, 153, 154, 155, 42, 156, 51, 333, 334, 335, 336, 49, 307, 337, 338, 339, 340, 304, 305, 306, 308, 230, 231, 232, 368, 369, 370, 371, 372, 373, 374, 576, 577, 578, 594, 595, 596, 597] (by decide +kernel) (by decide +kernel)
set_option maxRecDepth 20000 in
theorem gL_law_X3_chain : GoodIn wsL_law (wsV RL 115 RX3 yX3_chain wsX3_chain) := goodIn_app (goodIn_of _ (by decide +kernel)) ggL_law_X3_chain
set_option maxRecDepth 20000 in
theorem ggL_law_L_pass : GoodIn wsL_law wsL_pass := goodIn_ca (goodIn_r _ [377, 57, 378, 379, 380, 2, 381, 16, 382, 383, 384, 385, 63, 64, 386, 257, 258, 15, 259, 85, 31, 387, 388, 389, 390, 391, 392, 393, 394, 255, 395, 396, 397, 398, 363, 317, 318, 319, 35, 140, 133, 134, 135, 320, 321, 322, 323, 30, 324, 325, 326, 327, 328, 296, 297, 298, 29, 24, 23, 25, 26, 217, 218, 219, 220, 399, 400, 401, 402, 33, 403, 404, 405, 406, 27, 28, 34, 407, 190, 191, 192, 141, 142, 143, 144, 408, 409, 410, 411, 412, 413, 414, 415, 416, 417, 418, 419, 32, 420, 421, 422, 423, 216, 125, 126, 127, 424, 82, 83, 84, 86, 87, 88, 425, 426, 427, 428, 574, 575, 579, 580, 581, 582, 583, 584, 585, 586, 587, 588, 589, 590, 591, 592, 593] (by decide +kernel) (by decide +kernel)) (goodIn_sub (fun _ h => List.mem_append_left _ (List.mem_append_left _ (List.mem_append_right _ h))) (by decide +kernel))
set_option maxRecDepth 20000 in
theorem gL_law_L_pass : GoodIn wsL_law (va_wsS RL 116 yL_pass wsL_pass) := goodIn_app (goodIn_of _ (by decide +kernel)) ggL_law_L_pass
set_option maxRecDepth 20000 in
theorem ggL_law_X3_pass : GoodIn wsL_law wsX3_pass := goodIn_r _ [432, 93, 43, 97, 98, 5, 99, 100, 101, 102, 103, 283, 284, 285, 42, 286, 108, 51, 433, 434, 435, 436, 437, 438, 439, 440, 441, 442, 404, 405, 406, 443, 334, 335, 336, 49, 307, 154, 155, 156, 337, 338, 339, 340, 304, 305, 306, 308, 230, 231, 232, 444, 198, 199, 200, 445, 446, 447, 448, 449, 450, 451, 452, 453, 105, 106, 107, 576, 577, 578, 594, 595, 596, 597] (by decide +kernel) (by decide +kernel)
set_option maxRecDepth 20000 in
theorem gL_law_X3_pass : GoodIn wsL_law (wsV RL 118 RX3 yX3_pass wsX3_pass) := goodIn_app (goodIn_of _ (by decide +kernel)) ggL_law_X3_pass
set_option maxRecDepth 20000 in
theorem ggL_law_L_foresee : GoodIn wsL_law wsL_foresee := goodIn_ca (goodIn_ca (goodIn_r _ [456, 57, 56, 457, 458, 459, 2, 460, 17, 16, 382, 383, 384, 385, 63, 64, 208, 209, 210, 211, 71, 72, 461, 462, 463, 15, 464, 23, 24, 25, 26, 27, 28, 29, 30, 31, 32, 33, 34, 35, 85, 255, 465, 466, 467, 468, 469, 405, 470, 471, 472, 473, 474, 387, 388, 389, 390, 391, 392, 393, 394, 395, 396, 397, 398, 363, 317, 318, 319, 140, 133, 134, 135, 320, 321, 322, 323, 324, 325, 326, 327, 328, 296, 297, 298, 217, 218, 219, 220, 399, 400, 401, 402, 403, 404, 406, 407, 190, 191, 192, 141, 142, 143, 144, 408, 409, 410, 411, 412, 413, 414, 415, 416, 417, 418, 419, 420, 421, 422, 423, 216, 125, 126, 127, 424, 82, 83, 84, 86, 87, 88, 425, 426, 427, 428, 386, 257, 258, 259, 475, 476, 477, 478, 574, 575, 579, 580, 581, 582, 583, 584, 585, 586, 587, 588, 589, 590, 591, 592, 593] (by decide +kernel) (by decide +kernel)) (goodIn_sub (fun _ h => List.mem_append_left _ (List.mem_append_left _ (List.mem_append_right _ h))) (by decide +kernel))) (goodIn_sub (fun _ h => List.mem_append_right _ h) (by decide +kernel))
set_option maxRecDepth 20000 in
theorem gL_law_L_foresee : GoodIn wsL_law (va_wsS RL 119 yL_foresee wsL_foresee) := goodIn_app (goodIn_of _ (by decide +kernel)) ggL_law_L_foresee
set_option maxRecDepth 20000 in
theorem ggL_law_X3_foresee : GoodIn wsL_law wsX3_foresee := goodIn_r _ [482, 93, 44, 43, 97, 98, 5, 99, 100, 101, 102, 103, 483, 484, 485, 42, 486, 437, 108, 49, 487, 472, 473, 474, 51, 433, 434, 435, 436, 438, 439, 440, 441, 442, 404, 405, 406, 443, 334, 335, 336, 307, 154, 155, 156, 337, 338, 339, 340, 304, 305, 306, 308, 230, 231, 232, 444, 198, 199, 200, 445, 446, 447, 448, 449, 450, 451, 452, 453, 105, 106, 107, 283, 284, 285, 286, 488, 489, 490, 491, 576, 577, 578, 594, 595, 596, 597] (by decide +kernel) (by decide +kernel)
set_option maxRecDepth 20000 in
theorem gL_law_X3_foresee : GoodIn wsL_law (wsV RL 121 RX3 yX3_foresee wsX3_foresee) := goodIn_app (goodIn_of _ (by decide +kernel)) ggL_law_X3_foresee
set_option maxRecDepth 20000 in
theorem ggL_law_L_lives : GoodIn wsL_law wsL_lives := goodIn_ca (goodIn_r _ [494, 56, 495, 496, 497, 2, 498, 16, 120, 121, 122, 123, 71, 72, 124, 125, 126, 15, 127, 85, 132, 133, 134, 135, 31, 499, 500, 501, 502, 17, 461, 462, 463, 464, 23, 24, 25, 26, 27, 28, 29, 30, 32, 33, 34, 35, 255, 465, 466, 467, 468, 469, 405, 470, 471, 472, 473, 474, 136, 137, 138, 139, 140, 86, 87, 88, 141, 142, 143, 144, 503, 392, 393, 394, 395, 396, 397, 398, 363, 317, 318, 319, 320, 321, 322, 323, 324, 325, 326, 327, 328, 296, 297, 298, 217, 218, 219, 220, 399, 400, 401, 402, 403, 404, 406, 407, 190, 191, 192, 408, 409, 410, 411, 412, 413, 414, 415, 416, 417, 418, 419, 420, 421, 422, 423, 216, 424, 82, 83, 84, 425, 426, 427, 428, 574, 575, 579, 580, 581, 582, 583, 584, 585, 586, 587, 588, 589, 590, 591, 592, 593] (by decide +kernel) (by decide +kernel)) (goodIn_sub (fun _ h => List.mem_append_right _ h) (by decide +kernel))
set_option maxRecDepth 20000 in
theorem gL_law_L_lives : GoodIn wsL_law (va_wsS RL 122 yL_lives wsL_lives) := goodIn_app (goodIn_of _ (by decide +kernel)) ggL_law_L_lives
set_option maxRecDepth 20000 in
theorem ggL_law_X3_lives : GoodIn wsL_law wsX3_lives := goodIn_r _ [507, 93, 44, 43, 149, 150, 151, 5, 152, 97, 98, 99, 100, 101, 102, 103, 483, 484, 485, 42, 486, 437, 108, 49, 487, 472, 473, 474, 51, 508, 509, 510, 511, 307, 154, 155, 156, 512, 434, 435, 436, 438, 439, 440, 441, 442, 404, 405, 406, 443, 334, 335, 336, 337, 338, 339, 340, 304, 305, 306, 308, 230, 231, 232, 444, 198, 199, 200, 445, 446, 447, 448, 449, 450, 451, 452, 453, 105, 106, 107, 576, 577, 578, 594, 595, 596, 597] (by decide +kernel) (by decide +kernel)
set_option maxRecDepth 20000 in
theorem gL_law_X3_lives : GoodIn wsL_law (wsV RL 124 RX3 yX3_lives wsX3_lives) := goodIn_app (goodIn_of _ (by decide +kernel)) ggL_law_X3_lives
set_option maxRecDepth 20000 in
theorem ggL_law_X1_ends : GoodIn wsL_law wsX1_ends := goodIn_r _ [516, 517, 518, 519, 2, 520, 17, 16, 461, 462, 463, 15, 464, 23, 24, 25, 26, 27, 28, 29, 30, 31, 32, 33, 34, 35, 85, 255, 465, 466, 467, 468, 469, 405, 470, 471, 472, 473, 474, 386, 257, 258, 259, 503, 392, 393, 394, 395, 396, 397, 398, 363, 317, 318, 319, 140, 133, 134, 135, 320, 321, 322, 323, 324, 325, 326, 327, 328, 296, 297, 298, 217, 218, 219, 220, 399, 400, 401, 402, 403, 404, 406, 407, 190, 191, 192, 141, 142, 143, 144, 408, 409, 410, 411, 412, 413, 414, 415, 416, 417, 418, 419, 420, 421, 422, 423, 216, 125, 126, 127, 424, 82, 83, 84, 86, 87, 88, 425, 426, 427, 428, 574, 575, 579, 580, 581, 582, 583, 584, 585, 586, 587, 588, 589, 590, 591, 592, 593] (by decide +kernel) (by decide +kernel)
set_option maxRecDepth 20000 in
theorem gL_law_X1_ends : GoodIn wsL_law (wsV RL 125 RX1 yX1_ends wsX1_ends) := goodIn_app (goodIn_of _ (by decide +kernel)) ggL_law_X1_ends
set_option maxRecDepth 20000 in
theorem ggL_law_X3_ends : GoodIn wsL_law wsX3_ends := goodIn_r _ [524, 93, 525, 526, 527, 5, 528, 44, 43, 483, 484, 485, 42, 486, 437, 108, 49, 487, 472, 473, 474, 51, 283, 284, 285, 286, 433, 434, 435, 436, 438, 439, 440, 441, 442, 404, 405, 406, 443, 334, 335, 336, 307, 154, 155, 156, 337, 338, 339, 340, 304, 305, 306, 308, 230, 231, 232, 444, 198, 199, 200, 445, 446, 447, 448, 449, 450, 451, 452, 453, 105, 106, 107, 576, 577, 578, 594, 595, 596, 597] (by decide +kernel) (by decide +kernel)
set_option maxRecDepth 20000 in
theorem gL_law_X3_ends : GoodIn wsL_law (wsV RL 128 RX3 yX3_ends wsX3_ends) := goodIn_app (goodIn_of _ (by decide +kernel)) ggL_law_X3_ends
set_option maxRecDepth 20000 in
theorem ggL_law_X1_last : GoodIn wsL_law wsX1_last := goodIn_r _ [532, 17, 517, 518, 519, 2, 520, 16, 461, 462, 463, 15, 464, 23, 24, 25, 26, 27, 28, 29, 30, 31, 32, 33, 34, 35, 85, 255, 465, 466, 467, 468, 469, 405, 470, 471, 472, 473, 474, 386, 257, 258, 259, 503, 392, 393, 394, 395, 396, 397, 398, 363, 317, 318, 319, 140, 133, 134, 135, 320, 321, 322, 323, 324, 325, 326, 327, 328, 296, 297, 298, 217, 218, 219, 220, 399, 400, 401, 402, 403, 404, 406, 407, 190, 191, 192, 141, 142, 143, 144, 408, 409, 410, 411, 412, 413, 414, 415, 416, 417, 418, 419, 420, 421, 422, 423, 216, 125, 126, 127, 424, 82, 83, 84, 86, 87, 88, 425, 426, 427, 428, 533, 534, 535, 536, 574, 575, 579, 580, 581, 582, 583, 584, 585, 586, 587, 588, 589, 590, 591, 592, 593] (by decide +kernel) (by decide +kernel)
set_option maxRecDepth 20000 in
theorem gL_law_X1_last : GoodIn wsL_law (wsV RL 129 RX1 yX1_last wsX1_last) := goodIn_app (goodIn_of _ (by decide +kernel)) ggL_law_X1_last
set_option maxRecDepth 20000 in
theorem ggL_law_X3_last : GoodIn wsL_law wsX3_last := goodIn_r _ [540, 93, 44, 525, 526, 527, 5, 528, 43, 483, 484, 485, 42, 486, 437, 108, 49, 487, 472, 473, 474, 51, 283, 284, 285, 286, 433, 434, 435, 436, 438, 439, 440, 441, 442, 404, 405, 406, 443, 334, 335, 336, 307, 154, 155, 156, 337, 338, 339, 340, 304, 305, 306, 308, 230, 231, 232, 444, 198, 199, 200, 445, 446, 447, 448, 449, 450, 451, 452, 453, 105, 106, 107, 153, 576, 577, 578, 594, 595, 596, 597] (by decide +kernel) (by decide +kernel)
set_option maxRecDepth 20000 in
theorem gL_law_X3_last : GoodIn wsL_law (wsV RL 132 RX3 yX3_last wsX3_last) := goodIn_app (goodIn_of _ (by decide +kernel)) ggL_law_X3_last
set_option maxRecDepth 20000 in
theorem ggL_law_L_advise : GoodIn wsL_law wsL_advise := goodIn_ca (goodIn_r _ [543, 56, 544, 545, 546, 2, 547, 16, 548, 469, 405, 470, 120, 121, 122, 123, 71, 72, 124, 125, 126, 15, 127, 85, 132, 133, 134, 135, 31, 499, 500, 501, 502, 17, 461, 462, 463, 464, 23, 24, 25, 26, 27, 28, 29, 30, 32, 33, 34, 35, 255, 465, 466, 467, 468, 471, 472, 473, 474, 136, 137, 138, 139, 140, 86, 87, 88, 141, 142, 143, 144, 503, 392, 393, 394, 395, 396, 397, 398, 363, 317, 318, 319, 320, 321, 322, 323, 324, 325, 326, 327, 328, 296, 297, 298, 217, 218, 219, 220, 399, 400, 401, 402, 403, 404, 406, 407, 190, 191, 192, 408, 409, 410, 411, 412, 413, 414, 415, 416, 417, 418, 419, 420, 421, 422, 423, 216, 424, 82, 83, 84, 425, 426, 427, 428, 574, 575, 579, 580, 581, 582, 583, 584, 585, 586, 587, 588, 589, 590, 591, 592, 593] (by decide +kernel) (by decide +kernel)) (goodIn_sub (fun _ h => List.mem_append_right _ h) (by decide +kernel))
set_option maxRecDepth 20000 in
theorem gL_law_L_advise : GoodIn wsL_law (va_wsS RL 133 yL_advise wsL_advise) := goodIn_app (goodIn_of _ (by decide +kernel)) ggL_law_L_advise
set_option maxRecDepth 20000 in
theorem ggL_law_X3_advise : GoodIn wsL_law wsX3_advise := goodIn_r _ [552, 93, 43, 44, 553, 469, 405, 470, 149, 150, 151, 5, 152, 97, 98, 99, 100, 101, 102, 103, 153, 154, 155, 42, 156, 51, 483, 484, 485, 486, 437, 108, 49, 487, 472, 473, 474, 508, 509, 510, 511, 307, 512, 434, 435, 436, 438, 439, 440, 441, 442, 404, 406, 443, 334, 335, 336, 337, 338, 339, 340, 304, 305, 306, 308, 230, 231, 232, 444, 198, 199, 200, 445, 446, 447, 448, 449, 450, 451, 452, 453, 105, 106, 107, 157, 158, 159, 576, 577, 578, 594, 595, 596, 597] (by decide +kernel) (by decide +kernel)
set_option maxRecDepth 20000 in
theorem gL_law_X3_advise : GoodIn wsL_law (wsV RL 135 RX3 yX3_advise wsX3_advise) := goodIn_app (goodIn_of _ (by decide +kernel)) ggL_law_X3_advise
set_option maxRecDepth 20000 in
theorem ggL_law_X1_mean : GoodIn wsL_law wsX1_mean := goodIn_r _ [557, 16, 386, 257, 258, 15, 259, 85, 31, 475, 476, 477, 478, 25, 140, 133, 134, 135, 574, 575, 579, 580, 581, 582, 583, 584, 585, 586, 587, 588, 589, 590, 591, 592, 593] (by decide +kernel) (by decide +kernel)
set_option maxRecDepth 20000 in
theorem gL_law_X1_mean : GoodIn wsL_law (wsV RL 136 RX1 yX1_mean wsX1_mean) := goodIn_app (goodIn_of _ (by decide +kernel)) ggL_law_X1_mean
set_option maxRecDepth 20000 in
theorem ggL_law_X3_mean : GoodIn wsL_law wsX3_mean := goodIn_r _ [561, 93, 43, 283, 284, 285, 42, 286, 108, 51, 488, 489, 490, 491, 307, 154, 155, 156, 576, 577, 578, 594, 595, 596, 597] (by decide +kernel) (by decide +kernel)
set_option maxRecDepth 20000 in
theorem gL_law_X3_mean : GoodIn wsL_law (wsV RL 140 RX3 yX3_mean wsX3_mean) := goodIn_app (goodIn_of _ (by decide +kernel)) ggL_law_X3_mean
set_option maxRecDepth 20000 in
theorem ggL_law_X1_digest : GoodIn wsL_law wsX1_digest := goodIn_r _ [565, 566, 567, 16, 251, 252, 253, 15, 254, 255, 85, 256, 257, 258, 259, 31, 260, 261, 262, 263, 29, 264, 265, 266, 267, 23, 140, 133, 134, 135, 268, 269, 270, 271, 272, 273, 274, 212, 213, 214, 215, 24, 25, 26, 27, 28, 30, 32, 33, 216, 125, 126, 127, 217, 218, 219, 220, 574, 575, 579, 580, 581, 582, 583, 584, 585, 586, 587, 588, 589, 590, 591, 592, 593] (by decide +kernel) (by decide +kernel)
set_option maxRecDepth 20000 in
theorem gL_law_X1_digest : GoodIn wsL_law (wsV RL 141 RX1 yX1_digest wsX1_digest) := goodIn_app (goodIn_of _ (by decide +kernel)) ggL_law_X1_digest
set_option maxRecDepth 20000 in
theorem ggL_law_X3_digest : GoodIn wsL_law wsX3_digest := goodIn_r _ [571, 93, 572, 573, 43, 279, 280, 281, 5, 282, 22, 153, 154, 155, 42, 156, 51, 283, 284, 285, 286, 108, 287, 269, 270, 271, 272, 273, 274, 225, 226, 227, 228, 229, 230, 231, 232, 576, 577, 578, 594, 595, 596, 597] (by decide +kernel) (by decide +kernel)
set_option maxRecDepth 20000 in
theorem gL_law_X3_digest : GoodIn wsL_law (wsV RL 145 RX3 yX3_digest wsX3_digest) := goodIn_app (goodIn_of _ (by decide +kernel)) ggL_law_X3_digest

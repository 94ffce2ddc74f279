set_option maxRecDepth 20000 in
theorem ggL_law_L_zoo : GoodIn wsL_law wsL_zoo := goodIn_ca (goodIn_ca (goodIn_ca (goodIn_r _ [9, 10, 11, 12, 13, 14, 15, 16, 17, 18, 19, 20, 21, 22, 23, 24, 25, 26, 27, 1, 28, 29, 30, 31, 32, 33, 34, 35, 36, 37, 38, 39, 40, 41, 42, 8, 43, 44, 45, 46, 47, 48, 49, 50, 51, 52, 53, 54, 55, 56, 57, 58, 59, 60, 61, 62, 63, 64, 65, 66, 67, 68, 69, 70, 71, 72, 73, 74, 75, 76, 77, 78, 79, 80, 81, 82, 83, 84, 85, 86, 87, 88, 89, 90, 91, 92, 93, 94, 95, 96, 97, 98, 99, 100, 101, 102, 103, 104, 105, 106, 107, 108, 109, 110, 111, 112, 113, 114, 115, 116, 117, 118, 119, 120, 121, 122, 123, 124, 125, 126, 127, 128, 129, 130, 131, 132, 133, 134, 135, 136, 137, 138, 139, 140, 141, 142, 143, 144, 145, 146, 147, 148, 149, 150, 151, 152, 153, 154, 155, 156, 157, 158, 159, 160, 161, 162, 163, 164, 165, 166, 167, 168, 169, 170, 171, 172, 173, 174, 175, 176, 177, 178, 179, 180, 181, 182, 183, 184, 185, 186, 187, 188, 189, 190, 191, 192, 193, 194, 195, 196, 197, 198, 199, 200, 201, 202, 203, 204, 205, 206, 3, 4, 5, 207, 208, 209, 210, 211, 212, 213, 214, 215, 216, 217, 218, 219, 220, 221, 222, 223, 224, 225, 226, 227, 228, 229, 230, 231, 323, 324, 325, 326, 327, 328, 329, 330, 331, 332, 333, 334, 335, 336, 337, 338, 339] (by decide +kernel) (by decide +kernel)) (goodIn_sub (fun _ h => List.mem_append_left _ (List.mem_append_left _ (List.mem_append_right _ h))) (by decide +kernel))) (goodIn_sub (fun _ h => List.mem_append_left _ (List.mem_append_right _ h)) (by decide +kernel))) (goodIn_sub (fun _ h => List.mem_append_right _ h) (by decide +kernel))
set_option maxRecDepth 20000 in
theorem gL_law_L_zoo : GoodIn wsL_law (va_wsS RL 50 yL_zoo wsL_zoo) := goodIn_app (goodIn_of _ (by decide +kernel)) ggL_law_L_zoo
set_option maxRecDepth 20000 in
theorem ggL_law_L_cell : GoodIn wsL_law wsL_cell := goodIn_r _ [43, 44] (by decide +kernel) (by decide +kernel)
set_option maxRecDepth 20000 in
theorem gL_law_L_cell : GoodIn wsL_law (va_wsS RL 12 yL_cell wsL_cell) := goodIn_app (goodIn_of _ (by decide +kernel)) ggL_law_L_cell
set_option maxRecDepth 20000 in
theorem ggL_law_X1_count : GoodIn wsL_law wsX1_count := goodIn_ca (goodIn_r _ [86, 22, 87, 88, 89, 12, 90, 65, 66, 91, 92, 93, 21, 94, 95, 79, 96, 97, 98, 99, 36, 100, 101, 102, 103, 34, 104, 105, 106, 107, 28, 108, 109, 110, 111, 112, 113, 114, 115, 116, 117, 118, 323, 324, 325, 326, 327, 328, 329, 330, 331, 332, 333, 334, 335, 336, 337, 338, 339] (by decide +kernel) (by decide +kernel)) (goodIn_sub (fun _ h => List.mem_append_right _ h) (by decide +kernel))
set_option maxRecDepth 20000 in
theorem gL_law_X1_count : GoodIn wsL_law (wsV RL 26 RX1 yX1_count wsX1_count) := goodIn_app (goodIn_of _ (by decide +kernel)) ggL_law_X1_count
set_option maxRecDepth 20000 in
theorem ggL_law_L_below : GoodIn wsL_law wsL_below := goodIn_r _ [47, 48] (by decide +kernel) (by decide +kernel)
set_option maxRecDepth 20000 in
theorem gL_law_L_below : GoodIn wsL_law (va_wsS RL 18 yL_below wsL_below) := goodIn_app (goodIn_of _ (by decide +kernel)) ggL_law_L_below
set_option maxRecDepth 20000 in
theorem ggL_law_X1_cage : GoodIn wsL_law wsX1_cage := goodIn_ca (goodIn_r _ [143, 22, 61, 62, 63, 12, 64, 65, 66, 323, 324, 325, 326, 327, 328, 329, 330, 331, 332, 333, 334, 335, 336, 337, 338, 339] (by decide +kernel) (by decide +kernel)) (goodIn_sub (fun _ h => List.mem_append_right _ h) (by decide +kernel))
set_option maxRecDepth 20000 in
theorem gL_law_X1_cage : GoodIn wsL_law (wsV RL 33 RX1 yX1_cage wsX1_cage) := goodIn_app (goodIn_of _ (by decide +kernel)) ggL_law_X1_cage
set_option maxRecDepth 20000 in
theorem ggL_law_L_come : GoodIn wsL_law wsL_come := goodIn_ca (goodIn_ca (goodIn_ca (goodIn_r _ [51, 52, 53, 54, 55, 12, 56, 57, 58, 59, 60, 22, 61, 62, 63, 64, 65, 66, 67, 68, 69, 70, 71, 72, 73, 74, 75, 76, 77, 21, 78, 79, 28, 29, 30, 31, 32, 33, 34, 35, 36, 37, 38, 39, 40, 80, 81, 82, 323, 324, 325, 326, 327, 328, 329, 330, 331, 332, 333, 334, 335, 336, 337, 338, 339] (by decide +kernel) (by decide +kernel)) (goodIn_sub (fun _ h => List.mem_append_left _ (List.mem_append_left _ (List.mem_append_right _ h))) (by decide +kernel))) (goodIn_sub (fun _ h => List.mem_append_left _ (List.mem_append_right _ h)) (by decide +kernel))) (goodIn_sub (fun _ h => List.mem_append_right _ h) (by decide +kernel))
set_option maxRecDepth 20000 in
theorem gL_law_L_come : GoodIn wsL_law (va_wsS RL 22 yL_come wsL_come) := goodIn_app (goodIn_of _ (by decide +kernel)) ggL_law_L_come
set_option maxRecDepth 20000 in
theorem ggL_law_X1_rule : GoodIn wsL_law wsX1_rule := goodIn_ca (goodIn_r _ [122, 22, 123, 124, 125, 12, 126, 65, 66, 127, 128, 129, 21, 130, 79, 87, 88, 89, 90, 131, 132, 133, 134, 28, 29, 30, 31, 32, 33, 34, 35, 36, 37, 38, 135, 136, 137, 138, 139, 323, 324, 325, 326, 327, 328, 329, 330, 331, 332, 333, 334, 335, 336, 337, 338, 339] (by decide +kernel) (by decide +kernel)) (goodIn_sub (fun _ h => List.mem_append_right _ h) (by decide +kernel))
set_option maxRecDepth 20000 in
theorem gL_law_X1_rule : GoodIn wsL_law (wsV RL 30 RX1 yX1_rule wsX1_rule) := goodIn_app (goodIn_of _ (by decide +kernel)) ggL_law_X1_rule
set_option maxRecDepth 20000 in
theorem ggL_law_X1_prey : GoodIn wsL_law wsX1_prey := goodIn_ca (goodIn_r _ [235, 22, 123, 124, 125, 12, 126, 65, 66, 127, 128, 129, 21, 130, 79, 236, 187, 188, 189, 40, 108, 109, 110, 111, 36, 190, 191, 192, 193, 35, 194, 195, 196, 197, 198, 199, 200, 201, 34, 29, 28, 30, 31, 136, 137, 138, 139, 323, 324, 325, 326, 327, 328, 329, 330, 331, 332, 333, 334, 335, 336, 337, 338, 339] (by decide +kernel) (by decide +kernel)) (goodIn_sub (fun _ h => List.mem_append_right _ h) (by decide +kernel))
set_option maxRecDepth 20000 in
theorem gL_law_X1_prey : GoodIn wsL_law (wsV RL 56 RX1 yX1_prey wsX1_prey) := goodIn_app (goodIn_of _ (by decide +kernel)) ggL_law_X1_prey
set_option maxRecDepth 20000 in
theorem ggL_law_X1_may : GoodIn wsL_law wsX1_may := goodIn_ca (goodIn_r _ [240, 22, 123, 124, 125, 12, 126, 65, 66, 127, 128, 129, 21, 130, 79, 241, 199, 200, 201, 34, 29, 28, 30, 31, 108, 109, 110, 111, 36, 136, 137, 138, 139, 323, 324, 325, 326, 327, 328, 329, 330, 331, 332, 333, 334, 335, 336, 337, 338, 339] (by decide +kernel) (by decide +kernel)) (goodIn_sub (fun _ h => List.mem_append_right _ h) (by decide +kernel))
set_option maxRecDepth 20000 in
theorem gL_law_X1_may : GoodIn wsL_law (wsV RL 59 RX1 yX1_may wsX1_may) := goodIn_app (goodIn_of _ (by decide +kernel)) ggL_law_X1_may
set_option maxRecDepth 20000 in
theorem ggL_law_X1_hunters : GoodIn wsL_law wsX1_hunters := goodIn_ca (goodIn_r _ [245, 22, 123, 124, 125, 12, 126, 65, 66, 127, 128, 129, 21, 130, 79, 236, 187, 188, 189, 40, 108, 109, 110, 111, 36, 190, 191, 192, 193, 35, 194, 195, 196, 197, 198, 199, 200, 201, 34, 29, 28, 30, 31, 136, 137, 138, 139, 323, 324, 325, 326, 327, 328, 329, 330, 331, 332, 333, 334, 335, 336, 337, 338, 339] (by decide +kernel) (by decide +kernel)) (goodIn_sub (fun _ h => List.mem_append_right _ h) (by decide +kernel))
set_option maxRecDepth 20000 in
theorem gL_law_X1_hunters : GoodIn wsL_law (wsV RL 63 RX1 yX1_hunters wsX1_hunters) := goodIn_app (goodIn_of _ (by decide +kernel)) ggL_law_X1_hunters
set_option maxRecDepth 20000 in
theorem ggL_law_L_far : GoodIn wsL_law wsL_far := goodIn_r _ [248, 249, 250, 4, 251, 252, 253, 254] (by decide +kernel) (by decide +kernel)
set_option maxRecDepth 20000 in
theorem gL_law_L_far : GoodIn wsL_law (va_wsS RL 66 yL_far wsL_far) := goodIn_app (goodIn_of _ (by decide +kernel)) ggL_law_L_far
set_option maxRecDepth 20000 in
theorem ggL_law_X1_chain : GoodIn wsL_law wsX1_chain := goodIn_ca (goodIn_r _ [258, 22, 123, 124, 125, 12, 126, 65, 66, 127, 128, 129, 21, 130, 79, 259, 260, 261, 262, 108, 109, 110, 111, 36, 186, 187, 188, 189, 40, 190, 191, 192, 193, 35, 194, 195, 196, 197, 198, 199, 200, 201, 34, 29, 28, 30, 31, 136, 137, 138, 139, 323, 324, 325, 326, 327, 328, 329, 330, 331, 332, 333, 334, 335, 336, 337, 338, 339] (by decide +kernel) (by decide +kernel)) (goodIn_sub (fun _ h => List.mem_append_right _ h) (by decide +kernel))
set_option maxRecDepth 20000 in
theorem gL_law_X1_chain : GoodIn wsL_law (wsV RL 69 RX1 yX1_chain wsX1_chain) := goodIn_app (goodIn_of _ (by decide +kernel)) ggL_law_X1_chain
set_option maxRecDepth 20000 in
theorem ggL_law_X1_digest : GoodIn wsL_law wsX1_digest := goodIn_r _ [266, 267, 268, 22, 91, 92, 93, 21, 94, 95, 79, 96, 97, 98, 99, 36, 100, 101, 102, 103, 34, 104, 105, 106, 107, 28, 108, 109, 110, 111, 112, 113, 114, 115, 116, 117, 118, 131, 132, 133, 134, 29, 30, 31, 32, 33, 35, 37, 38, 135, 128, 129, 130, 136, 137, 138, 139, 323, 324, 325, 326, 327, 328, 329, 330, 331, 332, 333, 334, 335, 336, 337, 338, 339] (by decide +kernel) (by decide +kernel)
set_option maxRecDepth 20000 in
theorem gL_law_X1_digest : GoodIn wsL_law (wsV RL 72 RX1 yX1_digest wsX1_digest) := goodIn_app (goodIn_of _ (by decide +kernel)) ggL_law_X1_digest
set_option maxRecDepth 20000 in
theorem ggL_law_X1_foresee : GoodIn wsL_law wsX1_foresee := goodIn_ca (goodIn_ca (goodIn_r _ [272, 23, 22, 169, 170, 171, 12, 172, 57, 58, 87, 88, 89, 90, 65, 66, 273, 274, 275, 21, 276, 28, 29, 30, 31, 32, 33, 34, 35, 36, 37, 38, 39, 40, 79, 95, 277, 278, 279, 280, 253, 4, 254, 281, 282, 283, 284, 174, 175, 176, 177, 178, 179, 180, 181, 182, 183, 184, 185, 186, 187, 188, 189, 108, 109, 110, 111, 190, 191, 192, 193, 194, 195, 196, 197, 198, 199, 200, 201, 136, 137, 138, 139, 202, 203, 204, 205, 206, 3, 5, 207, 208, 209, 210, 157, 158, 159, 160, 211, 212, 213, 214, 215, 216, 217, 218, 219, 220, 221, 222, 223, 224, 225, 226, 135, 128, 129, 130, 227, 76, 77, 78, 80, 81, 82, 228, 229, 230, 231, 173, 97, 98, 99, 285, 286, 287, 288, 323, 324, 325, 326, 327, 328, 329, 330, 331, 332, 333, 334, 335, 336, 337, 338, 339] (by decide +kernel) (by decide +kernel)) (goodIn_sub (fun _ h => List.mem_append_left _ (List.mem_append_left _ (List.mem_append_right _ h))) (by decide +kernel))) (goodIn_sub (fun _ h => List.mem_append_right _ h) (by decide +kernel))
set_option maxRecDepth 20000 in
theorem gL_law_X1_foresee : GoodIn wsL_law (wsV RL 76 RX1 yX1_foresee wsX1_foresee) := goodIn_app (goodIn_of _ (by decide +kernel)) ggL_law_X1_foresee
set_option maxRecDepth 20000 in
theorem ggL_law_X1_lives : GoodIn wsL_law wsX1_lives := goodIn_ca (goodIn_r _ [292, 22, 123, 124, 125, 12, 126, 65, 66, 127, 128, 129, 21, 130, 79, 152, 109, 110, 111, 36, 293, 294, 295, 296, 23, 273, 274, 275, 276, 28, 29, 30, 31, 32, 33, 34, 35, 37, 38, 39, 40, 95, 277, 278, 279, 280, 253, 4, 254, 281, 282, 283, 284, 153, 154, 155, 156, 108, 80, 81, 82, 157, 158, 159, 160, 297, 179, 180, 181, 182, 183, 184, 185, 186, 187, 188, 189, 190, 191, 192, 193, 194, 195, 196, 197, 198, 199, 200, 201, 136, 137, 138, 139, 202, 203, 204, 205, 206, 3, 5, 207, 208, 209, 210, 211, 212, 213, 214, 215, 216, 217, 218, 219, 220, 221, 222, 223, 224, 225, 226, 135, 227, 76, 77, 78, 228, 229, 230, 231, 323, 324, 325, 326, 327, 328, 329, 330, 331, 332, 333, 334, 335, 336, 337, 338, 339] (by decide +kernel) (by decide +kernel)) (goodIn_sub (fun _ h => List.mem_append_right _ h) (by decide +kernel))
set_option maxRecDepth 20000 in
theorem gL_law_X1_lives : GoodIn wsL_law (wsV RL 79 RX1 yX1_lives wsX1_lives) := goodIn_app (goodIn_of _ (by decide +kernel)) ggL_law_X1_lives
set_option maxRecDepth 20000 in
theorem ggL_law_X1_ends : GoodIn wsL_law wsX1_ends := goodIn_r _ [301, 302, 303, 304, 12, 305, 23, 22, 273, 274, 275, 21, 276, 28, 29, 30, 31, 32, 33, 34, 35, 36, 37, 38, 39, 40, 79, 95, 277, 278, 279, 280, 253, 4, 254, 281, 282, 283, 284, 173, 97, 98, 99, 297, 179, 180, 181, 182, 183, 184, 185, 186, 187, 188, 189, 108, 109, 110, 111, 190, 191, 192, 193, 194, 195, 196, 197, 198, 199, 200, 201, 136, 137, 138, 139, 202, 203, 204, 205, 206, 3, 5, 207, 208, 209, 210, 157, 158, 159, 160, 211, 212, 213, 214, 215, 216, 217, 218, 219, 220, 221, 222, 223, 224, 225, 226, 135, 128, 129, 130, 227, 76, 77, 78, 80, 81, 82, 228, 229, 230, 231, 323, 324, 325, 326, 327, 328, 329, 330, 331, 332, 333, 334, 335, 336, 337, 338, 339] (by decide +kernel) (by decide +kernel)
set_option maxRecDepth 20000 in
theorem gL_law_X1_ends : GoodIn wsL_law (wsV RL 82 RX1 yX1_ends wsX1_ends) := goodIn_app (goodIn_of _ (by decide +kernel)) ggL_law_X1_ends
set_option maxRecDepth 20000 in
theorem ggL_law_X1_last : GoodIn wsL_law wsX1_last := goodIn_r _ [309, 23, 302, 303, 304, 12, 305, 22, 273, 274, 275, 21, 276, 28, 29, 30, 31, 32, 33, 34, 35, 36, 37, 38, 39, 40, 79, 95, 277, 278, 279, 280, 253, 4, 254, 281, 282, 283, 284, 173, 97, 98, 99, 297, 179, 180, 181, 182, 183, 184, 185, 186, 187, 188, 189, 108, 109, 110, 111, 190, 191, 192, 193, 194, 195, 196, 197, 198, 199, 200, 201, 136, 137, 138, 139, 202, 203, 204, 205, 206, 3, 5, 207, 208, 209, 210, 157, 158, 159, 160, 211, 212, 213, 214, 215, 216, 217, 218, 219, 220, 221, 222, 223, 224, 225, 226, 135, 128, 129, 130, 227, 76, 77, 78, 80, 81, 82, 228, 229, 230, 231, 310, 311, 312, 313, 323, 324, 325, 326, 327, 328, 329, 330, 331, 332, 333, 334, 335, 336, 337, 338, 339] (by decide +kernel) (by decide +kernel)
set_option maxRecDepth 20000 in
theorem gL_law_X1_last : GoodIn wsL_law (wsV RL 86 RX1 yX1_last wsX1_last) := goodIn_app (goodIn_of _ (by decide +kernel)) ggL_law_X1_last
set_option maxRecDepth 20000 in
theorem ggL_law_X1_advise : GoodIn wsL_law wsX1_advise := goodIn_ca (goodIn_r _ [317, 22, 318, 253, 4, 254, 123, 124, 125, 12, 126, 65, 66, 127, 128, 129, 21, 130, 79, 152, 109, 110, 111, 36, 293, 294, 295, 296, 23, 273, 274, 275, 276, 28, 29, 30, 31, 32, 33, 34, 35, 37, 38, 39, 40, 95, 277, 278, 279, 280, 281, 282, 283, 284, 153, 154, 155, 156, 108, 80, 81, 82, 157, 158, 159, 160, 297, 179, 180, 181, 182, 183, 184, 185, 186, 187, 188, 189, 190, 191, 192, 193, 194, 195, 196, 197, 198, 199, 200, 201, 136, 137, 138, 139, 202, 203, 204, 205, 206, 3, 5, 207, 208, 209, 210, 211, 212, 213, 214, 215, 216, 217, 218, 219, 220, 221, 222, 223, 224, 225, 226, 135, 227, 76, 77, 78, 228, 229, 230, 231, 323, 324, 325, 326, 327, 328, 329, 330, 331, 332, 333, 334, 335, 336, 337, 338, 339] (by decide +kernel) (by decide +kernel)) (goodIn_sub (fun _ h => List.mem_append_right _ h) (by decide +kernel))
set_option maxRecDepth 20000 in
theorem gL_law_X1_advise : GoodIn wsL_law (wsV RL 89 RX1 yX1_advise wsX1_advise) := goodIn_app (goodIn_of _ (by decide +kernel)) ggL_law_X1_advise
set_option maxRecDepth 20000 in
theorem ggL_law_X1_pass : GoodIn wsL_law wsX1_pass := goodIn_ca (goodIn_r _ [168, 22, 169, 170, 171, 12, 172, 57, 58, 173, 97, 98, 21, 99, 79, 36, 174, 175, 176, 177, 178, 179, 180, 181, 95, 182, 183, 184, 185, 186, 187, 188, 189, 40, 108, 109, 110, 111, 190, 191, 192, 193, 35, 194, 195, 196, 197, 198, 199, 200, 201, 34, 29, 28, 30, 31, 136, 137, 138, 139, 202, 203, 204, 205, 38, 206, 3, 4, 5, 32, 33, 39, 207, 208, 209, 210, 157, 158, 159, 160, 211, 212, 213, 214, 215, 216, 217, 218, 219, 220, 221, 222, 37, 223, 224, 225, 226, 135, 128, 129, 130, 227, 76, 77, 78, 80, 81, 82, 228, 229, 230, 231, 323, 324, 325, 326, 327, 328, 329, 330, 331, 332, 333, 334, 335, 336, 337, 338, 339] (by decide +kernel) (by decide +kernel)) (goodIn_sub (fun _ h => List.mem_append_left _ (List.mem_append_left _ (List.mem_append_right _ h))) (by decide +kernel))
set_option maxRecDepth 20000 in
theorem gL_law_X1_pass : GoodIn wsL_law (wsV RL 42 RX1 yX1_pass wsX1_pass) := goodIn_app (goodIn_of _ (by decide +kernel)) ggL_law_X1_pass
set_option maxRecDepth 20000 in
theorem ggL_law_X1_mean : GoodIn wsL_law wsX1_mean := goodIn_r _ [322, 22, 173, 97, 98, 21, 99, 79, 36, 285, 286, 287, 288, 30, 108, 109, 110, 111, 323, 324, 325, 326, 327, 328, 329, 330, 331, 332, 333, 334, 335, 336, 337, 338, 339] (by decide +kernel) (by decide +kernel)
set_option maxRecDepth 20000 in
theorem gL_law_X1_mean : GoodIn wsL_law (wsV RL 97 RX1 yX1_mean wsX1_mean) := goodIn_app (goodIn_of _ (by decide +kernel)) ggL_law_X1_mean

set_option maxRecDepth 20000 in
theorem ggL_law_X1_init : GoodIn wsL_law wsX1_init := goodIn_r _ [10, 11, 12, 13, 14, 15, 16, 17, 18, 19, 20, 21, 22, 437, 438, 439, 440, 441, 442, 443, 444, 445] (by decide +kernel) (by decide +kernel)
set_option maxRecDepth 20000 in
theorem gL_law_X1_init : GoodIn wsL_law (wsX1_init) := ggL_law_X1_init
set_option maxRecDepth 20000 in
theorem ggL_law_X2_init : GoodIn wsL_law wsX2_init := goodIn_ca (goodIn_r _ [25, 26, 12, 13, 14, 27, 28, 29, 6, 30, 31, 32, 33, 34, 35, 36, 37, 38, 39, 40, 41, 42, 43, 44, 45, 46, 446, 447, 448, 449, 450, 451, 452, 453, 454, 455, 456, 457, 458, 459, 460, 461, 462] (by decide +kernel) (by decide +kernel)) (goodIn_sub (fun _ h => List.mem_append_right _ h) (by decide +kernel))
set_option maxRecDepth 20000 in
theorem gL_law_X2_init : GoodIn wsL_law (wsX2_init) := ggL_law_X2_init
set_option maxRecDepth 20000 in
theorem ggL_law_X1_thing : GoodIn wsL_law wsX1_thing := goodIn_ca (goodIn_r _ [50, 51, 52, 53, 2, 54, 55, 56, 57, 58, 15, 16, 17, 18, 19, 437, 438, 439, 440, 441, 442, 443, 444, 445] (by decide +kernel) (by decide +kernel)) (goodIn_sub (fun _ h => List.mem_append_right _ h) (by decide +kernel))
set_option maxRecDepth 20000 in
theorem gL_law_X1_thing : GoodIn wsL_law (wsV RL 21 RX1 yX1_thing wsX1_thing) := goodIn_app (goodIn_of _ (by decide +kernel)) ggL_law_X1_thing
set_option maxRecDepth 20000 in
theorem ggL_law_X2_thing : GoodIn wsL_law wsX2_thing := goodIn_ca (goodIn_r _ [62, 63, 64, 65, 66, 67, 68, 5, 69, 70, 71, 72, 73, 27, 28, 29, 30, 31, 446, 447, 448, 449, 450, 451, 452, 453, 454, 455, 456, 457, 458, 459, 460, 461, 462] (by decide +kernel) (by decide +kernel)) (goodIn_sub (fun _ h => List.mem_append_right _ h) (by decide +kernel))
set_option maxRecDepth 20000 in
theorem gL_law_X2_thing : GoodIn wsL_law (wsV RL 25 RX2 yX2_thing wsX2_thing) := goodIn_app (goodIn_of _ (by decide +kernel)) ggL_law_X2_thing
set_option maxRecDepth 20000 in
theorem ggL_law_X1_row : GoodIn wsL_law wsX1_row := goodIn_ca (goodIn_r _ [77, 51, 52, 53, 2, 54, 78, 79, 80, 81, 22, 55, 56, 57, 58, 15, 16, 17, 18, 19, 437, 438, 439, 440, 441, 442, 443, 444, 445] (by decide +kernel) (by decide +kernel)) (goodIn_sub (fun _ h => List.mem_append_right _ h) (by decide +kernel))
set_option maxRecDepth 20000 in
theorem gL_law_X1_row : GoodIn wsL_law (wsV RL 26 RX1 yX1_row wsX1_row) := goodIn_app (goodIn_of _ (by decide +kernel)) ggL_law_X1_row
set_option maxRecDepth 20000 in
theorem ggL_law_X2_row : GoodIn wsL_law wsX2_row := goodIn_ca (goodIn_r _ [85, 63, 86, 87, 66, 67, 68, 5, 69, 88, 89, 90, 91, 46, 70, 71, 72, 73, 27, 28, 29, 30, 31, 446, 447, 448, 449, 450, 451, 452, 453, 454, 455, 456, 457, 458, 459, 460, 461, 462] (by decide +kernel) (by decide +kernel)) (goodIn_sub (fun _ h => List.mem_append_right _ h) (by decide +kernel))
set_option maxRecDepth 20000 in
theorem gL_law_X2_row : GoodIn wsL_law (wsV RL 29 RX2 yX2_row wsX2_row) := goodIn_app (goodIn_of _ (by decide +kernel)) ggL_law_X2_row
set_option maxRecDepth 20000 in
theorem ggL_law_X1_makeCase : GoodIn wsL_law wsX1_makeCase := goodIn_ca (goodIn_r _ [95, 51, 55, 56, 57, 2, 58, 15, 16, 17, 18, 19, 52, 53, 54, 437, 438, 439, 440, 441, 442, 443, 444, 445] (by decide +kernel) (by decide +kernel)) (goodIn_sub (fun _ h => List.mem_append_right _ h) (by decide +kernel))
set_option maxRecDepth 20000 in
theorem gL_law_X1_makeCase : GoodIn wsL_law (wsV RL 30 RX1 yX1_makeCase wsX1_makeCase) := goodIn_app (goodIn_of _ (by decide +kernel)) ggL_law_X1_makeCase
set_option maxRecDepth 20000 in
theorem ggL_law_X2_makeCase : GoodIn wsL_law wsX2_makeCase := goodIn_ca (goodIn_r _ [99, 63, 66, 70, 71, 72, 5, 73, 27, 28, 29, 30, 31, 446, 447, 448, 449, 450, 451, 452, 453, 454, 455, 456, 457, 458, 459, 460, 461, 462] (by decide +kernel) (by decide +kernel)) (goodIn_sub (fun _ h => List.mem_append_right _ h) (by decide +kernel))
set_option maxRecDepth 20000 in
theorem gL_law_X2_makeCase : GoodIn wsL_law (wsV RL 34 RX2 yX2_makeCase wsX2_makeCase) := goodIn_app (goodIn_of _ (by decide +kernel)) ggL_law_X2_makeCase
set_option maxRecDepth 20000 in
theorem ggL_law_X1_is : GoodIn wsL_law wsX1_is := goodIn_ca (goodIn_r _ [103, 104, 105, 106, 2, 107, 51, 52, 53, 54, 108, 109, 110, 111, 15, 112, 113, 114, 437, 438, 439, 440, 441, 442, 443, 444, 445] (by decide +kernel) (by decide +kernel)) (goodIn_sub (fun _ h => List.mem_append_right _ h) (by decide +kernel))
set_option maxRecDepth 20000 in
theorem gL_law_X1_is : GoodIn wsL_law (wsV RL 35 RX1 yX1_is wsX1_is) := goodIn_app (goodIn_of _ (by decide +kernel)) ggL_law_X1_is
set_option maxRecDepth 20000 in
theorem ggL_law_X2_is : GoodIn wsL_law wsX2_is := goodIn_ca (goodIn_r _ [118, 63, 119, 120, 121, 122, 5, 123, 66, 67, 68, 69, 124, 125, 126, 127, 38, 27, 446, 447, 448, 449, 450, 451, 452, 453, 454, 455, 456, 457, 458, 459, 460, 461, 462] (by decide +kernel) (by decide +kernel)) (goodIn_sub (fun _ h => List.mem_append_right _ h) (by decide +kernel))
set_option maxRecDepth 20000 in
theorem gL_law_X2_is : GoodIn wsL_law (wsV RL 38 RX2 yX2_is wsX2_is) := goodIn_app (goodIn_of _ (by decide +kernel)) ggL_law_X2_is
set_option maxRecDepth 20000 in
theorem ggL_law_X1_kinds : GoodIn wsL_law wsX1_kinds := goodIn_ca (goodIn_r _ [131, 104, 105, 106, 2, 107, 51, 108, 109, 110, 111, 15, 112, 113, 114, 437, 438, 439, 440, 441, 442, 443, 444, 445] (by decide +kernel) (by decide +kernel)) (goodIn_sub (fun _ h => List.mem_append_right _ h) (by decide +kernel))
set_option maxRecDepth 20000 in
theorem gL_law_X1_kinds : GoodIn wsL_law (wsV RL 39 RX1 yX1_kinds wsX1_kinds) := goodIn_app (goodIn_of _ (by decide +kernel)) ggL_law_X1_kinds
set_option maxRecDepth 20000 in
theorem ggL_law_X2_kinds : GoodIn wsL_law wsX2_kinds := goodIn_ca (goodIn_r _ [135, 63, 120, 121, 122, 5, 123, 66, 67, 68, 69, 124, 125, 126, 127, 38, 27, 446, 447, 448, 449, 450, 451, 452, 453, 454, 455, 456, 457, 458, 459, 460, 461, 462] (by decide +kernel) (by decide +kernel)) (goodIn_sub (fun _ h => List.mem_append_right _ h) (by decide +kernel))
set_option maxRecDepth 20000 in
theorem gL_law_X2_kinds : GoodIn wsL_law (wsV RL 43 RX2 yX2_kinds wsX2_kinds) := goodIn_app (goodIn_of _ (by decide +kernel)) ggL_law_X2_kinds
set_option maxRecDepth 20000 in
theorem ggL_law_X1_worth : GoodIn wsL_law wsX1_worth := goodIn_ca (goodIn_r _ [139, 15, 16, 104, 105, 106, 2, 107, 51, 52, 53, 54, 108, 109, 110, 111, 112, 113, 114, 78, 79, 80, 81, 22, 140, 141, 142, 437, 438, 439, 440, 441, 442, 443, 444, 445] (by decide +kernel) (by decide +kernel)) (goodIn_sub (fun _ h => List.mem_append_right _ h) (by decide +kernel))
set_option maxRecDepth 20000 in
theorem gL_law_X1_worth : GoodIn wsL_law (wsV RL 44 RX1 yX1_worth wsX1_worth) := goodIn_app (goodIn_of _ (by decide +kernel)) ggL_law_X1_worth
set_option maxRecDepth 20000 in
theorem ggL_law_X2_worth : GoodIn wsL_law wsX2_worth := goodIn_ca (goodIn_r _ [146, 63, 147, 120, 121, 122, 5, 123, 66, 67, 68, 69, 124, 125, 126, 127, 38, 27, 148, 149, 150, 151, 28, 88, 89, 90, 91, 46, 446, 447, 448, 449, 450, 451, 452, 453, 454, 455, 456, 457, 458, 459, 460, 461, 462] (by decide +kernel) (by decide +kernel)) (goodIn_sub (fun _ h => List.mem_append_right _ h) (by decide +kernel))
set_option maxRecDepth 20000 in
theorem gL_law_X2_worth : GoodIn wsL_law (wsV RL 47 RX2 yX2_worth wsX2_worth) := goodIn_app (goodIn_of _ (by decide +kernel)) ggL_law_X2_worth
set_option maxRecDepth 20000 in
theorem ggL_law_X1_date : GoodIn wsL_law wsX1_date := goodIn_ca (goodIn_r _ [155, 15, 16, 104, 105, 106, 2, 107, 51, 108, 109, 110, 111, 112, 113, 114, 78, 79, 80, 81, 22, 437, 438, 439, 440, 441, 442, 443, 444, 445] (by decide +kernel) (by decide +kernel)) (goodIn_sub (fun _ h => List.mem_append_right _ h) (by decide +kernel))
set_option maxRecDepth 20000 in
theorem gL_law_X1_date : GoodIn wsL_law (wsV RL 48 RX1 yX1_date wsX1_date) := goodIn_app (goodIn_of _ (by decide +kernel)) ggL_law_X1_date
set_option maxRecDepth 20000 in
theorem ggL_law_X2_date : GoodIn wsL_law wsX2_date := goodIn_ca (goodIn_r _ [159, 63, 27, 28, 120, 121, 122, 5, 123, 66, 67, 68, 69, 124, 125, 126, 127, 38, 88, 89, 90, 91, 46, 446, 447, 448, 449, 450, 451, 452, 453, 454, 455, 456, 457, 458, 459, 460, 461, 462] (by decide +kernel) (by decide +kernel)) (goodIn_sub (fun _ h => List.mem_append_right _ h) (by decide +kernel))
set_option maxRecDepth 20000 in
theorem gL_law_X2_date : GoodIn wsL_law (wsV RL 51 RX2 yX2_date wsX2_date) := goodIn_app (goodIn_of _ (by decide +kernel)) ggL_law_X2_date
set_option maxRecDepth 20000 in
theorem ggL_law_X1_size : GoodIn wsL_law wsX1_size := goodIn_ca (goodIn_r _ [163, 17, 104, 105, 106, 2, 107, 51, 52, 53, 54, 108, 109, 110, 111, 15, 112, 113, 114, 78, 79, 80, 81, 22, 437, 438, 439, 440, 441, 442, 443, 444, 445] (by decide +kernel) (by decide +kernel)) (goodIn_sub (fun _ h => List.mem_append_right _ h) (by decide +kernel))
set_option maxRecDepth 20000 in
theorem gL_law_X1_size : GoodIn wsL_law (wsV RL 52 RX1 yX1_size wsX1_size) := goodIn_app (goodIn_of _ (by decide +kernel)) ggL_law_X1_size
set_option maxRecDepth 20000 in
theorem ggL_law_X2_size : GoodIn wsL_law wsX2_size := goodIn_ca (goodIn_r _ [167, 63, 29, 168, 169, 170, 5, 171, 120, 121, 122, 123, 66, 67, 68, 69, 124, 125, 126, 127, 38, 27, 88, 89, 90, 91, 46, 446, 447, 448, 449, 450, 451, 452, 453, 454, 455, 456, 457, 458, 459, 460, 461, 462] (by decide +kernel) (by decide +kernel)) (goodIn_sub (fun _ h => List.mem_append_right _ h) (by decide +kernel))
set_option maxRecDepth 20000 in
theorem gL_law_X2_size : GoodIn wsL_law (wsV RL 55 RX2 yX2_size wsX2_size) := goodIn_app (goodIn_of _ (by decide +kernel)) ggL_law_X2_size
set_option maxRecDepth 20000 in
theorem ggL_law_X1_write : GoodIn wsL_law wsX1_write := goodIn_ca (goodIn_r _ [175, 19, 104, 105, 106, 2, 107, 51, 52, 53, 54, 108, 109, 110, 111, 15, 112, 113, 114, 78, 79, 80, 81, 22, 176, 177, 178, 179, 17, 180, 181, 182, 183, 437, 438, 439, 440, 441, 442, 443, 444, 445] (by decide +kernel) (by decide +kernel)) (goodIn_sub (fun _ h => List.mem_append_right _ h) (by decide +kernel))
set_option maxRecDepth 20000 in
theorem gL_law_X1_write : GoodIn wsL_law (wsV RL 58 RX1 yX1_write wsX1_write) := goodIn_app (goodIn_of _ (by decide +kernel)) ggL_law_X1_write
set_option maxRecDepth 20000 in
theorem ggL_law_X2_write : GoodIn wsL_law wsX2_write := goodIn_ca (goodIn_r _ [187, 63, 188, 189, 29, 30, 168, 169, 170, 5, 171, 120, 121, 122, 123, 66, 67, 68, 69, 124, 125, 126, 127, 38, 27, 88, 89, 90, 91, 46, 190, 191, 192, 193, 446, 447, 448, 449, 450, 451, 452, 453, 454, 455, 456, 457, 458, 459, 460, 461, 462] (by decide +kernel) (by decide +kernel)) (goodIn_sub (fun _ h => List.mem_append_right _ h) (by decide +kernel))
set_option maxRecDepth 20000 in
theorem gL_law_X2_write : GoodIn wsL_law (wsV RL 62 RX2 yX2_write wsX2_write) := goodIn_app (goodIn_of _ (by decide +kernel)) ggL_law_X2_write
set_option maxRecDepth 20000 in
theorem ggL_law_L_read : GoodIn wsL_law wsL_read := goodIn_ca (goodIn_r _ [197, 198, 199, 200, 201, 202, 2, 203, 204, 205, 206, 207, 208, 209, 19, 104, 105, 106, 107, 51, 52, 53, 54, 108, 109, 110, 111, 15, 112, 113, 114, 176, 177, 178, 179, 17, 463, 464, 465, 466, 467, 468, 469, 470, 471, 472, 473, 474, 437, 438, 439, 440, 441, 442, 443, 444, 445] (by decide +kernel) (by decide +kernel)) (goodIn_sub (fun _ h => List.mem_append_right _ h) (by decide +kernel))
set_option maxRecDepth 20000 in
theorem gL_law_L_read : GoodIn wsL_law (va_wsS RL 63 yL_read wsL_read) := goodIn_app (goodIn_of _ (by decide +kernel)) ggL_law_L_read
set_option maxRecDepth 20000 in
theorem ggL_law_X2_read : GoodIn wsL_law wsX2_read := goodIn_ca (goodIn_r _ [213, 63, 29, 30, 168, 169, 170, 5, 171, 120, 121, 122, 123, 66, 67, 68, 69, 124, 125, 126, 127, 38, 27, 446, 447, 448, 449, 450, 451, 452, 453, 454, 455, 456, 457, 458, 459, 460, 461, 462] (by decide +kernel) (by decide +kernel)) (goodIn_sub (fun _ h => List.mem_append_right _ h) (by decide +kernel))
set_option maxRecDepth 20000 in
theorem gL_law_X2_read : GoodIn wsL_law (wsV RL 68 RX2 yX2_read wsX2_read) := goodIn_app (goodIn_of _ (by decide +kernel)) ggL_law_X2_read
set_option maxRecDepth 20000 in
theorem ggL_law_X2_thrown : GoodIn wsL_law wsX2_thrown := goodIn_r _ [217, 63, 446, 447, 448, 449, 450, 451, 452, 453, 454, 455, 456, 457, 458, 459, 460, 461, 462] (by decide +kernel) (by decide +kernel)
set_option maxRecDepth 20000 in
theorem gL_law_X2_thrown : GoodIn wsL_law (wsV RL 69 RX2 yX2_thrown wsX2_thrown) := goodIn_app (goodIn_of _ (by decide +kernel)) ggL_law_X2_thrown
set_option maxRecDepth 20000 in
theorem ggL_law_X1_hang : GoodIn wsL_law wsX1_hang := goodIn_ca (goodIn_r _ [221, 15, 19, 104, 105, 106, 2, 107, 51, 222, 223, 224, 225, 52, 53, 54, 108, 109, 110, 111, 112, 113, 114, 226, 227, 228, 229, 230, 231, 232, 78, 79, 80, 81, 22, 176, 177, 178, 179, 17, 437, 438, 439, 440, 441, 442, 443, 444, 445] (by decide +kernel) (by decide +kernel)) (goodIn_sub (fun _ h => List.mem_append_right _ h) (by decide +kernel))
set_option maxRecDepth 20000 in
theorem gL_law_X1_hang : GoodIn wsL_law (wsV RL 72 RX1 yX1_hang wsX1_hang) := goodIn_app (goodIn_of _ (by decide +kernel)) ggL_law_X1_hang
set_option maxRecDepth 20000 in
theorem ggL_law_X2_hang : GoodIn wsL_law wsX2_hang := goodIn_ca (goodIn_r _ [236, 63, 237, 87, 39, 29, 27, 31, 120, 121, 122, 5, 123, 66, 67, 68, 69, 124, 125, 126, 127, 38, 88, 89, 90, 91, 46, 446, 447, 448, 449, 450, 451, 452, 453, 454, 455, 456, 457, 458, 459, 460, 461, 462] (by decide +kernel) (by decide +kernel)) (goodIn_sub (fun _ h => List.mem_append_right _ h) (by decide +kernel))
set_option maxRecDepth 20000 in
theorem gL_law_X2_hang : GoodIn wsL_law (wsV RL 76 RX2 yX2_hang wsX2_hang) := goodIn_app (goodIn_of _ (by decide +kernel)) ggL_law_X2_hang
set_option maxRecDepth 20000 in
theorem ggL_law_X1_at : GoodIn wsL_law wsX1_at := goodIn_ca (goodIn_r _ [241, 19, 104, 105, 106, 2, 107, 51, 52, 53, 54, 108, 109, 110, 111, 15, 112, 113, 114, 78, 79, 80, 81, 22, 176, 177, 178, 179, 17, 437, 438, 439, 440, 441, 442, 443, 444, 445] (by decide +kernel) (by decide +kernel)) (goodIn_sub (fun _ h => List.mem_append_right _ h) (by decide +kernel))
set_option maxRecDepth 20000 in
theorem gL_law_X1_at : GoodIn wsL_law (wsV RL 77 RX1 yX1_at wsX1_at) := goodIn_app (goodIn_of _ (by decide +kernel)) ggL_law_X1_at
set_option maxRecDepth 20000 in
theorem ggL_law_X2_at : GoodIn wsL_law wsX2_at := goodIn_ca (goodIn_r _ [245, 63, 29, 31, 168, 169, 170, 5, 171, 120, 121, 122, 123, 66, 67, 68, 69, 124, 125, 126, 127, 38, 27, 88, 89, 90, 91, 46, 246, 247, 248, 446, 447, 448, 449, 450, 451, 452, 453, 454, 455, 456, 457, 458, 459, 460, 461, 462] (by decide +kernel) (by decide +kernel)) (goodIn_sub (fun _ h => List.mem_append_right _ h) (by decide +kernel))
set_option maxRecDepth 20000 in
theorem gL_law_X2_at : GoodIn wsL_law (wsV RL 81 RX2 yX2_at wsX2_at) := goodIn_app (goodIn_of _ (by decide +kernel)) ggL_law_X2_at
set_option maxRecDepth 20000 in
theorem ggL_law_X1_deep : GoodIn wsL_law wsX1_deep := goodIn_ca (goodIn_r _ [252, 19, 104, 105, 106, 2, 107, 51, 108, 109, 110, 111, 15, 112, 113, 114, 78, 79, 80, 81, 22, 176, 177, 178, 179, 17, 437, 438, 439, 440, 441, 442, 443, 444, 445] (by decide +kernel) (by decide +kernel)) (goodIn_sub (fun _ h => List.mem_append_right _ h) (by decide +kernel))
set_option maxRecDepth 20000 in
theorem gL_law_X1_deep : GoodIn wsL_law (wsV RL 82 RX1 yX1_deep wsX1_deep) := goodIn_app (goodIn_of _ (by decide +kernel)) ggL_law_X1_deep
set_option maxRecDepth 20000 in
theorem ggL_law_X2_deep : GoodIn wsL_law wsX2_deep := goodIn_ca (goodIn_r _ [256, 63, 29, 31, 30, 120, 121, 122, 5, 123, 66, 67, 68, 69, 124, 125, 126, 127, 38, 27, 88, 89, 90, 91, 46, 246, 247, 248, 446, 447, 448, 449, 450, 451, 452, 453, 454, 455, 456, 457, 458, 459, 460, 461, 462] (by decide +kernel) (by decide +kernel)) (goodIn_sub (fun _ h => List.mem_append_right _ h) (by decide +kernel))
set_option maxRecDepth 20000 in
theorem gL_law_X2_deep : GoodIn wsL_law (wsV RL 85 RX2 yX2_deep wsX2_deep) := goodIn_app (goodIn_of _ (by decide +kernel)) ggL_law_X2_deep
set_option maxRecDepth 20000 in
theorem ggL_law_X1_fill : GoodIn wsL_law wsX1_fill := goodIn_ca (goodIn_r _ [260, 18, 261, 262, 263, 2, 264, 15, 104, 105, 106, 107, 51, 222, 223, 224, 225, 265, 266, 267, 268, 437, 438, 439, 440, 441, 442, 443, 444, 445] (by decide +kernel) (by decide +kernel)) (goodIn_sub (fun _ h => List.mem_append_right _ h) (by decide +kernel))
set_option maxRecDepth 20000 in
theorem gL_law_X1_fill : GoodIn wsL_law (wsV RL 86 RX1 yX1_fill wsX1_fill) := goodIn_app (goodIn_of _ (by decide +kernel)) ggL_law_X1_fill
set_option maxRecDepth 20000 in
theorem ggL_law_X2_fill : GoodIn wsL_law wsX2_fill := goodIn_ca (goodIn_r _ [272, 63, 31, 273, 274, 275, 5, 276, 27, 120, 121, 122, 123, 66, 67, 68, 69, 277, 278, 279, 280, 281, 282, 283, 284, 246, 247, 248, 446, 447, 448, 449, 450, 451, 452, 453, 454, 455, 456, 457, 458, 459, 460, 461, 462] (by decide +kernel) (by decide +kernel)) (goodIn_sub (fun _ h => List.mem_append_right _ h) (by decide +kernel))
set_option maxRecDepth 20000 in
theorem gL_law_X2_fill : GoodIn wsL_law (wsV RL 89 RX2 yX2_fill wsX2_fill) := goodIn_app (goodIn_of _ (by decide +kernel)) ggL_law_X2_fill
set_option maxRecDepth 20000 in
theorem ggL_law_X1_held : GoodIn wsL_law wsX1_held := goodIn_ca (goodIn_r _ [288, 18, 261, 262, 263, 2, 264, 15, 104, 105, 106, 107, 51, 437, 438, 439, 440, 441, 442, 443, 444, 445] (by decide +kernel) (by decide +kernel)) (goodIn_sub (fun _ h => List.mem_append_right _ h) (by decide +kernel))
set_option maxRecDepth 20000 in
theorem gL_law_X1_held : GoodIn wsL_law (wsV RL 90 RX1 yX1_held wsX1_held) := goodIn_app (goodIn_of _ (by decide +kernel)) ggL_law_X1_held
set_option maxRecDepth 20000 in
theorem ggL_law_X2_held : GoodIn wsL_law wsX2_held := goodIn_ca (goodIn_r _ [292, 63, 273, 274, 275, 5, 276, 27, 120, 121, 122, 123, 66, 67, 68, 69, 281, 282, 283, 284, 31, 246, 247, 248, 446, 447, 448, 449, 450, 451, 452, 453, 454, 455, 456, 457, 458, 459, 460, 461, 462] (by decide +kernel) (by decide +kernel)) (goodIn_sub (fun _ h => List.mem_append_right _ h) (by decide +kernel))
set_option maxRecDepth 20000 in
theorem gL_law_X2_held : GoodIn wsL_law (wsV RL 93 RX2 yX2_held wsX2_held) := goodIn_app (goodIn_of _ (by decide +kernel)) ggL_law_X2_held
set_option maxRecDepth 20000 in
theorem ggL_law_X1_innermost : GoodIn wsL_law wsX1_innermost := goodIn_ca (goodIn_r _ [296, 261, 262, 263, 2, 264, 15, 104, 105, 106, 107, 51, 52, 53, 54, 297, 298, 299, 300, 18, 108, 109, 110, 111, 112, 113, 114, 437, 438, 439, 440, 441, 442, 443, 444, 445] (by decide +kernel) (by decide +kernel)) (goodIn_sub (fun _ h => List.mem_append_right _ h) (by decide +kernel))
set_option maxRecDepth 20000 in
theorem gL_law_X1_innermost : GoodIn wsL_law (wsV RL 94 RX1 yX1_innermost wsX1_innermost) := goodIn_app (goodIn_of _ (by decide +kernel)) ggL_law_X1_innermost
set_option maxRecDepth 20000 in
theorem ggL_law_X2_innermost : GoodIn wsL_law wsX2_innermost := goodIn_ca (goodIn_r _ [304, 63, 119, 273, 274, 275, 5, 276, 27, 120, 121, 122, 123, 66, 67, 68, 69, 305, 306, 307, 308, 281, 282, 283, 284, 31, 124, 125, 126, 127, 38, 446, 447, 448, 449, 450, 451, 452, 453, 454, 455, 456, 457, 458, 459, 460, 461, 462] (by decide +kernel) (by decide +kernel)) (goodIn_sub (fun _ h => List.mem_append_right _ h) (by decide +kernel))
set_option maxRecDepth 20000 in
theorem gL_law_X2_innermost : GoodIn wsL_law (wsV RL 97 RX2 yX2_innermost wsX2_innermost) := goodIn_app (goodIn_of _ (by decide +kernel)) ggL_law_X2_innermost
set_option maxRecDepth 20000 in
theorem ggL_law_X1_depth : GoodIn wsL_law wsX1_depth := goodIn_ca (goodIn_r _ [312, 18, 261, 262, 263, 2, 264, 15, 104, 105, 106, 107, 51, 437, 438, 439, 440, 441, 442, 443, 444, 445] (by decide +kernel) (by decide +kernel)) (goodIn_sub (fun _ h => List.mem_append_right _ h) (by decide +kernel))
set_option maxRecDepth 20000 in
theorem gL_law_X1_depth : GoodIn wsL_law (wsV RL 98 RX1 yX1_depth wsX1_depth) := goodIn_app (goodIn_of _ (by decide +kernel)) ggL_law_X1_depth
set_option maxRecDepth 20000 in
theorem ggL_law_X2_depth : GoodIn wsL_law wsX2_depth := goodIn_ca (goodIn_r _ [316, 63, 27, 273, 274, 275, 5, 276, 120, 121, 122, 123, 66, 67, 68, 69, 281, 282, 283, 284, 31, 446, 447, 448, 449, 450, 451, 452, 453, 454, 455, 456, 457, 458, 459, 460, 461, 462] (by decide +kernel) (by decide +kernel)) (goodIn_sub (fun _ h => List.mem_append_right _ h) (by decide +kernel))
set_option maxRecDepth 20000 in
theorem gL_law_X2_depth : GoodIn wsL_law (wsV RL 101 RX2 yX2_depth wsX2_depth) := goodIn_app (goodIn_of _ (by decide +kernel)) ggL_law_X2_depth
set_option maxRecDepth 20000 in
theorem ggL_law_X1_inside : GoodIn wsL_law wsX1_inside := goodIn_ca (goodIn_r _ [320, 15, 16, 261, 262, 263, 2, 264, 104, 105, 106, 107, 51, 297, 298, 299, 300, 18, 78, 79, 80, 81, 22, 108, 109, 110, 111, 112, 113, 114, 140, 141, 142, 437, 438, 439, 440, 441, 442, 443, 444, 445] (by decide +kernel) (by decide +kernel)) (goodIn_sub (fun _ h => List.mem_append_right _ h) (by decide +kernel))
set_option maxRecDepth 20000 in
theorem gL_law_X1_inside : GoodIn wsL_law (wsV RL 102 RX1 yX1_inside wsX1_inside) := goodIn_app (goodIn_of _ (by decide +kernel)) ggL_law_X1_inside
set_option maxRecDepth 20000 in
theorem ggL_law_X2_inside : GoodIn wsL_law wsX2_inside := goodIn_ca (goodIn_r _ [324, 63, 273, 274, 275, 5, 276, 27, 120, 121, 122, 123, 66, 67, 68, 69, 305, 306, 307, 308, 281, 282, 283, 284, 31, 88, 89, 90, 91, 46, 124, 125, 126, 127, 38, 148, 149, 150, 151, 28, 446, 447, 448, 449, 450, 451, 452, 453, 454, 455, 456, 457, 458, 459, 460, 461, 462] (by decide +kernel) (by decide +kernel)) (goodIn_sub (fun _ h => List.mem_append_right _ h) (by decide +kernel))
set_option maxRecDepth 20000 in
theorem gL_law_X2_inside : GoodIn wsL_law (wsV RL 105 RX2 yX2_inside wsX2_inside) := goodIn_app (goodIn_of _ (by decide +kernel)) ggL_law_X2_inside
set_option maxRecDepth 20000 in
theorem ggL_law_X1_loan : GoodIn wsL_law wsX1_loan := goodIn_ca (goodIn_r _ [328, 329, 21, 20, 330, 331, 332, 333, 334, 12, 13, 335, 336, 337, 14, 338, 339, 340, 437, 438, 439, 440, 441, 442, 443, 444, 445, 475, 476, 477, 478, 479, 480] (by decide +kernel) (by decide +kernel)) (goodIn_sub (fun _ h => List.mem_append_right _ h) (by decide +kernel))
set_option maxRecDepth 20000 in
theorem gL_law_X1_loan : GoodIn wsL_law (wsV RL 106 RX1 yX1_loan wsX1_loan) := goodIn_app (goodIn_of _ (by decide +kernel)) ggL_law_X1_loan
set_option maxRecDepth 20000 in
theorem ggL_law_X2_loan : GoodIn wsL_law wsX2_loan := goodIn_ca (goodIn_r _ [344, 63, 345, 40, 41, 42, 446, 447, 448, 449, 450, 451, 452, 453, 454, 455, 456, 457, 458, 459, 460, 461, 462] (by decide +kernel) (by decide +kernel)) (goodIn_sub (fun _ h => List.mem_append_right _ h) (by decide +kernel))
set_option maxRecDepth 20000 in
theorem gL_law_X2_loan : GoodIn wsL_law (wsV RL 109 RX2 yX2_loan wsX2_loan) := goodIn_app (goodIn_of _ (by decide +kernel)) ggL_law_X2_loan
set_option maxRecDepth 20000 in
theorem ggL_law_X1_want : GoodIn wsL_law wsX1_want := goodIn_ca (goodIn_r _ [349, 350, 351, 352, 2, 353, 329, 21, 261, 262, 263, 264, 15, 104, 105, 106, 107, 51, 52, 53, 54, 475, 476, 477, 478, 479, 480, 437, 438, 439, 440, 441, 442, 443, 444, 445] (by decide +kernel) (by decide +kernel)) (goodIn_sub (fun _ h => List.mem_append_right _ h) (by decide +kernel))
set_option maxRecDepth 20000 in
theorem gL_law_X1_want : GoodIn wsL_law (wsV RL 110 RX1 yX1_want wsX1_want) := goodIn_app (goodIn_of _ (by decide +kernel)) ggL_law_X1_want
set_option maxRecDepth 20000 in
theorem ggL_law_X2_want : GoodIn wsL_law wsX2_want := goodIn_ca (goodIn_r _ [357, 63, 119, 40, 41, 43, 44, 45, 358, 359, 360, 5, 361, 345, 67, 68, 69, 273, 274, 275, 276, 27, 120, 121, 122, 123, 66, 446, 447, 448, 449, 450, 451, 452, 453, 454, 455, 456, 457, 458, 459, 460, 461, 462] (by decide +kernel) (by decide +kernel)) (goodIn_sub (fun _ h => List.mem_append_right _ h) (by decide +kernel))
set_option maxRecDepth 20000 in
theorem gL_law_X2_want : GoodIn wsL_law (wsV RL 113 RX2 yX2_want wsX2_want) := goodIn_app (goodIn_of _ (by decide +kernel)) ggL_law_X2_want
set_option maxRecDepth 20000 in
theorem ggL_law_X1_leave : GoodIn wsL_law wsX1_leave := goodIn_ca (goodIn_r _ [365, 350, 351, 352, 2, 353, 329, 21, 366, 367, 368, 369, 18, 108, 109, 110, 111, 15, 104, 105, 106, 107, 51, 112, 113, 114, 370, 331, 371, 372, 335, 337, 78, 79, 80, 81, 22, 475, 476, 477, 478, 479, 480, 437, 438, 439, 440, 441, 442, 443, 444, 445] (by decide +kernel) (by decide +kernel)) (goodIn_sub (fun _ h => List.mem_append_right _ h) (by decide +kernel))
set_option maxRecDepth 20000 in
theorem gL_law_X1_leave : GoodIn wsL_law (wsV RL 114 RX1 yX1_leave wsX1_leave) := goodIn_app (goodIn_of _ (by decide +kernel)) ggL_law_X1_leave
set_option maxRecDepth 20000 in
theorem ggL_law_X2_leave : GoodIn wsL_law wsX2_leave := goodIn_ca (goodIn_r _ [376, 63, 40, 41, 43, 44, 45, 31, 358, 359, 360, 5, 361, 345, 67, 68, 69, 281, 282, 283, 284, 377, 378, 379, 380, 42, 88, 89, 90, 91, 46, 124, 125, 126, 127, 38, 27, 446, 447, 448, 449, 450, 451, 452, 453, 454, 455, 456, 457, 458, 459, 460, 461, 462] (by decide +kernel) (by decide +kernel)) (goodIn_sub (fun _ h => List.mem_append_right _ h) (by decide +kernel))
set_option maxRecDepth 20000 in
theorem gL_law_X2_leave : GoodIn wsL_law (wsV RL 117 RX2 yX2_leave wsX2_leave) := goodIn_app (goodIn_of _ (by decide +kernel)) ggL_law_X2_leave
set_option maxRecDepth 20000 in
theorem ggL_law_X1_back : GoodIn wsL_law wsX1_back := goodIn_ca (goodIn_r _ [384, 350, 351, 352, 2, 353, 329, 21, 385, 386, 387, 388, 18, 265, 266, 267, 268, 261, 262, 263, 264, 15, 104, 105, 106, 107, 51, 389, 331, 390, 391, 340, 335, 337, 392, 370, 371, 372, 475, 476, 477, 478, 479, 480, 437, 438, 439, 440, 441, 442, 443, 444, 445] (by decide +kernel) (by decide +kernel)) (goodIn_sub (fun _ h => List.mem_append_right _ h) (by decide +kernel))
set_option maxRecDepth 20000 in
theorem gL_law_X1_back : GoodIn wsL_law (wsV RL 118 RX1 yX1_back wsX1_back) := goodIn_app (goodIn_of _ (by decide +kernel)) ggL_law_X1_back
set_option maxRecDepth 20000 in
theorem ggL_law_X2_back : GoodIn wsL_law wsX2_back := goodIn_ca (goodIn_r _ [396, 63, 40, 41, 45, 43, 31, 42, 358, 359, 360, 5, 361, 345, 67, 68, 69, 281, 282, 283, 284, 277, 278, 279, 280, 27, 446, 447, 448, 449, 450, 451, 452, 453, 454, 455, 456, 457, 458, 459, 460, 461, 462] (by decide +kernel) (by decide +kernel)) (goodIn_sub (fun _ h => List.mem_append_right _ h) (by decide +kernel))
set_option maxRecDepth 20000 in
theorem gL_law_X2_back : GoodIn wsL_law (wsV RL 121 RX2 yX2_back wsX2_back) := goodIn_app (goodIn_of _ (by decide +kernel)) ggL_law_X2_back
set_option maxRecDepth 20000 in
theorem ggL_law_X1_told : GoodIn wsL_law wsX1_told := goodIn_ca (goodIn_r _ [400, 350, 351, 352, 2, 353, 329, 21, 401, 331, 402, 403, 340, 475, 476, 477, 478, 479, 480, 437, 438, 439, 440, 441, 442, 443, 444, 445] (by decide +kernel) (by decide +kernel)) (goodIn_sub (fun _ h => List.mem_append_right _ h) (by decide +kernel))
set_option maxRecDepth 20000 in
theorem gL_law_X1_told : GoodIn wsL_law (wsV RL 122 RX1 yX1_told wsX1_told) := goodIn_app (goodIn_of _ (by decide +kernel)) ggL_law_X1_told
set_option maxRecDepth 20000 in
theorem ggL_law_X2_told_ : GoodIn wsL_law wsX2_told_ := goodIn_ca (goodIn_r _ [407, 63, 147, 41, 45, 40, 42, 358, 359, 360, 5, 361, 345, 67, 68, 69, 446, 447, 448, 449, 450, 451, 452, 453, 454, 455, 456, 457, 458, 459, 460, 461, 462] (by decide +kernel) (by decide +kernel)) (goodIn_sub (fun _ h => List.mem_append_right _ h) (by decide +kernel))
set_option maxRecDepth 20000 in
theorem gL_law_X2_told_ : GoodIn wsL_law (wsV RL 125 RX2 yX2_told_ wsX2_told_) := goodIn_app (goodIn_of _ (by decide +kernel)) ggL_law_X2_told_
set_option maxRecDepth 20000 in
theorem ggL_law_X1_van : GoodIn wsL_law wsX1_van := goodIn_ca (goodIn_r _ [411, 350, 351, 352, 2, 353, 329, 21, 52, 53, 54, 475, 476, 477, 478, 479, 480, 437, 438, 439, 440, 441, 442, 443, 444, 445] (by decide +kernel) (by decide +kernel)) (goodIn_sub (fun _ h => List.mem_append_right _ h) (by decide +kernel))
set_option maxRecDepth 20000 in
theorem gL_law_X1_van : GoodIn wsL_law (wsV RL 126 RX1 yX1_van wsX1_van) := goodIn_app (goodIn_of _ (by decide +kernel)) ggL_law_X1_van
set_option maxRecDepth 20000 in
theorem ggL_law_X2_van : GoodIn wsL_law wsX2_van := goodIn_ca (goodIn_r _ [415, 63, 41, 45, 358, 359, 360, 5, 361, 345, 67, 68, 69, 246, 247, 248, 446, 447, 448, 449, 450, 451, 452, 453, 454, 455, 456, 457, 458, 459, 460, 461, 462] (by decide +kernel) (by decide +kernel)) (goodIn_sub (fun _ h => List.mem_append_right _ h) (by decide +kernel))
set_option maxRecDepth 20000 in
theorem gL_law_X2_van : GoodIn wsL_law (wsV RL 129 RX2 yX2_van wsX2_van) := goodIn_app (goodIn_of _ (by decide +kernel)) ggL_law_X2_van
set_option maxRecDepth 20000 in
theorem ggL_law_X1_count : GoodIn wsL_law wsX1_count := goodIn_ca (goodIn_r _ [419, 51, 329, 22, 420, 421, 422, 2, 423, 15, 18, 52, 53, 54, 437, 438, 439, 440, 441, 442, 443, 444, 445] (by decide +kernel) (by decide +kernel)) (goodIn_sub (fun _ h => List.mem_append_right _ h) (by decide +kernel))
set_option maxRecDepth 20000 in
theorem gL_law_X1_count : GoodIn wsL_law (wsV RL 130 RX1 yX1_count wsX1_count) := goodIn_app (goodIn_of _ (by decide +kernel)) ggL_law_X1_count
set_option maxRecDepth 20000 in
theorem ggL_law_X2_count : GoodIn wsL_law wsX2_count := goodIn_ca (goodIn_r _ [427, 63, 66, 27, 345, 64, 428, 46, 281, 282, 283, 5, 284, 31, 67, 68, 69, 446, 447, 448, 449, 450, 451, 452, 453, 454, 455, 456, 457, 458, 459, 460, 461, 462] (by decide +kernel) (by decide +kernel)) (goodIn_sub (fun _ h => List.mem_append_right _ h) (by decide +kernel))
set_option maxRecDepth 20000 in
theorem gL_law_X2_count : GoodIn wsL_law (wsV RL 133 RX2 yX2_count wsX2_count) := goodIn_app (goodIn_of _ (by decide +kernel)) ggL_law_X2_count
set_option maxRecDepth 20000 in
theorem ggL_law_X1_clear : GoodIn wsL_law wsX1_clear := goodIn_ca (goodIn_r _ [432, 51, 329, 22, 437, 438, 439, 440, 441, 442, 443, 444, 445] (by decide +kernel) (by decide +kernel)) (goodIn_sub (fun _ h => List.mem_append_right _ h) (by decide +kernel))
set_option maxRecDepth 20000 in
theorem gL_law_X1_clear : GoodIn wsL_law (wsV RL 134 RX1 yX1_clear wsX1_clear) := goodIn_app (goodIn_of _ (by decide +kernel)) ggL_law_X1_clear
set_option maxRecDepth 20000 in
theorem ggL_law_X2_clear : GoodIn wsL_law wsX2_clear := goodIn_ca (goodIn_r _ [436, 63, 66, 345, 46, 446, 447, 448, 449, 450, 451, 452, 453, 454, 455, 456, 457, 458, 459, 460, 461, 462] (by decide +kernel) (by decide +kernel)) (goodIn_sub (fun _ h => List.mem_append_right _ h) (by decide +kernel))
set_option maxRecDepth 20000 in
theorem gL_law_X2_clear : GoodIn wsL_law (wsV RL 137 RX2 yX2_clear wsX2_clear) := goodIn_app (goodIn_of _ (by decide +kernel)) ggL_law_X2_clear

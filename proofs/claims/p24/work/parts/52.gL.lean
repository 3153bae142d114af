set_option maxRecDepth 20000 in
theorem ggL_act_X2_codes : GoodIn wsL_act wsX2_codes := goodIn_r _ [10, 11, 155, 156, 157] (by decide +kernel) (by decide +kernel)
set_option maxRecDepth 20000 in
theorem gL_act_X2_codes : GoodIn wsL_act (wsV RL 9 RX2 yX2_codes wsX2_codes) := goodIn_app (goodIn_of _ (by decide +kernel)) ggL_act_X2_codes
set_option maxRecDepth 20000 in
theorem ggL_act_L_below : GoodIn wsL_act wsL_below := goodIn_r _ [15, 16] (by decide +kernel) (by decide +kernel)
set_option maxRecDepth 20000 in
theorem gL_act_L_below : GoodIn wsL_act (va_wsS RL 15 yL_below wsL_below) := goodIn_app (goodIn_of _ (by decide +kernel)) ggL_act_L_below
set_option maxRecDepth 20000 in
theorem ggL_act_X1_setColours : GoodIn wsL_act wsX1_setColours := goodIn_ca (goodIn_r _ [21, 22, 23, 24, 25, 26, 27, 28, 29, 30, 31, 20, 32, 33, 34, 35, 36, 37, 38, 39, 40, 41, 42, 43, 44, 45, 46, 47, 48, 49, 50, 158, 159, 160, 161, 162, 163, 164, 165, 166, 167, 168, 169, 170, 171, 172] (by decide +kernel) (by decide +kernel)) (goodIn_sub (fun _ h => List.mem_cons_of_mem _ (List.mem_append_left _ (List.mem_append_left _ (List.mem_append_right _ h)))) (by decide +kernel))
set_option maxRecDepth 20000 in
theorem gL_act_X1_setColours : GoodIn wsL_act (wsV RL 34 RX1 yX1_setColours wsX1_setColours) := goodIn_app (goodIn_of _ (by decide +kernel)) ggL_act_X1_setColours
set_option maxRecDepth 20000 in
theorem ggL_act_X1_hide : GoodIn wsL_act wsX1_hide := goodIn_ca (goodIn_r _ [54, 27, 55, 56, 57, 20, 58, 59, 60, 24, 34, 35, 36, 37, 38, 158, 159, 160, 161, 162, 163, 164, 165, 166, 167, 168, 169, 170, 171, 172] (by decide +kernel) (by decide +kernel)) (goodIn_sub (fun _ h => List.mem_cons_of_mem _ (List.mem_append_left _ (List.mem_append_right _ h))) (by decide +kernel))
set_option maxRecDepth 20000 in
theorem gL_act_X1_hide : GoodIn wsL_act (wsV RL 40 RX1 yX1_hide wsX1_hide) := goodIn_app (goodIn_of _ (by decide +kernel)) ggL_act_X1_hide
set_option maxRecDepth 20000 in
theorem ggL_act_X2_candles : GoodIn wsL_act wsX2_candles := goodIn_r _ [64, 65, 11, 155, 156, 157] (by decide +kernel) (by decide +kernel)
set_option maxRecDepth 20000 in
theorem gL_act_X2_candles : GoodIn wsL_act (wsV RL 43 RX2 yX2_candles wsX2_candles) := goodIn_app (goodIn_of _ (by decide +kernel)) ggL_act_X2_candles
set_option maxRecDepth 20000 in
theorem ggL_act_X2_number : GoodIn wsL_act wsX2_number := goodIn_r _ [69, 11, 155, 156, 157] (by decide +kernel) (by decide +kernel)
set_option maxRecDepth 20000 in
theorem gL_act_X2_number : GoodIn wsL_act (wsV RL 47 RX2 yX2_number wsX2_number) := goodIn_app (goodIn_of _ (by decide +kernel)) ggL_act_X2_number
set_option maxRecDepth 20000 in
theorem ggL_act_X1_swap : GoodIn wsL_act wsX1_swap := goodIn_ca (goodIn_ca (goodIn_r _ [73, 24, 27, 74, 75, 20, 76, 59, 60, 77, 78, 79, 80, 81, 82, 83, 35, 84, 85, 86, 50, 34, 36, 37, 38, 158, 159, 160, 161, 162, 163, 164, 165, 166, 167, 168, 169, 170, 171, 172] (by decide +kernel) (by decide +kernel)) (goodIn_sub (fun _ h => List.mem_cons_of_mem _ (List.mem_append_left _ (List.mem_append_right _ h))) (by decide +kernel))) (goodIn_sub (fun _ h => List.mem_cons_of_mem _ (List.mem_append_right _ h)) (by decide +kernel))
set_option maxRecDepth 20000 in
theorem gL_act_X1_swap : GoodIn wsL_act (wsV RL 51 RX1 yX1_swap wsX1_swap) := goodIn_app (goodIn_of _ (by decide +kernel)) ggL_act_X1_swap
set_option maxRecDepth 20000 in
theorem ggL_act_X2_pins : GoodIn wsL_act wsX2_pins := goodIn_r _ [90, 91, 62, 63, 9, 64, 65, 11, 155, 156, 157] (by decide +kernel) (by decide +kernel)
set_option maxRecDepth 20000 in
theorem gL_act_X2_pins : GoodIn wsL_act (wsV RL 56 RX2 yX2_pins wsX2_pins) := goodIn_app (goodIn_of _ (by decide +kernel)) ggL_act_X2_pins
set_option maxRecDepth 20000 in
theorem ggL_act_L_add : GoodIn wsL_act wsL_add := goodIn_r _ [94, 2, 5, 65, 155, 156, 157] (by decide +kernel) (by decide +kernel)
set_option maxRecDepth 20000 in
theorem gL_act_L_add : GoodIn wsL_act (va_wsS RL 59 yL_add wsL_add) := goodIn_app (goodIn_of _ (by decide +kernel)) ggL_act_L_add
set_option maxRecDepth 20000 in
theorem ggL_act_X1_guess : GoodIn wsL_act wsX1_guess := goodIn_ca (goodIn_ca (goodIn_r _ [98, 24, 27, 55, 56, 57, 20, 58, 59, 60, 34, 35, 36, 37, 38, 77, 78, 79, 80, 81, 82, 46, 47, 48, 49, 50, 99, 100, 101, 102, 28, 44, 45, 43, 29, 30, 31, 32, 33, 39, 40, 41, 42, 158, 159, 160, 161, 162, 163, 164, 165, 166, 167, 168, 169, 170, 171, 172] (by decide +kernel) (by decide +kernel)) (goodIn_sub (fun _ h => List.mem_cons_of_mem _ (List.mem_append_left _ (List.mem_append_right _ h))) (by decide +kernel))) (goodIn_sub (fun _ h => List.mem_cons_of_mem _ (List.mem_append_right _ h)) (by decide +kernel))
set_option maxRecDepth 20000 in
theorem gL_act_X1_guess : GoodIn wsL_act (wsV RL 63 RX1 yX1_guess wsX1_guess) := goodIn_app (goodIn_of _ (by decide +kernel)) ggL_act_X1_guess
set_option maxRecDepth 20000 in
theorem ggL_act_X1_tell : GoodIn wsL_act wsX1_tell := goodIn_ca (goodIn_ca (goodIn_ca (goodIn_r _ [106, 33, 55, 56, 57, 20, 58, 59, 60, 24, 34, 35, 36, 37, 38, 107, 108, 109, 22, 23, 99, 100, 101, 102, 81, 82, 28, 44, 45, 43, 29, 30, 31, 32, 39, 40, 41, 42, 46, 47, 48, 49, 50, 110, 111, 112, 158, 159, 160, 161, 162, 163, 164, 165, 166, 167, 168, 169, 170, 171, 172] (by decide +kernel) (by decide +kernel)) (goodIn_sub (fun _ h => List.mem_cons_of_mem _ (List.mem_append_left _ (List.mem_append_right _ h))) (by decide +kernel))) (goodIn_sub (fun _ h => List.mem_cons_of_mem _ (List.mem_append_left _ (List.mem_append_left _ (List.mem_append_right _ h)))) (by decide +kernel))) (goodIn_sub (fun _ h => List.mem_cons_of_mem _ (List.mem_append_right _ h)) (by decide +kernel))
set_option maxRecDepth 20000 in
theorem gL_act_X1_tell : GoodIn wsL_act (wsV RL 66 RX1 yX1_tell wsX1_tell) := goodIn_app (goodIn_of _ (by decide +kernel)) ggL_act_X1_tell
set_option maxRecDepth 20000 in
theorem ggL_act_X2_possible : GoodIn wsL_act wsX2_possible := goodIn_r _ [116, 117, 118, 119, 7, 8, 9, 10, 11, 120, 88, 89, 90, 91, 62, 63, 64, 65, 155, 156, 157] (by decide +kernel) (by decide +kernel)
set_option maxRecDepth 20000 in
theorem gL_act_X2_possible : GoodIn wsL_act (wsV RL 70 RX2 yX2_possible wsX2_possible) := goodIn_app (goodIn_of _ (by decide +kernel)) ggL_act_X2_possible
set_option maxRecDepth 20000 in
theorem ggL_act_X2_many : GoodIn wsL_act wsX2_many := goodIn_r _ [123] (by decide +kernel) (by decide +kernel)
set_option maxRecDepth 20000 in
theorem gL_act_X2_many : GoodIn wsL_act (va_wsS RL 74 yX2_many wsX2_many) := goodIn_app (goodIn_of _ (by decide +kernel)) ggL_act_X2_many
set_option maxRecDepth 20000 in
theorem ggL_act_X1_count : GoodIn wsL_act wsX1_count := goodIn_ca (goodIn_r _ [127, 59, 60, 24, 28, 33, 27, 110, 111, 20, 112, 128, 129, 130, 131, 45, 132, 133, 134, 135, 43, 158, 159, 160, 161, 162, 163, 164, 165, 166, 167, 168, 169, 170, 171, 172] (by decide +kernel) (by decide +kernel)) (goodIn_sub (fun _ h => List.mem_cons_of_mem _ (List.mem_append_left _ (List.mem_append_right _ h))) (by decide +kernel))
set_option maxRecDepth 20000 in
theorem gL_act_X1_count : GoodIn wsL_act (wsV RL 78 RX1 yX1_count wsX1_count) := goodIn_app (goodIn_of _ (by decide +kernel)) ggL_act_X1_count
set_option maxRecDepth 20000 in
theorem ggL_act_X1_possible : GoodIn wsL_act wsX1_possible := goodIn_ca (goodIn_r _ [139, 59, 60, 33, 140, 141, 20, 142, 158, 159, 160, 161, 162, 163, 164, 165, 166, 167, 168] (by decide +kernel) (by decide +kernel)) (goodIn_sub (fun _ h => List.mem_cons_of_mem _ (List.mem_append_left _ (List.mem_append_right _ h))) (by decide +kernel))
set_option maxRecDepth 20000 in
theorem gL_act_X1_possible : GoodIn wsL_act (wsV RL 81 RX1 yX1_possible wsX1_possible) := goodIn_app (goodIn_of _ (by decide +kernel)) ggL_act_X1_possible
set_option maxRecDepth 20000 in
theorem ggL_act_X1_doubt : GoodIn wsL_act wsX1_doubt := goodIn_ca (goodIn_r _ [146, 59, 60, 43, 147, 148, 149, 20, 150, 28, 29, 30, 31, 32, 33, 24, 34, 35, 36, 37, 38, 39, 40, 41, 42, 44, 45, 46, 47, 48, 49, 50, 158, 159, 160, 161, 162, 163, 164, 165, 166, 167, 168, 169, 170, 171, 172] (by decide +kernel) (by decide +kernel)) (goodIn_sub (fun _ h => List.mem_cons_of_mem _ (List.mem_append_left _ (List.mem_append_right _ h))) (by decide +kernel))
set_option maxRecDepth 20000 in
theorem gL_act_X1_doubt : GoodIn wsL_act (wsV RL 83 RX1 yX1_doubt wsX1_doubt) := goodIn_app (goodIn_of _ (by decide +kernel)) ggL_act_X1_doubt
set_option maxRecDepth 20000 in
theorem ggL_act_X1_forget : GoodIn wsL_act wsX1_forget := goodIn_ca (goodIn_r _ [154, 81, 82, 28, 44, 147, 148, 149, 20, 150, 29, 30, 31, 32, 33, 24, 34, 35, 36, 37, 38, 39, 40, 41, 42, 43, 45, 46, 47, 48, 49, 50, 158, 159, 160, 161, 162, 163, 164, 165, 166, 167, 168, 169, 170, 171, 172] (by decide +kernel) (by decide +kernel)) (goodIn_sub (fun _ h => List.mem_cons_of_mem _ (List.mem_append_right _ h)) (by decide +kernel))
set_option maxRecDepth 20000 in
theorem gL_act_X1_forget : GoodIn wsL_act (wsV RL 87 RX1 yX1_forget wsX1_forget) := goodIn_app (goodIn_of _ (by decide +kernel)) ggL_act_X1_forget
set_option maxRecDepth 20000 in
theorem ggL_build_X2_init : GoodIn wsL_build wsX2_init := goodIn_r _ [5, 6, 7, 8, 9, 10, 11, 12, 171, 172, 173] (by decide +kernel) (by decide +kernel)
set_option maxRecDepth 20000 in
theorem gL_build_X2_init_n90 : GoodIn wsL_build (wsX2_init) := ggL_build_X2_init
set_option maxRecDepth 20000 in
theorem ggL_build_L_cell : GoodIn wsL_build wsL_cell := goodIn_r _ [16, 17] (by decide +kernel) (by decide +kernel)
set_option maxRecDepth 20000 in
theorem gL_build_L_cell : GoodIn wsL_build (va_wsS RL 91 yL_cell wsL_cell) := goodIn_app (goodIn_of _ (by decide +kernel)) ggL_build_L_cell
set_option maxRecDepth 20000 in
theorem gL_build_L_act : GoodIn wsL_build (va_wsS RL 95 yL_act wsL_act) := goodIn_app (goodIn_of _ (by decide +kernel)) ggL_build_L_act
set_option maxRecDepth 20000 in
theorem ggL_law_X1_init : GoodIn wsL_law wsX1_init := goodIn_r _ [7, 8, 9, 10, 11, 12, 13, 14, 15, 16, 17, 18, 4, 19, 20, 21, 22, 23, 24, 25, 26, 27, 28, 29, 30, 31, 32, 33, 34, 35, 36, 37, 38, 39, 40, 41, 42, 43, 44, 45, 46, 47, 48, 49, 50, 51, 52, 53, 54, 55, 56, 57, 58, 2, 59, 60, 61, 62, 63, 64, 65, 66, 67, 68, 69, 70, 331, 332, 333, 334, 320, 321, 322, 323, 324, 325, 326, 327, 328, 329, 330] (by decide +kernel) (by decide +kernel)
set_option maxRecDepth 20000 in
theorem gL_law_X1_init : GoodIn wsL_law (wsX1_init) := ggL_law_X1_init
set_option maxRecDepth 20000 in
theorem gL_law_L_build : GoodIn wsL_law (va_wsS RL 100 yL_build wsL_build) := goodIn_app (goodIn_of _ (by decide +kernel)) ggL_law_L_build
set_option maxRecDepth 20000 in
theorem ggL_law_L_cell : GoodIn wsL_law wsL_cell := goodIn_r _ [87, 88] (by decide +kernel) (by decide +kernel)
set_option maxRecDepth 20000 in
theorem gL_law_L_cell : GoodIn wsL_law (va_wsS RL 91 yL_cell wsL_cell) := goodIn_app (goodIn_of _ (by decide +kernel)) ggL_law_L_cell
set_option maxRecDepth 20000 in
theorem gL_law_L_act : GoodIn wsL_law (va_wsS RL 95 yL_act wsL_act) := goodIn_app (goodIn_of _ (by decide +kernel)) ggL_law_L_act
set_option maxRecDepth 20000 in
theorem ggL_law_X1_count : GoodIn wsL_law wsX1_count := goodIn_ca (goodIn_r _ [183, 119, 120, 16, 18, 23, 17, 168, 169, 2, 170, 184, 185, 186, 187, 20, 188, 189, 190, 191, 22, 320, 321, 322, 323, 324, 325, 326, 327, 328, 329, 330, 331, 332, 333, 334] (by decide +kernel) (by decide +kernel)) (goodIn_sub (fun _ h => List.mem_append_left _ (List.mem_append_right _ h)) (by decide +kernel))
set_option maxRecDepth 20000 in
theorem gL_law_X1_count : GoodIn wsL_law (wsV RL 78 RX1 yX1_count wsX1_count) := goodIn_app (goodIn_of _ (by decide +kernel)) ggL_law_X1_count
set_option maxRecDepth 20000 in
theorem ggL_law_X1_digest : GoodIn wsL_law wsX1_digest := goodIn_ca (goodIn_r _ [214, 215, 17, 18, 16, 23, 216, 181, 182, 2, 183, 119, 120, 168, 169, 170, 184, 185, 186, 187, 20, 188, 189, 190, 191, 22, 217, 218, 219, 220, 221, 222, 223, 224, 19, 203, 204, 205, 206, 225, 226, 227, 228, 63, 64, 65, 66, 67, 13, 68, 69, 33, 70, 60, 61, 62, 30, 229, 230, 231, 232, 233, 234, 235, 236, 133, 134, 135, 196, 197, 198, 142, 143, 144, 32, 237, 238, 239, 240, 241, 242, 243, 244, 320, 321, 322, 323, 324, 325, 326, 327, 328, 329, 330, 331, 332, 333, 334] (by decide +kernel) (by decide +kernel)) (goodIn_sub (fun _ h => List.mem_append_left _ (List.mem_append_right _ h)) (by decide +kernel))
set_option maxRecDepth 20000 in
theorem gL_law_X1_digest : GoodIn wsL_law (wsV RL 104 RX1 yX1_digest wsX1_digest) := goodIn_app (goodIn_of _ (by decide +kernel)) ggL_law_X1_digest
set_option maxRecDepth 20000 in
theorem ggL_law_X1_told : GoodIn wsL_law wsX1_told := goodIn_ca (goodIn_r _ [224, 119, 120, 19, 20, 22, 203, 204, 205, 2, 206, 18, 225, 226, 227, 228, 16, 63, 64, 65, 66, 67, 13, 68, 69, 33, 70, 60, 61, 62, 30, 229, 230, 231, 232, 320, 321, 322, 323, 324, 325, 326, 327, 328, 329, 330, 331, 332, 333, 334] (by decide +kernel) (by decide +kernel)) (goodIn_sub (fun _ h => List.mem_append_left _ (List.mem_append_right _ h)) (by decide +kernel))
set_option maxRecDepth 20000 in
theorem gL_law_X1_told : GoodIn wsL_law (wsV RL 109 RX1 yX1_told wsX1_told) := goodIn_app (goodIn_of _ (by decide +kernel)) ggL_law_X1_told
set_option maxRecDepth 20000 in
theorem ggL_law_X1_pins : GoodIn wsL_law wsX1_pins := goodIn_ca (goodIn_r _ [249, 16, 115, 116, 117, 2, 118, 119, 120, 60, 13, 61, 62, 30, 67, 68, 69, 33, 70, 320, 321, 322, 323, 324, 325, 326, 327, 328, 329, 330, 331, 332, 333, 334] (by decide +kernel) (by decide +kernel)) (goodIn_sub (fun _ h => List.mem_append_left _ (List.mem_append_right _ h)) (by decide +kernel))
set_option maxRecDepth 20000 in
theorem gL_law_X1_pins : GoodIn wsL_law (wsV RL 112 RX1 yX1_pins wsX1_pins) := goodIn_app (goodIn_of _ (by decide +kernel)) ggL_law_X1_pins
set_option maxRecDepth 20000 in
theorem ggL_law_X1_isPossible : GoodIn wsL_law wsX1_isPossible := goodIn_ca (goodIn_r _ [253, 23, 115, 116, 117, 2, 118, 119, 120, 16, 60, 13, 61, 62, 30, 254, 255, 256, 320, 321, 322, 323, 324, 325, 326, 327, 328, 329, 330, 331, 332, 333, 334] (by decide +kernel) (by decide +kernel)) (goodIn_sub (fun _ h => List.mem_append_left _ (List.mem_append_right _ h)) (by decide +kernel))
set_option maxRecDepth 20000 in
theorem gL_law_X1_isPossible : GoodIn wsL_law (wsV RL 113 RX1 yX1_isPossible wsX1_isPossible) := goodIn_app (goodIn_of _ (by decide +kernel)) ggL_law_X1_isPossible
set_option maxRecDepth 20000 in
theorem ggL_law_X1_possible : GoodIn wsL_law wsX1_possible := goodIn_ca (goodIn_r _ [195, 119, 120, 23, 196, 197, 2, 198, 320, 321, 322, 323, 324, 325, 326, 327, 328, 329, 330] (by decide +kernel) (by decide +kernel)) (goodIn_sub (fun _ h => List.mem_append_left _ (List.mem_append_right _ h)) (by decide +kernel))
set_option maxRecDepth 20000 in
theorem gL_law_X1_possible : GoodIn wsL_law (wsV RL 81 RX1 yX1_possible wsX1_possible) := goodIn_app (goodIn_of _ (by decide +kernel)) ggL_law_X1_possible
set_option maxRecDepth 20000 in
theorem ggL_law_X1_colour : GoodIn wsL_law wsX1_colour := goodIn_ca (goodIn_r _ [260, 16, 115, 116, 117, 2, 118, 119, 120, 60, 13, 61, 62, 30, 133, 134, 135, 142, 143, 144, 32, 70, 320, 321, 322, 323, 324, 325, 326, 327, 328, 329, 330, 331, 332, 333, 334] (by decide +kernel) (by decide +kernel)) (goodIn_sub (fun _ h => List.mem_append_left _ (List.mem_append_right _ h)) (by decide +kernel))
set_option maxRecDepth 20000 in
theorem gL_law_X1_colour : GoodIn wsL_law (wsV RL 117 RX1 yX1_colour wsX1_colour) := goodIn_app (goodIn_of _ (by decide +kernel)) ggL_law_X1_colour
set_option maxRecDepth 20000 in
theorem ggL_law_X1_have : GoodIn wsL_law wsX1_have := goodIn_ca (goodIn_r _ [244, 119, 120, 16, 133, 134, 2, 135, 237, 238, 239, 240, 23, 142, 13, 143, 144, 32, 70, 60, 61, 62, 30, 320, 321, 322, 323, 324, 325, 326, 327, 328, 329, 330, 331, 332, 333, 334] (by decide +kernel) (by decide +kernel)) (goodIn_sub (fun _ h => List.mem_append_left _ (List.mem_append_right _ h)) (by decide +kernel))
set_option maxRecDepth 20000 in
theorem gL_law_X1_have : GoodIn wsL_law (wsV RL 120 RX1 yX1_have wsX1_have) := goodIn_app (goodIn_of _ (by decide +kernel)) ggL_law_X1_have
set_option maxRecDepth 20000 in
theorem ggL_law_X1_sure : GoodIn wsL_law wsX1_sure := goodIn_ca (goodIn_r _ [236, 23, 16, 133, 134, 2, 135, 119, 120, 196, 197, 198, 142, 13, 143, 144, 32, 70, 60, 61, 62, 30, 237, 238, 239, 240, 168, 169, 170, 320, 321, 322, 323, 324, 325, 326, 327, 328, 329, 330, 331, 332, 333, 334] (by decide +kernel) (by decide +kernel)) (goodIn_sub (fun _ h => List.mem_append_left _ (List.mem_append_right _ h)) (by decide +kernel))
set_option maxRecDepth 20000 in
theorem gL_law_X1_sure : GoodIn wsL_law (wsV RL 123 RX1 yX1_sure wsX1_sure) := goodIn_app (goodIn_of _ (by decide +kernel)) ggL_law_X1_sure
set_option maxRecDepth 20000 in
theorem ggL_law_X1_mean : GoodIn wsL_law wsX1_mean := goodIn_r _ [266, 18, 20, 320, 321, 322, 323, 324, 325, 326, 327, 328, 329, 330] (by decide +kernel) (by decide +kernel)
set_option maxRecDepth 20000 in
theorem gL_law_X1_mean : GoodIn wsL_law (wsV RL 126 RX1 yX1_mean wsX1_mean) := goodIn_app (goodIn_of _ (by decide +kernel)) ggL_law_X1_mean
set_option maxRecDepth 20000 in
theorem ggL_law_X1_best : GoodIn wsL_law wsX1_best := goodIn_r _ [270, 23, 271, 272, 273, 2, 274, 16, 168, 169, 170, 254, 255, 256, 275, 276, 277, 278, 25, 279, 280, 54, 281, 282, 283, 284, 285, 286, 287, 288, 289, 67, 13, 68, 69, 33, 70, 60, 61, 62, 30, 320, 321, 322, 323, 324, 325, 326, 327, 328, 329, 330, 331, 332, 333, 334] (by decide +kernel) (by decide +kernel)
set_option maxRecDepth 20000 in
theorem gL_law_X1_best : GoodIn wsL_law (wsV RL 130 RX1 yX1_best wsX1_best) := goodIn_app (goodIn_of _ (by decide +kernel)) ggL_law_X1_best
set_option maxRecDepth 20000 in
theorem ggL_law_X1_worst : GoodIn wsL_law wsX1_worst := goodIn_ca (goodIn_r _ [293, 23, 115, 116, 117, 2, 118, 119, 120, 16, 60, 13, 61, 62, 30, 275, 276, 277, 278, 25, 279, 280, 54, 281, 282, 283, 284, 285, 286, 287, 288, 289, 67, 68, 69, 33, 70, 320, 321, 322, 323, 324, 325, 326, 327, 328, 329, 330, 331, 332, 333, 334] (by decide +kernel) (by decide +kernel)) (goodIn_sub (fun _ h => List.mem_append_left _ (List.mem_append_right _ h)) (by decide +kernel))
set_option maxRecDepth 20000 in
theorem gL_law_X1_worst : GoodIn wsL_law (wsV RL 133 RX1 yX1_worst wsX1_worst) := goodIn_app (goodIn_of _ (by decide +kernel)) ggL_law_X1_worst
set_option maxRecDepth 20000 in
theorem ggL_law_L_below : GoodIn wsL_law wsL_below := goodIn_r _ [103, 104] (by decide +kernel) (by decide +kernel)
set_option maxRecDepth 20000 in
theorem gL_law_L_below : GoodIn wsL_law (va_wsS RL 15 yL_below wsL_below) := goodIn_app (goodIn_of _ (by decide +kernel)) ggL_law_L_below
set_option maxRecDepth 20000 in
theorem ggL_law_X1_parts : GoodIn wsL_law wsX1_parts := goodIn_ca (goodIn_r _ [297, 23, 25, 115, 116, 117, 2, 118, 119, 120, 16, 60, 13, 61, 62, 30, 282, 283, 284, 285, 286, 287, 288, 289, 67, 68, 69, 33, 70, 320, 321, 322, 323, 324, 325, 326, 327, 328, 329, 330, 331, 332, 333, 334] (by decide +kernel) (by decide +kernel)) (goodIn_sub (fun _ h => List.mem_append_left _ (List.mem_append_right _ h)) (by decide +kernel))
set_option maxRecDepth 20000 in
theorem gL_law_X1_parts : GoodIn wsL_law (wsV RL 136 RX1 yX1_parts wsX1_parts) := goodIn_app (goodIn_of _ (by decide +kernel)) ggL_law_X1_parts
set_option maxRecDepth 20000 in
theorem ggL_law_X1_takes : GoodIn wsL_law wsX1_takes := goodIn_ca (goodIn_r _ [301, 24, 16, 115, 116, 117, 2, 118, 119, 120, 60, 13, 61, 62, 30, 67, 68, 69, 33, 70, 302, 303, 304, 305, 271, 272, 273, 274, 168, 169, 170, 254, 255, 256, 275, 276, 277, 278, 25, 279, 280, 54, 281, 282, 283, 284, 285, 286, 287, 288, 289, 320, 321, 322, 323, 324, 325, 326, 327, 328, 329, 330, 331, 332, 333, 334] (by decide +kernel) (by decide +kernel)) (goodIn_sub (fun _ h => List.mem_append_left _ (List.mem_append_right _ h)) (by decide +kernel))
set_option maxRecDepth 20000 in
theorem gL_law_X1_takes : GoodIn wsL_law (wsV RL 139 RX1 yX1_takes wsX1_takes) := goodIn_app (goodIn_of _ (by decide +kernel)) ggL_law_X1_takes
set_option maxRecDepth 20000 in
theorem ggL_law_X1_tell : GoodIn wsL_law wsX1_tell := goodIn_ca (goodIn_ca (goodIn_ca (goodIn_r _ [164, 23, 115, 116, 117, 2, 118, 119, 120, 16, 60, 13, 61, 62, 30, 165, 166, 167, 109, 110, 157, 158, 159, 160, 140, 141, 18, 19, 20, 22, 56, 57, 58, 59, 63, 64, 65, 66, 67, 68, 69, 33, 70, 168, 169, 170, 320, 321, 322, 323, 324, 325, 326, 327, 328, 329, 330, 331, 332, 333, 334] (by decide +kernel) (by decide +kernel)) (goodIn_sub (fun _ h => List.mem_append_left _ (List.mem_append_right _ h)) (by decide +kernel))) (goodIn_sub (fun _ h => List.mem_append_left _ (List.mem_append_left _ (List.mem_append_right _ h))) (by decide +kernel))) (goodIn_sub (fun _ h => List.mem_append_right _ h) (by decide +kernel))
set_option maxRecDepth 20000 in
theorem gL_law_X1_tell : GoodIn wsL_law (wsV RL 66 RX1 yX1_tell wsX1_tell) := goodIn_app (goodIn_of _ (by decide +kernel)) ggL_law_X1_tell
set_option maxRecDepth 20000 in
theorem ggL_law_X1_doubt : GoodIn wsL_law wsX1_doubt := goodIn_ca (goodIn_r _ [202, 119, 120, 22, 203, 204, 205, 2, 206, 18, 56, 57, 58, 59, 23, 16, 60, 13, 61, 62, 30, 63, 64, 65, 66, 19, 20, 67, 68, 69, 33, 70, 320, 321, 322, 323, 324, 325, 326, 327, 328, 329, 330, 331, 332, 333, 334] (by decide +kernel) (by decide +kernel)) (goodIn_sub (fun _ h => List.mem_append_left _ (List.mem_append_right _ h)) (by decide +kernel))
set_option maxRecDepth 20000 in
theorem gL_law_X1_doubt : GoodIn wsL_law (wsV RL 83 RX1 yX1_doubt wsX1_doubt) := goodIn_app (goodIn_of _ (by decide +kernel)) ggL_law_X1_doubt
set_option maxRecDepth 20000 in
theorem ggL_law_X1_forget : GoodIn wsL_law wsX1_forget := goodIn_ca (goodIn_r _ [210, 140, 141, 18, 19, 203, 204, 205, 2, 206, 56, 57, 58, 59, 23, 16, 60, 13, 61, 62, 30, 63, 64, 65, 66, 22, 20, 67, 68, 69, 33, 70, 320, 321, 322, 323, 324, 325, 326, 327, 328, 329, 330, 331, 332, 333, 334] (by decide +kernel) (by decide +kernel)) (goodIn_sub (fun _ h => List.mem_append_right _ h) (by decide +kernel))
set_option maxRecDepth 20000 in
theorem gL_law_X1_forget : GoodIn wsL_law (wsV RL 87 RX1 yX1_forget wsX1_forget) := goodIn_app (goodIn_of _ (by decide +kernel)) ggL_law_X1_forget
set_option maxRecDepth 20000 in
theorem gL_law_X2_isSame : GoodIn wsL_law (wsV RL 142 RX2 yX2_isSame wsX2_isSame) := goodIn_app (goodIn_of _ (by decide +kernel)) ggL_law_X2_isSame

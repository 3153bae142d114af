set_option maxRecDepth 20000 in
theorem ggL_setColours_X1_setColours : GoodIn wsL_setColours wsX1_setColours := goodIn_ca (goodIn_r _ [6, 7, 8, 9, 10, 11, 12, 13, 14, 15, 16, 5, 17, 18, 19, 20, 21, 22, 23, 24, 25, 26, 27, 28, 29, 30, 31, 32, 33, 34, 35, 36, 37, 38, 39, 40, 41, 42, 43, 44, 45, 46, 47, 48, 49, 50] (by decide +kernel) (by decide +kernel)) (goodIn_sub (fun _ h => List.mem_cons_of_mem _ (List.mem_append_right _ h)) (by decide +kernel))
set_option maxRecDepth 20000 in
theorem gL_setColours_X1_setColours : GoodIn wsL_setColours (wsV RL 7 RX1 yX1_setColours wsX1_setColours) := goodIn_app (goodIn_of _ (by decide +kernel)) ggL_setColours_X1_setColours
set_option maxRecDepth 20000 in
theorem ggL_hide_X1_hide : GoodIn wsL_hide wsX1_hide := goodIn_ca (goodIn_r _ [6, 7, 8, 9, 10, 5, 11, 12, 13, 14, 15, 16, 17, 18, 19, 20, 21, 22, 23, 24, 25, 26, 27, 28, 29, 30, 31, 32, 33, 34] (by decide +kernel) (by decide +kernel)) (goodIn_sub (fun _ h => List.mem_cons_of_mem _ (List.mem_append_right _ h)) (by decide +kernel))
set_option maxRecDepth 20000 in
theorem gL_hide_X1_hide : GoodIn wsL_hide (wsV RL 15 RX1 yX1_hide wsX1_hide) := goodIn_app (goodIn_of _ (by decide +kernel)) ggL_hide_X1_hide
set_option maxRecDepth 20000 in
theorem ggL_swap_X1_swap : GoodIn wsL_swap wsX1_swap := goodIn_ca (goodIn_ca (goodIn_r _ [7, 8, 9, 10, 11, 6, 12, 13, 14, 15, 16, 17, 18, 19, 20, 21, 22, 23, 24, 25, 26, 27, 28, 29, 30, 31, 32, 33, 34, 35, 36, 37, 38, 39, 40, 41, 42, 43, 44, 45] (by decide +kernel) (by decide +kernel)) (goodIn_sub (fun _ h => List.mem_cons_of_mem _ (List.mem_append_left _ (List.mem_append_right _ h))) (by decide +kernel))) (goodIn_sub (fun _ h => List.mem_cons_of_mem _ (List.mem_append_right _ h)) (by decide +kernel))
set_option maxRecDepth 20000 in
theorem gL_swap_X1_swap : GoodIn wsL_swap (wsV RL 20 RX1 yX1_swap wsX1_swap) := goodIn_app (goodIn_of _ (by decide +kernel)) ggL_swap_X1_swap
set_option maxRecDepth 20000 in
theorem ggL_guess_X1_guess : GoodIn wsL_guess wsX1_guess := goodIn_ca (goodIn_ca (goodIn_r _ [7, 8, 9, 10, 11, 12, 6, 13, 14, 15, 16, 17, 18, 19, 20, 21, 22, 23, 24, 25, 26, 27, 28, 29, 30, 31, 32, 33, 34, 35, 36, 37, 38, 39, 40, 41, 42, 43, 44, 45, 46, 47, 48, 49, 50, 51, 52, 53, 54, 55, 56, 57, 58, 59, 60, 61, 62, 63] (by decide +kernel) (by decide +kernel)) (goodIn_sub (fun _ h => List.mem_cons_of_mem _ (List.mem_append_left _ (List.mem_append_right _ h))) (by decide +kernel))) (goodIn_sub (fun _ h => List.mem_cons_of_mem _ (List.mem_append_right _ h)) (by decide +kernel))
set_option maxRecDepth 20000 in
theorem gL_guess_X1_guess : GoodIn wsL_guess (wsV RL 26 RX1 yX1_guess wsX1_guess) := goodIn_app (goodIn_of _ (by decide +kernel)) ggL_guess_X1_guess
set_option maxRecDepth 20000 in
theorem ggL_tell_X1_tell : GoodIn wsL_tell wsX1_tell := goodIn_ca (goodIn_ca (goodIn_ca (goodIn_r _ [8, 9, 10, 11, 12, 7, 13, 14, 15, 16, 17, 18, 19, 20, 21, 22, 23, 24, 25, 26, 27, 28, 29, 30, 31, 32, 33, 34, 35, 36, 37, 38, 39, 40, 41, 42, 43, 44, 45, 46, 47, 48, 49, 50, 51, 52, 53, 54, 55, 56, 57, 58, 59, 60, 61, 62, 63, 64, 65, 66, 67] (by decide +kernel) (by decide +kernel)) (goodIn_sub (fun _ h => List.mem_cons_of_mem _ (List.mem_append_left _ (List.mem_append_left _ (List.mem_append_right _ h)))) (by decide +kernel))) (goodIn_sub (fun _ h => List.mem_cons_of_mem _ (List.mem_append_left _ (List.mem_append_right _ h))) (by decide +kernel))) (goodIn_sub (fun _ h => List.mem_cons_of_mem _ (List.mem_append_right _ h)) (by decide +kernel))
set_option maxRecDepth 20000 in
theorem gL_tell_X1_tell : GoodIn wsL_tell (wsV RL 29 RX1 yX1_tell wsX1_tell) := goodIn_app (goodIn_of _ (by decide +kernel)) ggL_tell_X1_tell
set_option maxRecDepth 20000 in
theorem ggL_doubt_X1_doubt : GoodIn wsL_doubt wsX1_doubt := goodIn_ca (goodIn_r _ [6, 7, 8, 9, 10, 11, 12, 5, 13, 14, 15, 16, 17, 18, 19, 20, 21, 22, 23, 24, 25, 26, 27, 28, 29, 30, 31, 32, 33, 34, 35, 36, 37, 38, 39, 40, 41, 42, 43, 44, 45, 46, 47, 48, 49, 50, 51] (by decide +kernel) (by decide +kernel)) (goodIn_sub (fun _ h => List.mem_cons_of_mem _ (List.mem_append_right _ h)) (by decide +kernel))
set_option maxRecDepth 20000 in
theorem gL_doubt_X1_doubt : GoodIn wsL_doubt (wsV RL 33 RX1 yX1_doubt wsX1_doubt) := goodIn_app (goodIn_of _ (by decide +kernel)) ggL_doubt_X1_doubt
set_option maxRecDepth 20000 in
theorem ggL_forget_X1_forget : GoodIn wsL_forget wsX1_forget := goodIn_ca (goodIn_r _ [6, 7, 8, 9, 10, 11, 12, 13, 5, 14, 15, 16, 17, 18, 19, 20, 21, 22, 23, 24, 25, 26, 27, 28, 29, 30, 31, 32, 33, 34, 35, 36, 37, 38, 39, 40, 41, 42, 43, 44, 45, 46, 47, 48, 49, 50, 51] (by decide +kernel) (by decide +kernel)) (goodIn_sub (fun _ h => List.mem_cons_of_mem _ (List.mem_append_right _ h)) (by decide +kernel))
set_option maxRecDepth 20000 in
theorem gL_forget_X1_forget : GoodIn wsL_forget (wsV RL 37 RX1 yX1_forget wsX1_forget) := goodIn_app (goodIn_of _ (by decide +kernel)) ggL_forget_X1_forget
set_option maxRecDepth 20000 in
theorem ggL_colour_X1_colour : GoodIn wsL_colour wsX1_colour := goodIn_ca (goodIn_r _ [6, 7, 8, 9, 10, 5, 11, 12, 13, 14, 15, 16, 17, 18, 19, 20, 21, 22, 23, 24, 25, 26, 27, 28, 29, 30, 31, 32, 33, 34, 35, 36, 37, 38, 39, 40, 41] (by decide +kernel) (by decide +kernel)) (goodIn_sub (fun _ h => List.mem_cons_of_mem _ (List.mem_append_right _ h)) (by decide +kernel))
set_option maxRecDepth 20000 in
theorem gL_colour_X1_colour : GoodIn wsL_colour (wsV RL 41 RX1 yX1_colour wsX1_colour) := goodIn_app (goodIn_of _ (by decide +kernel)) ggL_colour_X1_colour
set_option maxRecDepth 20000 in
theorem ggL_pins_X1_pins : GoodIn wsL_pins wsX1_pins := goodIn_ca (goodIn_r _ [6, 7, 8, 9, 10, 5, 11, 12, 13, 14, 15, 16, 17, 18, 19, 20, 21, 22, 23, 24, 25, 26, 27, 28, 29, 30, 31, 32, 33, 34, 35, 36, 37, 38] (by decide +kernel) (by decide +kernel)) (goodIn_sub (fun _ h => List.mem_cons_of_mem _ (List.mem_append_right _ h)) (by decide +kernel))
set_option maxRecDepth 20000 in
theorem gL_pins_X1_pins : GoodIn wsL_pins (wsV RL 44 RX1 yX1_pins wsX1_pins) := goodIn_app (goodIn_of _ (by decide +kernel)) ggL_pins_X1_pins
set_option maxRecDepth 20000 in
theorem ggL_told_X1_told : GoodIn wsL_told wsX1_told := goodIn_ca (goodIn_r _ [6, 7, 8, 9, 10, 11, 12, 13, 14, 5, 15, 16, 17, 18, 19, 20, 21, 22, 23, 24, 25, 26, 27, 28, 29, 30, 31, 32, 33, 34, 35, 36, 37, 38, 39, 40, 41, 42, 43, 44, 45, 46, 47, 48, 49, 50, 51, 52, 53, 54] (by decide +kernel) (by decide +kernel)) (goodIn_sub (fun _ h => List.mem_cons_of_mem _ (List.mem_append_right _ h)) (by decide +kernel))
set_option maxRecDepth 20000 in
theorem gL_told_X1_told : GoodIn wsL_told (wsV RL 47 RX1 yX1_told wsX1_told) := goodIn_app (goodIn_of _ (by decide +kernel)) ggL_told_X1_told
set_option maxRecDepth 20000 in
theorem ggL_count_X1_count : GoodIn wsL_count wsX1_count := goodIn_ca (goodIn_r _ [6, 7, 8, 9, 10, 11, 12, 13, 14, 5, 15, 16, 17, 18, 19, 20, 21, 22, 23, 24, 25, 26, 27, 28, 29, 30, 31, 32, 33, 34, 35, 36, 37, 38, 39, 40] (by decide +kernel) (by decide +kernel)) (goodIn_sub (fun _ h => List.mem_cons_of_mem _ (List.mem_append_right _ h)) (by decide +kernel))
set_option maxRecDepth 20000 in
theorem gL_count_X1_count : GoodIn wsL_count (wsV RL 50 RX1 yX1_count wsX1_count) := goodIn_app (goodIn_of _ (by decide +kernel)) ggL_count_X1_count
set_option maxRecDepth 20000 in
theorem ggL_isPossible_X1_isPossible : GoodIn wsL_isPossible wsX1_isPossible := goodIn_ca (goodIn_r _ [6, 7, 8, 9, 10, 5, 11, 12, 13, 14, 15, 16, 17, 18, 19, 20, 21, 22, 23, 24, 25, 26, 27, 28, 29, 30, 31, 32, 33, 34, 35, 36, 37] (by decide +kernel) (by decide +kernel)) (goodIn_sub (fun _ h => List.mem_cons_of_mem _ (List.mem_append_right _ h)) (by decide +kernel))
set_option maxRecDepth 20000 in
theorem gL_isPossible_X1_isPossible : GoodIn wsL_isPossible (wsV RL 53 RX1 yX1_isPossible wsX1_isPossible) := goodIn_app (goodIn_of _ (by decide +kernel)) ggL_isPossible_X1_isPossible
set_option maxRecDepth 20000 in
theorem ggL_possible_X1_possible : GoodIn wsL_possible wsX1_possible := goodIn_ca (goodIn_r _ [6, 7, 8, 9, 10, 11, 5, 12, 13, 14, 15, 16, 17, 18, 19, 20, 21, 22, 23] (by decide +kernel) (by decide +kernel)) (goodIn_sub (fun _ h => List.mem_cons_of_mem _ (List.mem_append_right _ h)) (by decide +kernel))
set_option maxRecDepth 20000 in
theorem gL_possible_X1_possible : GoodIn wsL_possible (wsV RL 57 RX1 yX1_possible wsX1_possible) := goodIn_app (goodIn_of _ (by decide +kernel)) ggL_possible_X1_possible
set_option maxRecDepth 20000 in
theorem ggL_have_X1_have : GoodIn wsL_have wsX1_have := goodIn_ca (goodIn_r _ [6, 7, 8, 9, 10, 11, 5, 12, 13, 14, 15, 16, 17, 18, 19, 20, 21, 22, 23, 24, 25, 26, 27, 28, 29, 30, 31, 32, 33, 34, 35, 36, 37, 38, 39, 40, 41, 42] (by decide +kernel) (by decide +kernel)) (goodIn_sub (fun _ h => List.mem_cons_of_mem _ (List.mem_append_right _ h)) (by decide +kernel))
set_option maxRecDepth 20000 in
theorem gL_have_X1_have : GoodIn wsL_have (wsV RL 60 RX1 yX1_have wsX1_have) := goodIn_app (goodIn_of _ (by decide +kernel)) ggL_have_X1_have
set_option maxRecDepth 20000 in
theorem ggL_sure_X1_sure : GoodIn wsL_sure wsX1_sure := goodIn_ca (goodIn_r _ [6, 7, 8, 9, 10, 5, 11, 12, 13, 14, 15, 16, 17, 18, 19, 20, 21, 22, 23, 24, 25, 26, 27, 28, 29, 30, 31, 32, 33, 34, 35, 36, 37, 38, 39, 40, 41, 42, 43, 44, 45, 46, 47, 48] (by decide +kernel) (by decide +kernel)) (goodIn_sub (fun _ h => List.mem_cons_of_mem _ (List.mem_append_right _ h)) (by decide +kernel))
set_option maxRecDepth 20000 in
theorem gL_sure_X1_sure : GoodIn wsL_sure (wsV RL 63 RX1 yX1_sure wsX1_sure) := goodIn_app (goodIn_of _ (by decide +kernel)) ggL_sure_X1_sure
set_option maxRecDepth 20000 in
theorem ggL_worst_X1_worst : GoodIn wsL_worst wsX1_worst := goodIn_ca (goodIn_r _ [6, 7, 8, 9, 10, 5, 11, 12, 13, 14, 15, 16, 17, 18, 19, 20, 21, 22, 23, 24, 25, 26, 27, 28, 29, 30, 31, 32, 33, 34, 35, 36, 37, 38, 39, 40, 41, 42, 43, 44, 45, 46, 47, 48, 49, 50, 51, 52, 53, 54, 55, 56] (by decide +kernel) (by decide +kernel)) (goodIn_sub (fun _ h => List.mem_cons_of_mem _ (List.mem_append_right _ h)) (by decide +kernel))
set_option maxRecDepth 20000 in
theorem gL_worst_X1_worst : GoodIn wsL_worst (wsV RL 66 RX1 yX1_worst wsX1_worst) := goodIn_app (goodIn_of _ (by decide +kernel)) ggL_worst_X1_worst
set_option maxRecDepth 20000 in
theorem ggL_parts_X1_parts : GoodIn wsL_parts wsX1_parts := goodIn_ca (goodIn_r _ [6, 7, 8, 9, 10, 11, 5, 12, 13, 14, 15, 16, 17, 18, 19, 20, 21, 22, 23, 24, 25, 26, 27, 28, 29, 30, 31, 32, 33, 34, 35, 36, 37, 38, 39, 40, 41, 42, 43, 44, 45, 46, 47, 48] (by decide +kernel) (by decide +kernel)) (goodIn_sub (fun _ h => List.mem_cons_of_mem _ (List.mem_append_right _ h)) (by decide +kernel))
set_option maxRecDepth 20000 in
theorem gL_parts_X1_parts : GoodIn wsL_parts (wsV RL 69 RX1 yX1_parts wsX1_parts) := goodIn_app (goodIn_of _ (by decide +kernel)) ggL_parts_X1_parts
set_option maxRecDepth 20000 in
theorem ggL_takes_X1_takes : GoodIn wsL_takes wsX1_takes := goodIn_ca (goodIn_r _ [6, 7, 8, 9, 10, 11, 5, 12, 13, 14, 15, 16, 17, 18, 19, 20, 21, 22, 23, 24, 25, 26, 27, 28, 29, 30, 31, 32, 33, 34, 35, 36, 37, 38, 39, 40, 41, 42, 43, 44, 45, 46, 47, 48, 49, 50, 51, 52, 53, 54, 55, 56, 57, 58, 59, 60, 61, 62, 63, 64, 65, 66, 67, 68, 69, 70] (by decide +kernel) (by decide +kernel)) (goodIn_sub (fun _ h => List.mem_cons_of_mem _ (List.mem_append_right _ h)) (by decide +kernel))
set_option maxRecDepth 20000 in
theorem gL_takes_X1_takes : GoodIn wsL_takes (wsV RL 72 RX1 yX1_takes wsX1_takes) := goodIn_app (goodIn_of _ (by decide +kernel)) ggL_takes_X1_takes
set_option maxRecDepth 20000 in
theorem ggL_law_X1_init : GoodIn wsL_law wsX1_init := goodIn_r _ [9, 10, 11, 12, 13, 14, 15, 16, 17, 18, 19, 20, 21, 22, 23, 24, 25, 26, 27, 28, 29, 30, 31, 32, 33, 34, 35, 36, 37, 38, 39, 40, 41, 42, 43, 44, 45, 46, 47, 48, 49, 50, 51, 52, 53, 54, 55, 56, 57, 58, 59, 60, 61, 2, 62, 63, 64, 65, 66, 67, 68, 69, 70, 71, 72, 73, 529, 530, 531, 532, 506, 507, 508, 509, 510, 511, 512, 513, 514, 515, 516] (by decide +kernel) (by decide +kernel)
set_option maxRecDepth 20000 in
theorem gL_law_X1_init : GoodIn wsL_law (wsX1_init) := ggL_law_X1_init
set_option maxRecDepth 20000 in
theorem ggL_law_X2_init : GoodIn wsL_law wsX2_init := goodIn_r _ [76, 77, 11, 12, 78, 79, 21, 80, 81, 82, 83, 84, 85, 86, 517, 518, 519, 520, 521, 522, 523, 524, 525, 526, 527, 528] (by decide +kernel) (by decide +kernel)
set_option maxRecDepth 20000 in
theorem gL_law_X2_init : GoodIn wsL_law (wsX2_init) := ggL_law_X2_init
set_option maxRecDepth 20000 in
theorem ggL_law_L_setColours : GoodIn wsL_law wsL_setColours := goodIn_ca (goodIn_r _ [90, 91, 92, 93, 94, 2, 95, 96, 97, 18, 16, 17, 19, 20, 59, 60, 61, 62, 26, 63, 15, 64, 65, 33, 66, 67, 68, 69, 25, 22, 23, 70, 71, 72, 36, 73, 506, 507, 508, 509, 510, 511, 512, 513, 514, 515, 516, 529, 530, 531, 532] (by decide +kernel) (by decide +kernel)) (goodIn_sub (fun _ h => List.mem_append_left _ (List.mem_append_left _ (List.mem_append_right _ h))) (by decide +kernel))
set_option maxRecDepth 20000 in
theorem gL_law_L_setColours : GoodIn wsL_law (va_wsS RL 79 yL_setColours wsL_setColours) := goodIn_app (goodIn_of _ (by decide +kernel)) ggL_law_L_setColours
set_option maxRecDepth 20000 in
theorem ggL_law_X2_setColours : GoodIn wsL_law wsX2_setColours := goodIn_r _ [101, 102, 78, 79, 103, 104, 105, 5, 106, 107, 108, 109, 110, 517, 518, 519, 520, 521, 522, 523, 524, 525, 526, 527, 528] (by decide +kernel) (by decide +kernel)
set_option maxRecDepth 20000 in
theorem gL_law_X2_setColours : GoodIn wsL_law (wsV RL 84 RX2 yX2_setColours wsX2_setColours) := goodIn_app (goodIn_of _ (by decide +kernel)) ggL_law_X2_setColours
set_option maxRecDepth 20000 in
theorem ggL_law_X2_thrown : GoodIn wsL_law wsX2_thrown := goodIn_r _ [114, 102, 517, 518, 519, 520, 521, 522, 523, 524, 525, 526, 527, 528] (by decide +kernel) (by decide +kernel)
set_option maxRecDepth 20000 in
theorem gL_law_X2_thrown : GoodIn wsL_law (wsV RL 85 RX2 yX2_thrown wsX2_thrown) := goodIn_app (goodIn_of _ (by decide +kernel)) ggL_law_X2_thrown
set_option maxRecDepth 20000 in
theorem ggL_law_L_hide : GoodIn wsL_law wsL_hide := goodIn_ca (goodIn_r _ [117, 118, 119, 120, 121, 2, 122, 19, 123, 124, 125, 126, 127, 128, 18, 63, 15, 64, 65, 33, 506, 507, 508, 509, 510, 511, 512, 513, 514, 515, 516, 529, 530, 531, 532] (by decide +kernel) (by decide +kernel)) (goodIn_sub (fun _ h => List.mem_append_left _ (List.mem_append_right _ h)) (by decide +kernel))
set_option maxRecDepth 20000 in
theorem gL_law_L_hide : GoodIn wsL_law (va_wsS RL 88 yL_hide wsL_hide) := goodIn_app (goodIn_of _ (by decide +kernel)) ggL_law_L_hide
set_option maxRecDepth 20000 in
theorem ggL_law_X2_hide : GoodIn wsL_law wsX2_hide := goodIn_r _ [132, 102, 79, 133, 134, 135, 5, 136, 137, 138, 139, 140, 78, 104, 105, 106, 107, 108, 109, 110, 517, 518, 519, 520, 521, 522, 523, 524, 525, 526, 527, 528] (by decide +kernel) (by decide +kernel)
set_option maxRecDepth 20000 in
theorem gL_law_X2_hide : GoodIn wsL_law (wsV RL 90 RX2 yX2_hide wsX2_hide) := goodIn_app (goodIn_of _ (by decide +kernel)) ggL_law_X2_hide
set_option maxRecDepth 20000 in
theorem ggL_law_L_swap : GoodIn wsL_law wsL_swap := goodIn_ca (goodIn_ca (goodIn_r _ [143, 118, 144, 145, 146, 147, 2, 148, 18, 19, 149, 150, 151, 127, 128, 152, 153, 154, 155, 156, 157, 158, 15, 159, 160, 35, 73, 63, 64, 65, 33, 506, 507, 508, 509, 510, 511, 512, 513, 514, 515, 516, 529, 530, 531, 532] (by decide +kernel) (by decide +kernel)) (goodIn_sub (fun _ h => List.mem_append_left _ (List.mem_append_right _ h)) (by decide +kernel))) (goodIn_sub (fun _ h => List.mem_append_right _ h) (by decide +kernel))
set_option maxRecDepth 20000 in
theorem gL_law_L_swap : GoodIn wsL_law (va_wsS RL 91 yL_swap wsL_swap) := goodIn_app (goodIn_of _ (by decide +kernel)) ggL_law_L_swap
set_option maxRecDepth 20000 in
theorem ggL_law_X2_swap : GoodIn wsL_law wsX2_swap := goodIn_r _ [164, 102, 79, 165, 166, 5, 167, 104, 105, 106, 107, 108, 109, 110, 168, 169, 170, 171, 78, 172, 173, 174, 175, 517, 518, 519, 520, 521, 522, 523, 524, 525, 526, 527, 528] (by decide +kernel) (by decide +kernel)
set_option maxRecDepth 20000 in
theorem gL_law_X2_swap : GoodIn wsL_law (wsV RL 94 RX2 yX2_swap wsX2_swap) := goodIn_app (goodIn_of _ (by decide +kernel)) ggL_law_X2_swap
set_option maxRecDepth 20000 in
theorem ggL_law_L_guess : GoodIn wsL_law wsL_guess := goodIn_ca (goodIn_ca (goodIn_r _ [178, 118, 144, 179, 180, 181, 2, 182, 18, 19, 123, 124, 125, 126, 127, 128, 63, 15, 64, 65, 33, 152, 153, 154, 155, 156, 157, 70, 71, 72, 36, 73, 183, 184, 185, 186, 20, 22, 23, 25, 59, 60, 61, 62, 26, 66, 67, 68, 69, 506, 507, 508, 509, 510, 511, 512, 513, 514, 515, 516, 529, 530, 531, 532] (by decide +kernel) (by decide +kernel)) (goodIn_sub (fun _ h => List.mem_append_left _ (List.mem_append_right _ h)) (by decide +kernel))) (goodIn_sub (fun _ h => List.mem_append_right _ h) (by decide +kernel))
set_option maxRecDepth 20000 in
theorem gL_law_L_guess : GoodIn wsL_law (va_wsS RL 95 yL_guess wsL_guess) := goodIn_app (goodIn_of _ (by decide +kernel)) ggL_law_L_guess
set_option maxRecDepth 20000 in
theorem ggL_law_X2_guess : GoodIn wsL_law wsX2_guess := goodIn_r _ [190, 102, 79, 103, 81, 133, 134, 135, 5, 136, 137, 138, 139, 140, 78, 104, 105, 106, 107, 108, 109, 110, 191, 192, 193, 194, 85, 86, 195, 56, 57, 58, 168, 169, 170, 171, 172, 173, 174, 175, 196, 197, 198, 199, 80, 82, 517, 518, 519, 520, 521, 522, 523, 524, 525, 526, 527, 528] (by decide +kernel) (by decide +kernel)
set_option maxRecDepth 20000 in
theorem gL_law_X2_guess : GoodIn wsL_law (wsV RL 97 RX2 yX2_guess wsX2_guess) := goodIn_app (goodIn_of _ (by decide +kernel)) ggL_law_X2_guess
set_option maxRecDepth 20000 in
theorem ggL_law_L_tell : GoodIn wsL_law wsL_tell := goodIn_ca (goodIn_ca (goodIn_ca (goodIn_r _ [202, 118, 91, 144, 203, 204, 205, 2, 206, 26, 123, 124, 125, 126, 127, 128, 18, 63, 15, 64, 65, 33, 207, 208, 209, 96, 97, 183, 184, 185, 186, 156, 157, 20, 22, 23, 25, 59, 60, 61, 62, 66, 67, 68, 69, 70, 71, 72, 36, 73, 210, 211, 212, 506, 507, 508, 509, 510, 511, 512, 513, 514, 515, 516, 529, 530, 531, 532] (by decide +kernel) (by decide +kernel)) (goodIn_sub (fun _ h => List.mem_append_left _ (List.mem_append_right _ h)) (by decide +kernel))) (goodIn_sub (fun _ h => List.mem_append_left _ (List.mem_append_left _ (List.mem_append_right _ h))) (by decide +kernel))) (goodIn_sub (fun _ h => List.mem_append_right _ h) (by decide +kernel))
set_option maxRecDepth 20000 in
theorem gL_law_L_tell : GoodIn wsL_law (va_wsS RL 98 yL_tell wsL_tell) := goodIn_app (goodIn_of _ (by decide +kernel)) ggL_law_L_tell
set_option maxRecDepth 20000 in
theorem ggL_law_X2_tell : GoodIn wsL_law wsX2_tell := goodIn_r _ [216, 102, 103, 133, 134, 135, 5, 136, 137, 138, 139, 140, 78, 104, 105, 106, 107, 108, 109, 110, 196, 197, 198, 199, 80, 81, 82, 217, 218, 219, 220, 221, 83, 222, 223, 224, 225, 191, 192, 193, 194, 85, 86, 195, 56, 57, 58, 168, 169, 170, 171, 172, 173, 174, 175, 517, 518, 519, 520, 521, 522, 523, 524, 525, 526, 527, 528] (by decide +kernel) (by decide +kernel)
set_option maxRecDepth 20000 in
theorem gL_law_X2_tell : GoodIn wsL_law (wsV RL 101 RX2 yX2_tell wsX2_tell) := goodIn_app (goodIn_of _ (by decide +kernel)) ggL_law_X2_tell
set_option maxRecDepth 20000 in
theorem ggL_law_L_doubt : GoodIn wsL_law wsL_doubt := goodIn_ca (goodIn_r _ [228, 118, 229, 230, 231, 2, 232, 127, 128, 25, 233, 234, 235, 236, 20, 59, 60, 61, 62, 26, 18, 63, 15, 64, 65, 33, 66, 67, 68, 69, 22, 23, 70, 71, 72, 36, 73, 506, 507, 508, 509, 510, 511, 512, 513, 514, 515, 516, 529, 530, 531, 532] (by decide +kernel) (by decide +kernel)) (goodIn_sub (fun _ h => List.mem_append_left _ (List.mem_append_right _ h)) (by decide +kernel))
set_option maxRecDepth 20000 in
theorem gL_law_L_doubt : GoodIn wsL_law (va_wsS RL 102 yL_doubt wsL_doubt) := goodIn_app (goodIn_of _ (by decide +kernel)) ggL_law_L_doubt
set_option maxRecDepth 20000 in
theorem ggL_law_X2_doubt : GoodIn wsL_law wsX2_doubt := goodIn_r _ [240, 102, 82, 241, 242, 243, 5, 244, 103, 104, 105, 106, 517, 518, 519, 520, 521, 522, 523, 524, 525, 526, 527, 528] (by decide +kernel) (by decide +kernel)
set_option maxRecDepth 20000 in
theorem gL_law_X2_doubt : GoodIn wsL_law (wsV RL 105 RX2 yX2_doubt wsX2_doubt) := goodIn_app (goodIn_of _ (by decide +kernel)) ggL_law_X2_doubt
set_option maxRecDepth 20000 in
theorem ggL_law_L_forget : GoodIn wsL_law wsL_forget := goodIn_ca (goodIn_r _ [247, 144, 248, 249, 250, 2, 251, 156, 157, 20, 22, 233, 234, 235, 236, 59, 60, 61, 62, 26, 18, 63, 15, 64, 65, 33, 66, 67, 68, 69, 25, 23, 70, 71, 72, 36, 73, 506, 507, 508, 509, 510, 511, 512, 513, 514, 515, 516, 529, 530, 531, 532] (by decide +kernel) (by decide +kernel)) (goodIn_sub (fun _ h => List.mem_append_right _ h) (by decide +kernel))
set_option maxRecDepth 20000 in
theorem gL_law_L_forget : GoodIn wsL_law (va_wsS RL 106 yL_forget wsL_forget) := goodIn_app (goodIn_of _ (by decide +kernel)) ggL_law_L_forget
set_option maxRecDepth 20000 in
theorem ggL_law_X2_forget : GoodIn wsL_law wsX2_forget := goodIn_r _ [255, 102, 103, 80, 107, 108, 109, 5, 110, 517, 518, 519, 520, 521, 522, 523, 524, 525, 526, 527, 528] (by decide +kernel) (by decide +kernel)
set_option maxRecDepth 20000 in
theorem gL_law_X2_forget : GoodIn wsL_law (wsV RL 109 RX2 yX2_forget wsX2_forget) := goodIn_app (goodIn_of _ (by decide +kernel)) ggL_law_X2_forget
set_option maxRecDepth 20000 in
theorem ggL_law_L_colour : GoodIn wsL_law wsL_colour := goodIn_ca (goodIn_r _ [258, 118, 259, 260, 261, 2, 262, 18, 123, 124, 125, 126, 127, 128, 63, 15, 64, 65, 33, 149, 150, 151, 158, 159, 160, 35, 73, 506, 507, 508, 509, 510, 511, 512, 513, 514, 515, 516, 529, 530, 531, 532] (by decide +kernel) (by decide +kernel)) (goodIn_sub (fun _ h => List.mem_append_left _ (List.mem_append_right _ h)) (by decide +kernel))
set_option maxRecDepth 20000 in
theorem gL_law_L_colour : GoodIn wsL_law (va_wsS RL 110 yL_colour wsL_colour) := goodIn_app (goodIn_of _ (by decide +kernel)) ggL_law_L_colour
set_option maxRecDepth 20000 in
theorem ggL_law_X2_colour : GoodIn wsL_law wsX2_colour := goodIn_r _ [266, 102, 133, 134, 135, 5, 136, 137, 138, 139, 140, 78, 104, 105, 106, 165, 166, 167, 168, 169, 170, 171, 172, 173, 174, 175, 107, 108, 109, 110, 517, 518, 519, 520, 521, 522, 523, 524, 525, 526, 527, 528] (by decide +kernel) (by decide +kernel)
set_option maxRecDepth 20000 in
theorem gL_law_X2_colour : GoodIn wsL_law (wsV RL 112 RX2 yX2_colour wsX2_colour) := goodIn_app (goodIn_of _ (by decide +kernel)) ggL_law_X2_colour
set_option maxRecDepth 20000 in
theorem ggL_law_L_pins : GoodIn wsL_law wsL_pins := goodIn_ca (goodIn_r _ [269, 118, 270, 271, 272, 2, 273, 18, 123, 124, 125, 126, 127, 128, 63, 15, 64, 65, 33, 70, 71, 72, 36, 73, 506, 507, 508, 509, 510, 511, 512, 513, 514, 515, 516, 529, 530, 531, 532] (by decide +kernel) (by decide +kernel)) (goodIn_sub (fun _ h => List.mem_append_left _ (List.mem_append_right _ h)) (by decide +kernel))
set_option maxRecDepth 20000 in
theorem gL_law_L_pins : GoodIn wsL_law (va_wsS RL 113 yL_pins wsL_pins) := goodIn_app (goodIn_of _ (by decide +kernel)) ggL_law_L_pins
set_option maxRecDepth 20000 in
theorem ggL_law_X2_pins : GoodIn wsL_law wsX2_pins := goodIn_r _ [277, 102, 133, 134, 135, 5, 136, 137, 138, 139, 140, 78, 104, 105, 106, 191, 192, 193, 194, 85, 86, 195, 56, 57, 58, 168, 169, 170, 171, 172, 173, 174, 175, 107, 108, 109, 110, 517, 518, 519, 520, 521, 522, 523, 524, 525, 526, 527, 528] (by decide +kernel) (by decide +kernel)
set_option maxRecDepth 20000 in
theorem gL_law_X2_pins : GoodIn wsL_law (wsV RL 115 RX2 yX2_pins wsX2_pins) := goodIn_app (goodIn_of _ (by decide +kernel)) ggL_law_X2_pins
set_option maxRecDepth 20000 in
theorem ggL_law_L_told : GoodIn wsL_law wsL_told := goodIn_ca (goodIn_r _ [280, 118, 281, 282, 283, 2, 284, 127, 128, 22, 23, 25, 233, 234, 235, 236, 20, 285, 286, 287, 288, 18, 66, 67, 68, 69, 70, 15, 71, 72, 36, 73, 63, 64, 65, 33, 289, 290, 291, 292, 506, 507, 508, 509, 510, 511, 512, 513, 514, 515, 516, 529, 530, 531, 532] (by decide +kernel) (by decide +kernel)) (goodIn_sub (fun _ h => List.mem_append_left _ (List.mem_append_right _ h)) (by decide +kernel))
set_option maxRecDepth 20000 in
theorem gL_law_L_told : GoodIn wsL_law (va_wsS RL 116 yL_told wsL_told) := goodIn_app (goodIn_of _ (by decide +kernel)) ggL_law_L_told
set_option maxRecDepth 20000 in
theorem ggL_law_X2_told : GoodIn wsL_law wsX2_told := goodIn_r _ [296, 102, 241, 242, 243, 5, 244, 103, 104, 105, 106, 297, 298, 299, 300, 80, 81, 82, 217, 218, 219, 220, 221, 83, 137, 138, 139, 140, 78, 222, 223, 224, 225, 191, 192, 193, 194, 85, 86, 195, 56, 57, 58, 168, 169, 170, 171, 172, 173, 174, 175, 301, 302, 303, 304, 107, 108, 109, 110, 517, 518, 519, 520, 521, 522, 523, 524, 525, 526, 527, 528] (by decide +kernel) (by decide +kernel)
set_option maxRecDepth 20000 in
theorem gL_law_X2_told : GoodIn wsL_law (wsV RL 118 RX2 yX2_told wsX2_told) := goodIn_app (goodIn_of _ (by decide +kernel)) ggL_law_X2_told
set_option maxRecDepth 20000 in
theorem ggL_law_L_count : GoodIn wsL_law wsL_count := goodIn_ca (goodIn_r _ [307, 118, 308, 309, 310, 2, 311, 127, 128, 18, 20, 26, 19, 210, 211, 212, 312, 313, 314, 315, 23, 316, 317, 318, 319, 25, 506, 507, 508, 509, 510, 511, 512, 513, 514, 515, 516, 529, 530, 531, 532] (by decide +kernel) (by decide +kernel)) (goodIn_sub (fun _ h => List.mem_append_left _ (List.mem_append_right _ h)) (by decide +kernel))
set_option maxRecDepth 20000 in
theorem gL_law_L_count : GoodIn wsL_law (va_wsS RL 119 yL_count wsL_count) := goodIn_app (goodIn_of _ (by decide +kernel)) ggL_law_L_count
set_option maxRecDepth 20000 in
theorem ggL_law_X2_count : GoodIn wsL_law wsX2_count := goodIn_r _ [323, 102, 104, 105, 5, 106, 324, 325, 326, 327, 78, 103, 79, 81, 82, 137, 138, 139, 140, 217, 218, 219, 220, 221, 83, 222, 223, 224, 225, 80, 191, 192, 193, 194, 85, 86, 195, 56, 57, 58, 168, 169, 170, 171, 172, 173, 174, 175, 107, 108, 109, 110, 517, 518, 519, 520, 521, 522, 523, 524, 525, 526, 527, 528] (by decide +kernel) (by decide +kernel)
set_option maxRecDepth 20000 in
theorem gL_law_X2_count : GoodIn wsL_law (wsV RL 121 RX2 yX2_count wsX2_count) := goodIn_app (goodIn_of _ (by decide +kernel)) ggL_law_X2_count
set_option maxRecDepth 20000 in
theorem ggL_law_L_isPossible : GoodIn wsL_law wsL_isPossible := goodIn_ca (goodIn_r _ [330, 118, 331, 332, 333, 2, 334, 26, 123, 124, 125, 126, 127, 128, 18, 63, 15, 64, 65, 33, 335, 336, 337, 506, 507, 508, 509, 510, 511, 512, 513, 514, 515, 516, 529, 530, 531, 532] (by decide +kernel) (by decide +kernel)) (goodIn_sub (fun _ h => List.mem_append_left _ (List.mem_append_right _ h)) (by decide +kernel))
set_option maxRecDepth 20000 in
theorem gL_law_L_isPossible : GoodIn wsL_law (va_wsS RL 122 yL_isPossible wsL_isPossible) := goodIn_app (goodIn_of _ (by decide +kernel)) ggL_law_L_isPossible
set_option maxRecDepth 20000 in
theorem ggL_law_X2_isPossible : GoodIn wsL_law wsX2_isPossible := goodIn_r _ [341, 102, 103, 133, 134, 135, 5, 136, 137, 138, 139, 140, 78, 104, 105, 106, 222, 223, 224, 225, 82, 80, 81, 191, 192, 193, 194, 85, 86, 195, 56, 57, 58, 168, 169, 170, 171, 172, 173, 174, 175, 517, 518, 519, 520, 521, 522, 523, 524, 525, 526, 527, 528] (by decide +kernel) (by decide +kernel)
set_option maxRecDepth 20000 in
theorem gL_law_X2_isPossible : GoodIn wsL_law (wsV RL 124 RX2 yX2_isPossible wsX2_isPossible) := goodIn_app (goodIn_of _ (by decide +kernel)) ggL_law_X2_isPossible
set_option maxRecDepth 20000 in
theorem ggL_law_L_possible : GoodIn wsL_law wsL_possible := goodIn_ca (goodIn_r _ [344, 118, 345, 346, 347, 2, 348, 127, 128, 26, 349, 350, 351, 506, 507, 508, 509, 510, 511, 512, 513, 514, 515, 516] (by decide +kernel) (by decide +kernel)) (goodIn_sub (fun _ h => List.mem_append_left _ (List.mem_append_right _ h)) (by decide +kernel))
set_option maxRecDepth 20000 in
theorem gL_law_L_possible : GoodIn wsL_law (va_wsS RL 125 yL_possible wsL_possible) := goodIn_app (goodIn_of _ (by decide +kernel)) ggL_law_L_possible
set_option maxRecDepth 20000 in
theorem ggL_law_X2_possible : GoodIn wsL_law wsX2_possible := goodIn_r _ [355, 102, 103, 83, 217, 218, 219, 5, 220, 221, 137, 138, 139, 140, 78, 222, 223, 224, 225, 82, 80, 81, 191, 192, 193, 194, 85, 86, 195, 56, 57, 58, 168, 169, 170, 171, 172, 173, 174, 175, 104, 105, 106, 107, 108, 109, 110, 517, 518, 519, 520, 521, 522, 523, 524, 525, 526, 527, 528] (by decide +kernel) (by decide +kernel)
set_option maxRecDepth 20000 in
theorem gL_law_X2_possible : GoodIn wsL_law (wsV RL 127 RX2 yX2_possible wsX2_possible) := goodIn_app (goodIn_of _ (by decide +kernel)) ggL_law_X2_possible
set_option maxRecDepth 20000 in
theorem ggL_law_L_have : GoodIn wsL_law wsL_have := goodIn_ca (goodIn_r _ [358, 118, 359, 360, 361, 2, 362, 127, 128, 18, 149, 150, 151, 363, 364, 365, 366, 26, 158, 15, 159, 160, 35, 73, 63, 64, 65, 33, 506, 507, 508, 509, 510, 511, 512, 513, 514, 515, 516, 529, 530, 531, 532] (by decide +kernel) (by decide +kernel)) (goodIn_sub (fun _ h => List.mem_append_left _ (List.mem_append_right _ h)) (by decide +kernel))
set_option maxRecDepth 20000 in
theorem gL_law_L_have : GoodIn wsL_law (va_wsS RL 128 yL_have wsL_have) := goodIn_app (goodIn_of _ (by decide +kernel)) ggL_law_L_have
set_option maxRecDepth 20000 in
theorem ggL_law_X2_have_ : GoodIn wsL_law wsX2_have_ := goodIn_r _ [370, 102, 78, 103, 165, 166, 5, 167, 104, 105, 106, 217, 218, 219, 220, 221, 83, 137, 138, 139, 140, 222, 223, 224, 225, 82, 80, 81, 191, 192, 193, 194, 85, 86, 195, 56, 57, 58, 168, 169, 170, 171, 172, 173, 174, 175, 371, 372, 373, 374, 107, 108, 109, 110, 517, 518, 519, 520, 521, 522, 523, 524, 525, 526, 527, 528] (by decide +kernel) (by decide +kernel)
set_option maxRecDepth 20000 in
theorem gL_law_X2_have_ : GoodIn wsL_law (wsV RL 130 RX2 yX2_have_ wsX2_have_) := goodIn_app (goodIn_of _ (by decide +kernel)) ggL_law_X2_have_
set_option maxRecDepth 20000 in
theorem ggL_law_L_sure : GoodIn wsL_law wsL_sure := goodIn_ca (goodIn_r _ [377, 118, 378, 379, 380, 2, 381, 26, 18, 149, 150, 151, 127, 128, 349, 350, 351, 158, 15, 159, 160, 35, 73, 63, 64, 65, 33, 363, 364, 365, 366, 210, 211, 212, 506, 507, 508, 509, 510, 511, 512, 513, 514, 515, 516, 529, 530, 531, 532] (by decide +kernel) (by decide +kernel)) (goodIn_sub (fun _ h => List.mem_append_left _ (List.mem_append_right _ h)) (by decide +kernel))
set_option maxRecDepth 20000 in
theorem gL_law_L_sure : GoodIn wsL_law (va_wsS RL 131 yL_sure wsL_sure) := goodIn_app (goodIn_of _ (by decide +kernel)) ggL_law_L_sure
set_option maxRecDepth 20000 in
theorem ggL_law_X2_sure : GoodIn wsL_law wsX2_sure := goodIn_r _ [385, 102, 165, 166, 5, 167, 104, 105, 106, 386, 387, 388, 389, 103, 78, 221, 217, 218, 219, 220, 83, 137, 138, 139, 140, 222, 223, 224, 225, 82, 80, 81, 191, 192, 193, 194, 85, 86, 195, 56, 57, 58, 168, 169, 170, 171, 172, 173, 174, 175, 371, 372, 373, 374, 107, 108, 109, 110, 517, 518, 519, 520, 521, 522, 523, 524, 525, 526, 527, 528] (by decide +kernel) (by decide +kernel)
set_option maxRecDepth 20000 in
theorem gL_law_X2_sure : GoodIn wsL_law (wsV RL 133 RX2 yX2_sure wsX2_sure) := goodIn_app (goodIn_of _ (by decide +kernel)) ggL_law_X2_sure
set_option maxRecDepth 20000 in
theorem ggL_law_L_worst : GoodIn wsL_law wsL_worst := goodIn_ca (goodIn_r _ [392, 118, 393, 394, 395, 2, 396, 26, 123, 124, 125, 126, 127, 128, 18, 63, 15, 64, 65, 33, 397, 398, 399, 400, 28, 401, 402, 57, 403, 404, 405, 406, 407, 408, 409, 410, 411, 70, 71, 72, 36, 73, 506, 507, 508, 509, 510, 511, 512, 513, 514, 515, 516, 529, 530, 531, 532] (by decide +kernel) (by decide +kernel)) (goodIn_sub (fun _ h => List.mem_append_left _ (List.mem_append_right _ h)) (by decide +kernel))
set_option maxRecDepth 20000 in
theorem gL_law_L_worst : GoodIn wsL_law (va_wsS RL 134 yL_worst wsL_worst) := goodIn_app (goodIn_of _ (by decide +kernel)) ggL_law_L_worst
set_option maxRecDepth 20000 in
theorem ggL_law_X2_worst : GoodIn wsL_law wsX2_worst := goodIn_r _ [415, 102, 103, 133, 134, 135, 5, 136, 137, 138, 139, 140, 78, 104, 105, 106, 107, 108, 109, 110, 217, 218, 219, 220, 221, 83, 222, 223, 224, 225, 82, 80, 81, 191, 192, 193, 194, 85, 86, 195, 56, 57, 58, 168, 169, 170, 171, 172, 173, 174, 175, 416, 417, 418, 419, 84, 420, 402, 403, 421, 422, 423, 424, 517, 518, 519, 520, 521, 522, 523, 524, 525, 526, 527, 528] (by decide +kernel) (by decide +kernel)
set_option maxRecDepth 20000 in
theorem gL_law_X2_worst : GoodIn wsL_law (wsV RL 136 RX2 yX2_worst wsX2_worst) := goodIn_app (goodIn_of _ (by decide +kernel)) ggL_law_X2_worst
set_option maxRecDepth 20000 in
theorem ggL_law_L_parts : GoodIn wsL_law wsL_parts := goodIn_ca (goodIn_r _ [427, 118, 428, 429, 430, 2, 431, 26, 28, 123, 124, 125, 126, 127, 128, 18, 63, 15, 64, 65, 33, 404, 405, 406, 407, 408, 409, 410, 411, 70, 71, 72, 36, 73, 506, 507, 508, 509, 510, 511, 512, 513, 514, 515, 516, 529, 530, 531, 532] (by decide +kernel) (by decide +kernel)) (goodIn_sub (fun _ h => List.mem_append_left _ (List.mem_append_right _ h)) (by decide +kernel))
set_option maxRecDepth 20000 in
theorem gL_law_L_parts : GoodIn wsL_law (va_wsS RL 137 yL_parts wsL_parts) := goodIn_app (goodIn_of _ (by decide +kernel)) ggL_law_L_parts
set_option maxRecDepth 20000 in
theorem ggL_law_X2_parts : GoodIn wsL_law wsX2_parts := goodIn_r _ [435, 102, 103, 133, 134, 135, 5, 136, 137, 138, 139, 140, 78, 104, 105, 106, 107, 108, 109, 110, 217, 218, 219, 220, 221, 83, 222, 223, 224, 225, 82, 80, 81, 191, 192, 193, 194, 85, 86, 195, 56, 57, 58, 168, 169, 170, 171, 172, 173, 174, 175, 436, 437, 438, 439, 84, 421, 422, 423, 424, 517, 518, 519, 520, 521, 522, 523, 524, 525, 526, 527, 528] (by decide +kernel) (by decide +kernel)
set_option maxRecDepth 20000 in
theorem gL_law_X2_parts : GoodIn wsL_law (wsV RL 139 RX2 yX2_parts wsX2_parts) := goodIn_app (goodIn_of _ (by decide +kernel)) ggL_law_X2_parts
set_option maxRecDepth 20000 in
theorem ggL_law_X1_best : GoodIn wsL_law wsX1_best := goodIn_r _ [443, 26, 444, 445, 446, 2, 447, 18, 210, 211, 212, 335, 336, 337, 397, 398, 399, 400, 28, 401, 402, 57, 403, 404, 405, 406, 407, 408, 409, 410, 411, 70, 15, 71, 72, 36, 73, 63, 64, 65, 33, 506, 507, 508, 509, 510, 511, 512, 513, 514, 515, 516, 529, 530, 531, 532] (by decide +kernel) (by decide +kernel)
set_option maxRecDepth 20000 in
theorem gL_law_X1_best : GoodIn wsL_law (wsV RL 140 RX1 yX1_best wsX1_best) := goodIn_app (goodIn_of _ (by decide +kernel)) ggL_law_X1_best
set_option maxRecDepth 20000 in
theorem ggL_law_X2_best : GoodIn wsL_law wsX2_best := goodIn_r _ [451, 102, 103, 217, 218, 219, 5, 220, 221, 83, 137, 138, 139, 140, 78, 222, 223, 224, 225, 82, 80, 81, 191, 192, 193, 194, 85, 86, 195, 56, 57, 58, 168, 169, 170, 171, 172, 173, 174, 175, 416, 417, 418, 419, 84, 420, 402, 403, 421, 422, 423, 424, 452, 453, 454, 455, 517, 518, 519, 520, 521, 522, 523, 524, 525, 526, 527, 528] (by decide +kernel) (by decide +kernel)
set_option maxRecDepth 20000 in
theorem gL_law_X2_best : GoodIn wsL_law (wsV RL 143 RX2 yX2_best wsX2_best) := goodIn_app (goodIn_of _ (by decide +kernel)) ggL_law_X2_best
set_option maxRecDepth 20000 in
theorem ggL_law_L_takes : GoodIn wsL_law wsL_takes := goodIn_ca (goodIn_r _ [458, 118, 459, 460, 461, 2, 462, 27, 18, 123, 124, 125, 126, 127, 128, 63, 15, 64, 65, 33, 70, 71, 72, 36, 73, 463, 464, 465, 466, 444, 445, 446, 447, 210, 211, 212, 335, 336, 337, 397, 398, 399, 400, 28, 401, 402, 57, 403, 404, 405, 406, 407, 408, 409, 410, 411, 506, 507, 508, 509, 510, 511, 512, 513, 514, 515, 516, 529, 530, 531, 532] (by decide +kernel) (by decide +kernel)) (goodIn_sub (fun _ h => List.mem_append_left _ (List.mem_append_right _ h)) (by decide +kernel))
set_option maxRecDepth 20000 in
theorem gL_law_L_takes : GoodIn wsL_law (va_wsS RL 144 yL_takes wsL_takes) := goodIn_app (goodIn_of _ (by decide +kernel)) ggL_law_L_takes
set_option maxRecDepth 20000 in
theorem ggL_law_X2_takes : GoodIn wsL_law wsX2_takes := goodIn_r _ [470, 102, 221, 83, 133, 134, 135, 5, 136, 137, 138, 139, 140, 78, 104, 105, 106, 107, 108, 109, 110, 191, 192, 193, 194, 85, 86, 195, 56, 57, 58, 168, 169, 170, 171, 172, 173, 174, 175, 471, 472, 473, 474, 475, 476, 477, 478, 416, 417, 418, 419, 84, 420, 402, 403, 421, 422, 423, 424, 517, 518, 519, 520, 521, 522, 523, 524, 525, 526, 527, 528] (by decide +kernel) (by decide +kernel)
set_option maxRecDepth 20000 in
theorem gL_law_X2_takes : GoodIn wsL_law (wsV RL 146 RX2 yX2_takes wsX2_takes) := goodIn_app (goodIn_of _ (by decide +kernel)) ggL_law_X2_takes
set_option maxRecDepth 20000 in
theorem ggL_law_X1_mean : GoodIn wsL_law wsX1_mean := goodIn_r _ [482, 20, 23, 506, 507, 508, 509, 510, 511, 512, 513, 514, 515, 516] (by decide +kernel) (by decide +kernel)
set_option maxRecDepth 20000 in
theorem gL_law_X1_mean : GoodIn wsL_law (wsV RL 147 RX1 yX1_mean wsX1_mean) := goodIn_app (goodIn_of _ (by decide +kernel)) ggL_law_X1_mean
set_option maxRecDepth 20000 in
theorem ggL_law_X2_mean : GoodIn wsL_law wsX2_mean := goodIn_r _ [486, 102, 103, 81, 517, 518, 519, 520, 521, 522, 523, 524, 525, 526, 527, 528] (by decide +kernel) (by decide +kernel)
set_option maxRecDepth 20000 in
theorem gL_law_X2_mean : GoodIn wsL_law (wsV RL 151 RX2 yX2_mean wsX2_mean) := goodIn_app (goodIn_of _ (by decide +kernel)) ggL_law_X2_mean
set_option maxRecDepth 20000 in
theorem ggL_law_X1_digest : GoodIn wsL_law wsX1_digest := goodIn_ca (goodIn_r _ [490, 491, 19, 20, 18, 26, 492, 309, 310, 2, 311, 127, 128, 210, 211, 212, 312, 313, 314, 315, 23, 316, 317, 318, 319, 25, 493, 494, 495, 496, 497, 282, 283, 284, 22, 233, 234, 235, 236, 285, 286, 287, 288, 66, 67, 68, 69, 70, 15, 71, 72, 36, 73, 63, 64, 65, 33, 289, 290, 291, 292, 498, 379, 380, 381, 149, 150, 151, 349, 350, 351, 158, 159, 160, 35, 363, 364, 365, 366, 499, 360, 361, 362, 506, 507, 508, 509, 510, 511, 512, 513, 514, 515, 516, 529, 530, 531, 532] (by decide +kernel) (by decide +kernel)) (goodIn_sub (fun _ h => List.mem_append_left _ (List.mem_append_right _ h)) (by decide +kernel))
set_option maxRecDepth 20000 in
theorem gL_law_X1_digest : GoodIn wsL_law (wsV RL 152 RX1 yX1_digest wsX1_digest) := goodIn_app (goodIn_of _ (by decide +kernel)) ggL_law_X1_digest
set_option maxRecDepth 20000 in
theorem ggL_law_X2_digest : GoodIn wsL_law wsX2_digest := goodIn_r _ [503, 102, 504, 505, 79, 103, 78, 221, 83, 324, 325, 326, 5, 327, 81, 82, 137, 138, 139, 140, 217, 218, 219, 220, 222, 223, 224, 225, 80, 191, 192, 193, 194, 85, 86, 195, 56, 57, 58, 168, 169, 170, 171, 172, 173, 174, 175, 297, 298, 299, 300, 301, 302, 303, 304, 386, 387, 388, 389, 371, 372, 373, 374, 517, 518, 519, 520, 521, 522, 523, 524, 525, 526, 527, 528] (by decide +kernel) (by decide +kernel)
set_option maxRecDepth 20000 in
theorem gL_law_X2_digest : GoodIn wsL_law (wsV RL 156 RX2 yX2_digest wsX2_digest) := goodIn_app (goodIn_of _ (by decide +kernel)) ggL_law_X2_digest

set_option maxRecDepth 20000 in
theorem ggX0_init_X0_lightCandles : GoodIn wsX0_init wsX0_lightCandles := goodIn_r _ [14, 8, 4, 33, 34, 35, 36] (by decide +kernel) (by decide +kernel)
set_option maxRecDepth 20000 in
theorem gX0_init_X0_lightCandles : GoodIn wsX0_init (wsV RX0 26 RX0 yX0_lightCandles wsX0_lightCandles) := goodIn_app (goodIn_of _ (by decide +kernel)) ggX0_init_X0_lightCandles
set_option maxRecDepth 20000 in
theorem ggX0_init_X0_tallies : GoodIn wsX0_init wsX0_tallies := goodIn_r _ [18, 5, 4, 6, 7, 8, 33, 34, 35, 36] (by decide +kernel) (by decide +kernel)
set_option maxRecDepth 20000 in
theorem gX0_init_X0_tallies : GoodIn wsX0_init (wsV RX0 29 RX0 yX0_tallies wsX0_tallies) := goodIn_app (goodIn_of _ (by decide +kernel)) ggX0_init_X0_tallies
set_option maxRecDepth 20000 in
theorem ggX0_init_X0_fillTable : GoodIn wsX0_init wsX0_fillTable := goodIn_r _ [22, 5, 8, 9, 23, 24, 13, 25, 26, 27, 28, 29, 30, 31, 32, 33, 34, 35, 36] (by decide +kernel) (by decide +kernel)
set_option maxRecDepth 20000 in
theorem gX0_init_X0_fillTable : GoodIn wsX0_init (wsV RX0 33 RX0 yX0_fillTable wsX0_fillTable) := goodIn_app (goodIn_of _ (by decide +kernel)) ggX0_init_X0_fillTable
set_option maxRecDepth 20000 in
theorem ggX0_fillTable_X0_countSame : GoodIn wsX0_fillTable wsX0_countSame := goodIn_r _ [7] (by decide +kernel) (by decide +kernel)
set_option maxRecDepth 20000 in
theorem gX0_fillTable_X0_countSame : GoodIn wsX0_fillTable (va_wsS RX0 37 yX0_countSame wsX0_countSame) := goodIn_app (goodIn_of _ (by decide +kernel)) ggX0_fillTable_X0_countSame
set_option maxRecDepth 20000 in
theorem ggX0_fillTable_X0_countShared : GoodIn wsX0_fillTable wsX0_countShared := goodIn_r _ [10, 11, 12, 13, 14] (by decide +kernel) (by decide +kernel)
set_option maxRecDepth 20000 in
theorem gX0_fillTable_X0_countShared : GoodIn wsX0_fillTable (va_wsS RX0 41 yX0_countShared wsX0_countShared) := goodIn_app (goodIn_of _ (by decide +kernel)) ggX0_fillTable_X0_countShared
set_option maxRecDepth 20000 in
theorem ggX0_colourOf_X0_hasCode : GoodIn wsX0_colourOf wsX0_hasCode := goodIn_r _ [6, 7, 8, 9, 10, 11] (by decide +kernel) (by decide +kernel)
set_option maxRecDepth 20000 in
theorem gX0_colourOf_X0_hasCode : GoodIn wsX0_colourOf (wsV RX0 50 RX0 yX0_hasCode wsX0_hasCode) := goodIn_app (goodIn_of _ (by decide +kernel)) ggX0_colourOf_X0_hasCode
set_option maxRecDepth 20000 in
theorem ggX0_answerTo_X0_hasCode : GoodIn wsX0_answerTo wsX0_hasCode := goodIn_r _ [6, 7, 8, 9, 10, 11] (by decide +kernel) (by decide +kernel)
set_option maxRecDepth 20000 in
theorem gX0_answerTo_X0_hasCode : GoodIn wsX0_answerTo (wsV RX0 50 RX0 yX0_hasCode wsX0_hasCode) := goodIn_app (goodIn_of _ (by decide +kernel)) ggX0_answerTo_X0_hasCode
set_option maxRecDepth 20000 in
theorem ggX1_init_X0_init : GoodIn wsX1_init wsX0_init := goodIn_r _ [21, 22, 2, 3, 23, 24, 25, 12, 26, 27, 28, 29, 30, 6, 31, 32, 33, 34, 35, 36, 37, 38, 39, 40, 41, 42, 43, 44, 45, 46, 47, 48, 49, 66, 67, 68, 69] (by decide +kernel) (by decide +kernel)
set_option maxRecDepth 20000 in
theorem gX1_init_X0_init_n11 : GoodIn wsX1_init (wsX0_init) := ggX1_init_X0_init
set_option maxRecDepth 20000 in
theorem ggX1_init_X1_sieve : GoodIn wsX1_init wsX1_sieve := goodIn_r _ [54, 17, 9, 11, 55, 6, 56, 57, 24, 58, 59, 60, 53, 61, 16, 13, 14, 62, 63, 64, 27, 65, 70, 71, 72, 73, 74, 75, 76, 77, 78, 79, 80, 66, 67, 68, 69] (by decide +kernel) (by decide +kernel)
set_option maxRecDepth 20000 in
theorem gX1_init_X1_sieve : GoodIn wsX1_init (wsV RX1 51 RX1 yX1_sieve wsX1_sieve) := goodIn_app (goodIn_of _ (by decide +kernel)) ggX1_init_X1_sieve
set_option maxRecDepth 20000 in
theorem ggX1_setColours_X1_sieve : GoodIn wsX1_setColours wsX1_sieve := goodIn_r _ [12, 13, 3, 7, 14, 15, 16, 17, 18, 19, 20, 21, 11, 22, 23, 24, 25, 26, 27, 28, 29, 30, 31, 32, 33, 34, 35, 36, 37, 38, 39, 40, 41, 42, 43, 44, 45] (by decide +kernel) (by decide +kernel)
set_option maxRecDepth 20000 in
theorem gX1_setColours_X1_sieve : GoodIn wsX1_setColours (wsV RX1 51 RX1 yX1_sieve wsX1_sieve) := goodIn_app (goodIn_of _ (by decide +kernel)) ggX1_setColours_X1_sieve
set_option maxRecDepth 20000 in
theorem ggX1_hide_X1_needCode : GoodIn wsX1_hide wsX1_needCode := goodIn_ca (goodIn_r _ [6, 7, 8, 9, 10, 11, 12, 13, 14, 15, 16, 17, 18, 19, 20, 21, 22, 23, 24, 25, 26, 27, 28, 29] (by decide +kernel) (by decide +kernel)) (goodIn_sub (fun _ h => List.mem_cons_of_mem _ (List.mem_append_right _ h)) (by decide +kernel))
set_option maxRecDepth 20000 in
theorem gX1_hide_X1_needCode : GoodIn wsX1_hide (wsV RX1 64 RX1 yX1_needCode wsX1_needCode) := goodIn_app (goodIn_of _ (by decide +kernel)) ggX1_hide_X1_needCode
set_option maxRecDepth 20000 in
theorem ggX1_swap_X1_needPlace : GoodIn wsX1_swap wsX1_needPlace := goodIn_ca (goodIn_r _ [6, 7, 8] (by decide +kernel) (by decide +kernel)) (goodIn_sub (fun _ h => List.mem_cons_of_mem _ (List.mem_append_left _ (List.mem_append_right _ h))) (by decide +kernel))
set_option maxRecDepth 20000 in
theorem gX1_swap_X1_needPlace : GoodIn wsX1_swap (va_wsS RX1 67 yX1_needPlace wsX1_needPlace) := goodIn_app (goodIn_of _ (by decide +kernel)) ggX1_swap_X1_needPlace
set_option maxRecDepth 20000 in
theorem ggX1_swap_X1_needHidden : GoodIn wsX1_swap wsX1_needHidden := goodIn_ca (goodIn_r _ [12, 13, 14, 2, 25, 26, 27, 28, 29, 30, 31, 32, 33, 34, 35] (by decide +kernel) (by decide +kernel)) (goodIn_sub (fun _ h => List.mem_cons_of_mem _ (List.mem_append_right _ h)) (by decide +kernel))
set_option maxRecDepth 20000 in
theorem gX1_swap_X1_needHidden : GoodIn wsX1_swap (wsV RX1 70 RX1 yX1_needHidden wsX1_needHidden) := goodIn_app (goodIn_of _ (by decide +kernel)) ggX1_swap_X1_needHidden
set_option maxRecDepth 20000 in
theorem ggX1_swap_X0_colourOf : GoodIn wsX1_swap wsX0_colourOf := goodIn_r _ [18, 19, 20, 21, 22, 16, 23, 24, 36, 37, 38, 39] (by decide +kernel) (by decide +kernel)
set_option maxRecDepth 20000 in
theorem gX1_swap_X0_colourOf_n73 : GoodIn wsX1_swap (wsX0_colourOf) := ggX1_swap_X0_colourOf
set_option maxRecDepth 20000 in
theorem ggX1_guess_X1_needCode : GoodIn wsX1_guess wsX1_needCode := goodIn_ca (goodIn_r _ [7, 8, 9, 1, 10, 11, 12, 13, 14, 43, 44, 45, 46, 47, 48, 49, 50, 51, 52, 53, 54, 55, 56, 57] (by decide +kernel) (by decide +kernel)) (goodIn_sub (fun _ h => List.mem_cons_of_mem _ (List.mem_append_left _ (List.mem_append_right _ h))) (by decide +kernel))
set_option maxRecDepth 20000 in
theorem gX1_guess_X1_needCode : GoodIn wsX1_guess (wsV RX1 64 RX1 yX1_needCode wsX1_needCode) := goodIn_app (goodIn_of _ (by decide +kernel)) ggX1_guess_X1_needCode
set_option maxRecDepth 20000 in
theorem ggX1_guess_X1_needHidden : GoodIn wsX1_guess wsX1_needHidden := goodIn_ca (goodIn_r _ [18, 19, 20, 2, 43, 44, 45, 46, 47, 48, 49, 50, 51, 52, 53] (by decide +kernel) (by decide +kernel)) (goodIn_sub (fun _ h => List.mem_cons_of_mem _ (List.mem_append_right _ h)) (by decide +kernel))
set_option maxRecDepth 20000 in
theorem gX1_guess_X1_needHidden : GoodIn wsX1_guess (wsV RX1 70 RX1 yX1_needHidden wsX1_needHidden) := goodIn_app (goodIn_of _ (by decide +kernel)) ggX1_guess_X1_needHidden
set_option maxRecDepth 20000 in
theorem ggX1_guess_X0_answerTo : GoodIn wsX1_guess wsX0_answerTo := goodIn_r _ [23, 24, 25, 10, 12, 11, 13, 14, 54, 55, 56, 57] (by decide +kernel) (by decide +kernel)
set_option maxRecDepth 20000 in
theorem gX1_guess_X0_answerTo_n77 : GoodIn wsX1_guess (wsX0_answerTo) := ggX1_guess_X0_answerTo
set_option maxRecDepth 20000 in
theorem ggX1_guess_X1_append : GoodIn wsX1_guess wsX1_append := goodIn_ca (goodIn_r _ [29, 19, 20, 30, 31, 32, 33, 34, 35, 36, 6, 37, 38, 1, 10, 11, 12, 13, 14, 39, 40, 41, 42, 21, 22, 23, 24, 25, 43, 44, 45, 46, 47, 48, 49, 50, 51, 52, 53, 54, 55, 56, 57] (by decide +kernel) (by decide +kernel)) (goodIn_sub (fun _ h => List.mem_cons_of_mem _ (List.mem_append_right _ h)) (by decide +kernel))
set_option maxRecDepth 20000 in
theorem gX1_guess_X1_append : GoodIn wsX1_guess (wsV RX1 80 RX1 yX1_append wsX1_append) := goodIn_app (goodIn_of _ (by decide +kernel)) ggX1_guess_X1_append
set_option maxRecDepth 20000 in
theorem ggX1_tell_X1_needCode : GoodIn wsX1_tell wsX1_needCode := goodIn_ca (goodIn_r _ [6, 7, 8, 9, 10, 11, 12, 13, 14, 46, 47, 48, 49, 50, 51, 52, 53, 54, 55, 56, 57, 58, 59, 60] (by decide +kernel) (by decide +kernel)) (goodIn_sub (fun _ h => List.mem_cons_of_mem _ (List.mem_append_left _ (List.mem_append_left _ (List.mem_append_right _ h)))) (by decide +kernel))
set_option maxRecDepth 20000 in
theorem gX1_tell_X1_needCode : GoodIn wsX1_tell (wsV RX1 64 RX1 yX1_needCode wsX1_needCode) := goodIn_app (goodIn_of _ (by decide +kernel)) ggX1_tell_X1_needCode
set_option maxRecDepth 20000 in
theorem ggX1_tell_X1_needPins : GoodIn wsX1_tell wsX1_needPins := goodIn_ca (goodIn_r _ [17, 18, 19] (by decide +kernel) (by decide +kernel)) (goodIn_sub (fun _ h => List.mem_cons_of_mem _ (List.mem_append_left _ (List.mem_append_right _ h))) (by decide +kernel))
set_option maxRecDepth 20000 in
theorem gX1_tell_X1_needPins : GoodIn wsX1_tell (va_wsS RX1 84 yX1_needPins wsX1_needPins) := goodIn_app (goodIn_of _ (by decide +kernel)) ggX1_tell_X1_needPins
set_option maxRecDepth 20000 in
theorem ggX1_tell_X1_append : GoodIn wsX1_tell wsX1_append := goodIn_ca (goodIn_r _ [23, 24, 25, 26, 27, 28, 29, 30, 31, 32, 5, 33, 1, 9, 10, 11, 12, 13, 14, 34, 35, 36, 37, 38, 39, 40, 41, 42, 46, 47, 48, 49, 50, 51, 52, 53, 54, 55, 56, 57, 58, 59, 60] (by decide +kernel) (by decide +kernel)) (goodIn_sub (fun _ h => List.mem_cons_of_mem _ (List.mem_append_right _ h)) (by decide +kernel))
set_option maxRecDepth 20000 in
theorem gX1_tell_X1_append : GoodIn wsX1_tell (wsV RX1 80 RX1 yX1_append wsX1_append) := goodIn_app (goodIn_of _ (by decide +kernel)) ggX1_tell_X1_append
set_option maxRecDepth 20000 in
theorem ggX1_tell_X1_size : GoodIn wsX1_tell wsX1_size := goodIn_r _ [45] (by decide +kernel) (by decide +kernel)
set_option maxRecDepth 20000 in
theorem gX1_tell_X1_size : GoodIn wsX1_tell (va_wsS RX1 87 yX1_size wsX1_size) := goodIn_app (goodIn_of _ (by decide +kernel)) ggX1_tell_X1_size
set_option maxRecDepth 20000 in
theorem ggX1_doubt_X1_hasGuess : GoodIn wsX1_doubt wsX1_hasGuess := goodIn_r _ [8, 9, 32, 33, 34, 35, 36, 37, 38, 39, 40, 41, 42] (by decide +kernel) (by decide +kernel)
set_option maxRecDepth 20000 in
theorem gX1_doubt_X1_hasGuess : GoodIn wsX1_doubt (wsV RX1 91 RX1 yX1_hasGuess wsX1_hasGuess) := goodIn_app (goodIn_of _ (by decide +kernel)) ggX1_doubt_X1_hasGuess
set_option maxRecDepth 20000 in
theorem ggX1_doubt_X1_sieve : GoodIn wsX1_doubt wsX1_sieve := goodIn_r _ [13, 14, 15, 9, 16, 17, 18, 19, 20, 21, 22, 23, 7, 24, 3, 25, 26, 27, 28, 29, 30, 31, 32, 33, 34, 35, 36, 37, 38, 39, 40, 41, 42, 43, 44, 45, 46] (by decide +kernel) (by decide +kernel)
set_option maxRecDepth 20000 in
theorem gX1_doubt_X1_sieve : GoodIn wsX1_doubt (wsV RX1 51 RX1 yX1_sieve wsX1_sieve) := goodIn_app (goodIn_of _ (by decide +kernel)) ggX1_doubt_X1_sieve
set_option maxRecDepth 20000 in
theorem ggX1_forget_X1_hasGuess : GoodIn wsX1_forget wsX1_hasGuess := goodIn_r _ [9, 3, 32, 33, 34, 35, 36, 37, 38, 39, 40, 41, 42] (by decide +kernel) (by decide +kernel)
set_option maxRecDepth 20000 in
theorem gX1_forget_X1_hasGuess : GoodIn wsX1_forget (wsV RX1 91 RX1 yX1_hasGuess wsX1_hasGuess) := goodIn_app (goodIn_of _ (by decide +kernel)) ggX1_forget_X1_hasGuess
set_option maxRecDepth 20000 in
theorem ggX1_forget_X1_sieve : GoodIn wsX1_forget wsX1_sieve := goodIn_r _ [13, 14, 15, 3, 16, 17, 18, 19, 20, 21, 22, 23, 8, 24, 25, 4, 26, 27, 28, 29, 30, 31, 32, 33, 34, 35, 36, 37, 38, 39, 40, 41, 42, 43, 44, 45, 46] (by decide +kernel) (by decide +kernel)
set_option maxRecDepth 20000 in
theorem gX1_forget_X1_sieve : GoodIn wsX1_forget (wsV RX1 51 RX1 yX1_sieve wsX1_sieve) := goodIn_app (goodIn_of _ (by decide +kernel)) ggX1_forget_X1_sieve
set_option maxRecDepth 20000 in
theorem ggX1_colour_X1_needCode : GoodIn wsX1_colour wsX1_needCode := goodIn_ca (goodIn_r _ [6, 7, 8, 1, 9, 10, 11, 12, 13, 22, 23, 24, 25, 26, 27, 28, 29, 30, 31, 32, 33, 34, 35, 36] (by decide +kernel) (by decide +kernel)) (goodIn_sub (fun _ h => List.mem_cons_of_mem _ (List.mem_append_right _ h)) (by decide +kernel))
set_option maxRecDepth 20000 in
theorem gX1_colour_X1_needCode : GoodIn wsX1_colour (wsV RX1 64 RX1 yX1_needCode wsX1_needCode) := goodIn_app (goodIn_of _ (by decide +kernel)) ggX1_colour_X1_needCode
set_option maxRecDepth 20000 in
theorem ggX1_colour_X1_needPlace : GoodIn wsX1_colour wsX1_needPlace := goodIn_ca (goodIn_r _ [16, 7, 8] (by decide +kernel) (by decide +kernel)) (goodIn_sub (fun _ h => List.mem_cons_of_mem _ (List.mem_append_right _ h)) (by decide +kernel))
set_option maxRecDepth 20000 in
theorem gX1_colour_X1_needPlace : GoodIn wsX1_colour (va_wsS RX1 67 yX1_needPlace wsX1_needPlace) := goodIn_app (goodIn_of _ (by decide +kernel)) ggX1_colour_X1_needPlace
set_option maxRecDepth 20000 in
theorem ggX1_colour_X0_colourOf : GoodIn wsX1_colour wsX0_colourOf := goodIn_r _ [19, 20, 21, 9, 11, 10, 12, 13, 33, 34, 35, 36] (by decide +kernel) (by decide +kernel)
set_option maxRecDepth 20000 in
theorem gX1_colour_X0_colourOf_n73 : GoodIn wsX1_colour (wsX0_colourOf) := ggX1_colour_X0_colourOf
set_option maxRecDepth 20000 in
theorem ggX1_pins_X1_needCode : GoodIn wsX1_pins wsX1_needCode := goodIn_ca (goodIn_r _ [6, 7, 8, 1, 9, 10, 11, 12, 13, 19, 20, 21, 22, 23, 24, 25, 26, 27, 28, 29, 30, 31, 32, 33] (by decide +kernel) (by decide +kernel)) (goodIn_sub (fun _ h => List.mem_cons_of_mem _ (List.mem_append_right _ h)) (by decide +kernel))
set_option maxRecDepth 20000 in
theorem gX1_pins_X1_needCode : GoodIn wsX1_pins (wsV RX1 64 RX1 yX1_needCode wsX1_needCode) := goodIn_app (goodIn_of _ (by decide +kernel)) ggX1_pins_X1_needCode
set_option maxRecDepth 20000 in
theorem ggX1_pins_X0_answerTo : GoodIn wsX1_pins wsX0_answerTo := goodIn_r _ [16, 17, 18, 9, 11, 10, 12, 13, 30, 31, 32, 33] (by decide +kernel) (by decide +kernel)
set_option maxRecDepth 20000 in
theorem gX1_pins_X0_answerTo_n77 : GoodIn wsX1_pins (wsX0_answerTo) := ggX1_pins_X0_answerTo
set_option maxRecDepth 20000 in
theorem ggX1_told_X1_hasGuess : GoodIn wsX1_told wsX1_hasGuess := goodIn_r _ [10, 11, 35, 36, 37, 38, 39, 40, 41, 42, 43, 44, 45] (by decide +kernel) (by decide +kernel)
set_option maxRecDepth 20000 in
theorem gX1_told_X1_hasGuess : GoodIn wsX1_told (wsV RX1 91 RX1 yX1_hasGuess wsX1_hasGuess) := goodIn_app (goodIn_of _ (by decide +kernel)) ggX1_told_X1_hasGuess
set_option maxRecDepth 20000 in
theorem ggX1_told_X1_countFitting : GoodIn wsX1_told wsX1_countFitting := goodIn_r _ [15, 16, 17, 18, 19, 9, 20, 5, 3, 4, 21, 22, 23, 24, 25, 26, 27, 28, 29, 30, 35, 36, 37, 38, 39, 40, 41, 42, 43, 44, 45, 46, 47, 48, 49] (by decide +kernel) (by decide +kernel)
set_option maxRecDepth 20000 in
theorem gX1_told_X1_countFitting : GoodIn wsX1_told (wsV RX1 105 RX1 yX1_countFitting wsX1_countFitting) := goodIn_app (goodIn_of _ (by decide +kernel)) ggX1_told_X1_countFitting
set_option maxRecDepth 20000 in
theorem ggX1_told_X1_countAnswering : GoodIn wsX1_told wsX1_countAnswering := goodIn_r _ [34, 16, 21, 22, 23, 24, 25, 26, 27, 28, 29, 30, 35, 36, 37, 38, 39, 40, 41, 42, 43, 44, 45, 46, 47, 48, 49] (by decide +kernel) (by decide +kernel)
set_option maxRecDepth 20000 in
theorem gX1_told_X1_countAnswering : GoodIn wsX1_told (wsV RX1 109 RX1 yX1_countAnswering wsX1_countAnswering) := goodIn_app (goodIn_of _ (by decide +kernel)) ggX1_told_X1_countAnswering
set_option maxRecDepth 20000 in
theorem ggX1_count_X1_size : GoodIn wsX1_count wsX1_size := goodIn_r _ [10] (by decide +kernel) (by decide +kernel)
set_option maxRecDepth 20000 in
theorem gX1_count_X1_size : GoodIn wsX1_count (va_wsS RX1 87 yX1_size wsX1_size) := goodIn_app (goodIn_of _ (by decide +kernel)) ggX1_count_X1_size
set_option maxRecDepth 20000 in
theorem ggX1_count_X1_countAllBlack : GoodIn wsX1_count wsX1_countAllBlack := goodIn_r _ [14, 4, 15, 21, 22, 23, 24, 25, 26, 27, 28, 29, 30, 31] (by decide +kernel) (by decide +kernel)
set_option maxRecDepth 20000 in
theorem gX1_count_X1_countAllBlack : GoodIn wsX1_count (wsV RX1 117 RX1 yX1_countAllBlack wsX1_countAllBlack) := goodIn_app (goodIn_of _ (by decide +kernel)) ggX1_count_X1_countAllBlack
set_option maxRecDepth 20000 in
theorem ggX1_count_X1_countDoubted : GoodIn wsX1_count wsX1_countDoubted := goodIn_r _ [19, 4, 20, 21, 22, 23, 24, 25, 26, 27, 28, 29, 30, 31] (by decide +kernel) (by decide +kernel)
set_option maxRecDepth 20000 in
theorem gX1_count_X1_countDoubted : GoodIn wsX1_count (wsV RX1 121 RX1 yX1_countDoubted wsX1_countDoubted) := goodIn_app (goodIn_of _ (by decide +kernel)) ggX1_count_X1_countDoubted
set_option maxRecDepth 20000 in
theorem ggX1_isPossible_X1_needCode : GoodIn wsX1_isPossible wsX1_needCode := goodIn_ca (goodIn_r _ [6, 7, 8, 9, 10, 11, 12, 13, 14, 18, 19, 20, 21, 22, 23, 24, 25, 26, 27, 28, 29, 30, 31, 32] (by decide +kernel) (by decide +kernel)) (goodIn_sub (fun _ h => List.mem_cons_of_mem _ (List.mem_append_right _ h)) (by decide +kernel))
set_option maxRecDepth 20000 in
theorem gX1_isPossible_X1_needCode : GoodIn wsX1_isPossible (wsV RX1 64 RX1 yX1_needCode wsX1_needCode) := goodIn_app (goodIn_of _ (by decide +kernel)) ggX1_isPossible_X1_needCode
set_option maxRecDepth 20000 in
theorem ggX1_isPossible_X1_isIn : GoodIn wsX1_isPossible wsX1_isIn := goodIn_r _ [17] (by decide +kernel) (by decide +kernel)
set_option maxRecDepth 20000 in
theorem gX1_isPossible_X1_isIn : GoodIn wsX1_isPossible (va_wsS RX1 126 yX1_isIn wsX1_isIn) := goodIn_app (goodIn_of _ (by decide +kernel)) ggX1_isPossible_X1_isIn
set_option maxRecDepth 20000 in
theorem ggX1_possible_X1_memberAt : GoodIn wsX1_possible wsX1_memberAt := goodIn_r _ [7] (by decide +kernel) (by decide +kernel)
set_option maxRecDepth 20000 in
theorem gX1_possible_X1_memberAt : GoodIn wsX1_possible (va_wsS RX1 130 yX1_memberAt wsX1_memberAt) := goodIn_app (goodIn_of _ (by decide +kernel)) ggX1_possible_X1_memberAt
set_option maxRecDepth 20000 in
theorem ggX1_have_X1_needPlace : GoodIn wsX1_have wsX1_needPlace := goodIn_ca (goodIn_r _ [7, 1, 2] (by decide +kernel) (by decide +kernel)) (goodIn_sub (fun _ h => List.mem_cons_of_mem _ (List.mem_append_right _ h)) (by decide +kernel))
set_option maxRecDepth 20000 in
theorem gX1_have_X1_needPlace : GoodIn wsX1_have (va_wsS RX1 67 yX1_needPlace wsX1_needPlace) := goodIn_app (goodIn_of _ (by decide +kernel)) ggX1_have_X1_needPlace
set_option maxRecDepth 20000 in
theorem ggX1_have_X1_countHaving : GoodIn wsX1_have wsX1_countHaving := goodIn_r _ [11, 12, 3, 13, 14, 15, 16, 17, 18, 19, 20, 21, 22, 23, 24, 25, 26, 27, 28, 29, 30, 31, 32, 33, 34, 35, 36, 37] (by decide +kernel) (by decide +kernel)
set_option maxRecDepth 20000 in
theorem gX1_have_X1_countHaving : GoodIn wsX1_have (wsV RX1 138 RX1 yX1_countHaving wsX1_countHaving) := goodIn_app (goodIn_of _ (by decide +kernel)) ggX1_have_X1_countHaving
set_option maxRecDepth 20000 in
theorem ggX1_sure_X1_needPlace : GoodIn wsX1_sure wsX1_needPlace := goodIn_ca (goodIn_r _ [6, 7, 8] (by decide +kernel) (by decide +kernel)) (goodIn_sub (fun _ h => List.mem_cons_of_mem _ (List.mem_append_right _ h)) (by decide +kernel))
set_option maxRecDepth 20000 in
theorem gX1_sure_X1_needPlace : GoodIn wsX1_sure (va_wsS RX1 67 yX1_needPlace wsX1_needPlace) := goodIn_app (goodIn_of _ (by decide +kernel)) ggX1_sure_X1_needPlace
set_option maxRecDepth 20000 in
theorem ggX1_sure_X1_memberAt : GoodIn wsX1_sure wsX1_memberAt := goodIn_r _ [11] (by decide +kernel) (by decide +kernel)
set_option maxRecDepth 20000 in
theorem gX1_sure_X1_memberAt : GoodIn wsX1_sure (va_wsS RX1 130 yX1_memberAt wsX1_memberAt) := goodIn_app (goodIn_of _ (by decide +kernel)) ggX1_sure_X1_memberAt
set_option maxRecDepth 20000 in
theorem ggX1_sure_X0_colourOf : GoodIn wsX1_sure wsX0_colourOf := goodIn_r _ [15, 16, 17, 18, 19, 13, 20, 21, 40, 41, 42, 43] (by decide +kernel) (by decide +kernel)
set_option maxRecDepth 20000 in
theorem gX1_sure_X0_colourOf_n73 : GoodIn wsX1_sure (wsX0_colourOf) := ggX1_sure_X0_colourOf
set_option maxRecDepth 20000 in
theorem ggX1_sure_X1_countHaving : GoodIn wsX1_sure wsX1_countHaving := goodIn_r _ [25, 1, 2, 12, 13, 14, 15, 16, 17, 18, 19, 20, 21, 29, 30, 31, 32, 33, 34, 35, 36, 37, 38, 39, 40, 41, 42, 43] (by decide +kernel) (by decide +kernel)
set_option maxRecDepth 20000 in
theorem gX1_sure_X1_countHaving : GoodIn wsX1_sure (wsV RX1 138 RX1 yX1_countHaving wsX1_countHaving) := goodIn_app (goodIn_of _ (by decide +kernel)) ggX1_sure_X1_countHaving
set_option maxRecDepth 20000 in
theorem ggX1_sure_X1_size : GoodIn wsX1_sure wsX1_size := goodIn_r _ [28] (by decide +kernel) (by decide +kernel)
set_option maxRecDepth 20000 in
theorem gX1_sure_X1_size : GoodIn wsX1_sure (va_wsS RX1 87 yX1_size wsX1_size) := goodIn_app (goodIn_of _ (by decide +kernel)) ggX1_sure_X1_size
set_option maxRecDepth 20000 in
theorem ggX1_worst_X1_needCode : GoodIn wsX1_worst wsX1_needCode := goodIn_ca (goodIn_r _ [6, 7, 8, 9, 10, 11, 12, 13, 14, 37, 38, 39, 40, 41, 42, 43, 44, 45, 46, 47, 48, 49, 50, 51] (by decide +kernel) (by decide +kernel)) (goodIn_sub (fun _ h => List.mem_cons_of_mem _ (List.mem_append_right _ h)) (by decide +kernel))
set_option maxRecDepth 20000 in
theorem gX1_worst_X1_needCode : GoodIn wsX1_worst (wsV RX1 64 RX1 yX1_needCode wsX1_needCode) := goodIn_app (goodIn_of _ (by decide +kernel)) ggX1_worst_X1_needCode
set_option maxRecDepth 20000 in
theorem ggX1_worst_X1_greatestHeap : GoodIn wsX1_worst wsX1_greatestHeap := goodIn_r _ [18, 19, 20, 21, 22, 23, 24, 25, 26, 5, 27, 9, 28, 29, 30, 31, 32, 11, 33, 34, 35, 36, 10, 12, 13, 14, 37, 38, 39, 40, 41, 42, 43, 44, 45, 46, 47, 48, 49, 50, 51] (by decide +kernel) (by decide +kernel)
set_option maxRecDepth 20000 in
theorem gX1_worst_X1_greatestHeap : GoodIn wsX1_worst (wsV RX1 141 RX1 yX1_greatestHeap wsX1_greatestHeap) := goodIn_app (goodIn_of _ (by decide +kernel)) ggX1_worst_X1_greatestHeap
set_option maxRecDepth 20000 in
theorem ggX1_parts_X1_needCode : GoodIn wsX1_parts wsX1_needCode := goodIn_ca (goodIn_r _ [7, 8, 9, 10, 11, 12, 13, 14, 15, 29, 30, 31, 32, 33, 34, 35, 36, 37, 38, 39, 40, 41, 42, 43] (by decide +kernel) (by decide +kernel)) (goodIn_sub (fun _ h => List.mem_cons_of_mem _ (List.mem_append_right _ h)) (by decide +kernel))
set_option maxRecDepth 20000 in
theorem gX1_parts_X1_needCode : GoodIn wsX1_parts (wsV RX1 64 RX1 yX1_needCode wsX1_needCode) := goodIn_app (goodIn_of _ (by decide +kernel)) ggX1_parts_X1_needCode
set_option maxRecDepth 20000 in
theorem ggX1_parts_X1_heapUp : GoodIn wsX1_parts wsX1_heapUp := goodIn_r _ [19, 2, 10, 20, 21, 22, 23, 24, 12, 25, 26, 27, 28, 11, 13, 14, 15, 29, 30, 31, 32, 33, 34, 35, 36, 37, 38, 39, 40, 41, 42, 43] (by decide +kernel) (by decide +kernel)
set_option maxRecDepth 20000 in
theorem gX1_parts_X1_heapUp : GoodIn wsX1_parts (wsV RX1 145 RX1 yX1_heapUp wsX1_heapUp) := goodIn_app (goodIn_of _ (by decide +kernel)) ggX1_parts_X1_heapUp
set_option maxRecDepth 20000 in
theorem ggX1_best_X1_leastBad : GoodIn wsX1_best wsX1_leastBad := goodIn_r _ [6, 7, 8, 9, 5, 10, 11, 12, 13, 14, 15, 16, 17, 18, 19, 20, 21, 22, 23, 24, 25, 26, 27, 28, 29, 30, 31, 32, 33, 34, 35, 36, 37, 38, 39, 40, 41, 42, 43, 44, 45, 46, 47, 48, 49, 50, 51, 52, 53, 54, 55] (by decide +kernel) (by decide +kernel)
set_option maxRecDepth 20000 in
theorem gX1_best_X1_leastBad : GoodIn wsX1_best (wsV RX1 149 RX1 yX1_leastBad wsX1_leastBad) := goodIn_app (goodIn_of _ (by decide +kernel)) ggX1_best_X1_leastBad
set_option maxRecDepth 20000 in
theorem ggX1_takes_X1_needCode : GoodIn wsX1_takes wsX1_needCode := goodIn_ca (goodIn_r _ [7, 8, 9, 2, 10, 11, 12, 13, 14, 51, 52, 53, 54, 55, 56, 57, 58, 59, 60, 61, 62, 63, 64, 65] (by decide +kernel) (by decide +kernel)) (goodIn_sub (fun _ h => List.mem_cons_of_mem _ (List.mem_append_right _ h)) (by decide +kernel))
set_option maxRecDepth 20000 in
theorem gX1_takes_X1_needCode : GoodIn wsX1_takes (wsV RX1 64 RX1 yX1_needCode wsX1_needCode) := goodIn_app (goodIn_of _ (by decide +kernel)) ggX1_takes_X1_needCode
set_option maxRecDepth 20000 in
theorem ggX1_takes_X0_hasCode : GoodIn wsX1_takes wsX0_hasCode := goodIn_r _ [13, 14, 62, 63, 64, 65] (by decide +kernel) (by decide +kernel)
set_option maxRecDepth 20000 in
theorem gX1_takes_X0_hasCode_n153 : GoodIn wsX1_takes (wsX0_hasCode) := ggX1_takes_X0_hasCode
set_option maxRecDepth 20000 in
theorem ggX1_takes_X0_answerTo : GoodIn wsX1_takes wsX0_answerTo := goodIn_r _ [17, 18, 19, 10, 12, 11, 13, 14, 62, 63, 64, 65] (by decide +kernel) (by decide +kernel)
set_option maxRecDepth 20000 in
theorem gX1_takes_X0_answerTo_n77 : GoodIn wsX1_takes (wsX0_answerTo) := ggX1_takes_X0_answerTo
set_option maxRecDepth 20000 in
theorem ggX1_takes_X1_keepAnswering : GoodIn wsX1_takes wsX1_keepAnswering := goodIn_r _ [23, 2, 15, 11, 16, 17, 18, 19, 10, 12, 13, 14, 51, 52, 53, 54, 55, 56, 57, 58, 59, 60, 61, 62, 63, 64, 65] (by decide +kernel) (by decide +kernel)
set_option maxRecDepth 20000 in
theorem gX1_takes_X1_keepAnswering : GoodIn wsX1_takes (wsV RX1 156 RX1 yX1_keepAnswering wsX1_keepAnswering) := goodIn_app (goodIn_of _ (by decide +kernel)) ggX1_takes_X1_keepAnswering
set_option maxRecDepth 20000 in
theorem ggX1_takes_X1_leastBad : GoodIn wsX1_takes wsX1_leastBad := goodIn_r _ [27, 2, 28, 29, 6, 30, 31, 32, 33, 34, 35, 36, 37, 38, 39, 40, 41, 42, 43, 44, 45, 46, 47, 48, 49, 50, 15, 11, 16, 17, 18, 19, 10, 12, 13, 14, 51, 52, 53, 54, 55, 56, 57, 58, 59, 60, 61, 62, 63, 64, 65] (by decide +kernel) (by decide +kernel)
set_option maxRecDepth 20000 in
theorem gX1_takes_X1_leastBad : GoodIn wsX1_takes (wsV RX1 149 RX1 yX1_leastBad wsX1_leastBad) := goodIn_app (goodIn_of _ (by decide +kernel)) ggX1_takes_X1_leastBad
set_option maxRecDepth 20000 in
theorem ggX1_digest_X1_count : GoodIn wsX1_digest wsX1_count := goodIn_ca (goodIn_r _ [10, 11, 12, 4, 3, 5, 2, 13, 14, 9, 15, 16, 17, 18, 19, 20, 21, 22, 23, 24, 25, 83, 84, 85, 86, 87, 88, 89, 90, 91, 92, 93, 94, 95, 96, 97] (by decide +kernel) (by decide +kernel)) (goodIn_sub (fun _ h => List.mem_cons_of_mem _ (List.mem_append_right _ h)) (by decide +kernel))
set_option maxRecDepth 20000 in
theorem gX1_digest_X1_count : GoodIn wsX1_digest (wsV RX1 162 RX1 yX1_count wsX1_count) := goodIn_app (goodIn_of _ (by decide +kernel)) ggX1_digest_X1_count
set_option maxRecDepth 20000 in
theorem ggX1_digest_X1_mix : GoodIn wsX1_digest wsX1_mix := goodIn_r _ [28, 29] (by decide +kernel) (by decide +kernel)
set_option maxRecDepth 20000 in
theorem gX1_digest_X1_mix : GoodIn wsX1_digest (va_wsS RX1 165 yX1_mix wsX1_mix) := goodIn_app (goodIn_of _ (by decide +kernel)) ggX1_digest_X1_mix
set_option maxRecDepth 20000 in
theorem ggX1_digest_X1_told : GoodIn wsX1_digest wsX1_told := goodIn_ca (goodIn_r _ [33, 11, 12, 34, 20, 25, 35, 36, 37, 9, 38, 3, 39, 40, 41, 42, 4, 43, 44, 45, 46, 47, 48, 49, 50, 51, 52, 53, 54, 55, 56, 57, 58, 59, 60, 83, 84, 85, 86, 87, 88, 89, 90, 91, 92, 93, 94, 95, 96, 97] (by decide +kernel) (by decide +kernel)) (goodIn_sub (fun _ h => List.mem_cons_of_mem _ (List.mem_append_right _ h)) (by decide +kernel))
set_option maxRecDepth 20000 in
theorem gX1_digest_X1_told : GoodIn wsX1_digest (wsV RX1 169 RX1 yX1_told wsX1_told) := goodIn_app (goodIn_of _ (by decide +kernel)) ggX1_digest_X1_told
set_option maxRecDepth 20000 in
theorem ggX1_digest_X1_sure : GoodIn wsX1_digest wsX1_sure := goodIn_ca (goodIn_r _ [64, 5, 4, 65, 66, 9, 67, 11, 12, 68, 69, 70, 71, 48, 72, 73, 74, 52, 53, 54, 55, 56, 75, 76, 77, 78, 13, 14, 15, 83, 84, 85, 86, 87, 88, 89, 90, 91, 92, 93, 94, 95, 96, 97] (by decide +kernel) (by decide +kernel)) (goodIn_sub (fun _ h => List.mem_cons_of_mem _ (List.mem_append_right _ h)) (by decide +kernel))
set_option maxRecDepth 20000 in
theorem gX1_digest_X1_sure : GoodIn wsX1_digest (wsV RX1 172 RX1 yX1_sure wsX1_sure) := goodIn_app (goodIn_of _ (by decide +kernel)) ggX1_digest_X1_sure
set_option maxRecDepth 20000 in
theorem ggX1_digest_X1_have : GoodIn wsX1_digest wsX1_have := goodIn_ca (goodIn_r _ [82, 11, 12, 4, 65, 66, 9, 67, 75, 76, 77, 78, 5, 71, 48, 72, 73, 74, 52, 53, 54, 55, 56, 83, 84, 85, 86, 87, 88, 89, 90, 91, 92, 93, 94, 95, 96, 97] (by decide +kernel) (by decide +kernel)) (goodIn_sub (fun _ h => List.mem_cons_of_mem _ (List.mem_append_right _ h)) (by decide +kernel))
set_option maxRecDepth 20000 in
theorem gX1_digest_X1_have : GoodIn wsX1_digest (wsV RX1 175 RX1 yX1_have wsX1_have) := goodIn_app (goodIn_of _ (by decide +kernel)) ggX1_digest_X1_have
set_option maxRecDepth 20000 in
theorem ggX1_needCode_X0_hasCode : GoodIn wsX1_needCode wsX0_hasCode := goodIn_r _ [7, 8, 20, 21, 22, 23] (by decide +kernel) (by decide +kernel)
set_option maxRecDepth 20000 in
theorem gX1_needCode_X0_hasCode_n153 : GoodIn wsX1_needCode (wsX0_hasCode) := ggX1_needCode_X0_hasCode
set_option maxRecDepth 20000 in
theorem ggX1_append_X1_sieve : GoodIn wsX1_append wsX1_sieve := goodIn_r _ [11, 12, 13, 3, 14, 15, 16, 17, 18, 19, 20, 21, 10, 22, 6, 4, 5, 23, 24, 25, 26, 27, 28, 29, 30, 31, 32, 33, 34, 35, 36, 37, 38, 39, 40, 41, 42] (by decide +kernel) (by decide +kernel)
set_option maxRecDepth 20000 in
theorem gX1_append_X1_sieve : GoodIn wsX1_append (wsV RX1 51 RX1 yX1_sieve wsX1_sieve) := goodIn_app (goodIn_of _ (by decide +kernel)) ggX1_append_X1_sieve
set_option maxRecDepth 20000 in
theorem ggX1_sieve_X0_hasCode : GoodIn wsX1_sieve wsX0_hasCode := goodIn_r _ [7, 8, 33, 34, 35, 36] (by decide +kernel) (by decide +kernel)
set_option maxRecDepth 20000 in
theorem gX1_sieve_X0_hasCode_n153 : GoodIn wsX1_sieve (wsX0_hasCode) := ggX1_sieve_X0_hasCode
set_option maxRecDepth 20000 in
theorem ggX1_sieve_X1_fits : GoodIn wsX1_sieve wsX1_fits := goodIn_r _ [13, 14, 2, 15, 16, 17, 5, 18, 19, 20, 21, 4, 6, 7, 8, 22, 23, 24, 25, 26, 27, 28, 29, 30, 31, 32, 33, 34, 35, 36] (by decide +kernel) (by decide +kernel)
set_option maxRecDepth 20000 in
theorem gX1_sieve_X1_fits : GoodIn wsX1_sieve (wsV RX1 192 RX1 yX1_fits wsX1_fits) := goodIn_app (goodIn_of _ (by decide +kernel)) ggX1_sieve_X1_fits
set_option maxRecDepth 20000 in
theorem ggX1_fits_X0_answerTo : GoodIn wsX1_fits wsX0_answerTo := goodIn_r _ [8, 9, 10, 11, 12, 6, 13, 14, 26, 27, 28, 29] (by decide +kernel) (by decide +kernel)
set_option maxRecDepth 20000 in
theorem gX1_fits_X0_answerTo_n77 : GoodIn wsX1_fits (wsX0_answerTo) := ggX1_fits_X0_answerTo
set_option maxRecDepth 20000 in
theorem ggX1_countFitting_X1_fits : GoodIn wsX1_countFitting wsX1_fits := goodIn_r _ [6, 7, 1, 8, 9, 10, 11, 12, 13, 14, 15, 16, 17, 18, 19, 20, 21, 22, 23, 24, 25, 26, 27, 28, 29, 30, 31, 32, 33, 34] (by decide +kernel) (by decide +kernel)
set_option maxRecDepth 20000 in
theorem gX1_countFitting_X1_fits : GoodIn wsX1_countFitting (wsV RX1 192 RX1 yX1_fits wsX1_fits) := goodIn_app (goodIn_of _ (by decide +kernel)) ggX1_countFitting_X1_fits
set_option maxRecDepth 20000 in
theorem ggX1_countAnswering_X0_answerTo : GoodIn wsX1_countAnswering wsX0_answerTo := goodIn_r _ [5, 6, 7, 8, 9, 3, 10, 11, 23, 24, 25, 26] (by decide +kernel) (by decide +kernel)
set_option maxRecDepth 20000 in
theorem gX1_countAnswering_X0_answerTo_n77 : GoodIn wsX1_countAnswering (wsX0_answerTo) := ggX1_countAnswering_X0_answerTo
set_option maxRecDepth 20000 in
theorem ggX1_countHaving_X0_colourOf : GoodIn wsX1_countHaving wsX0_colourOf := goodIn_r _ [6, 7, 8, 9, 10, 4, 11, 12, 24, 25, 26, 27] (by decide +kernel) (by decide +kernel)
set_option maxRecDepth 20000 in
theorem gX1_countHaving_X0_colourOf_n73 : GoodIn wsX1_countHaving (wsX0_colourOf) := ggX1_countHaving_X0_colourOf
set_option maxRecDepth 20000 in
theorem ggX1_keepAnswering_X0_answerTo : GoodIn wsX1_keepAnswering wsX0_answerTo := goodIn_r _ [5, 6, 7, 8, 9, 3, 10, 11, 23, 24, 25, 26] (by decide +kernel) (by decide +kernel)
set_option maxRecDepth 20000 in
theorem gX1_keepAnswering_X0_answerTo_n77 : GoodIn wsX1_keepAnswering (wsX0_answerTo) := ggX1_keepAnswering_X0_answerTo
set_option maxRecDepth 20000 in
theorem ggX1_heapUp_J7_fill_53178 : GoodIn wsX1_heapUp wsJ7_fill_53178 := goodIn_r _ [6] (by decide +kernel) (by decide +kernel)
set_option maxRecDepth 20000 in
theorem gX1_heapUp_J7_fill_53178 : GoodIn wsX1_heapUp (va_wsS RX1 196 yJ7_fill_53178 wsJ7_fill_53178) := goodIn_app (goodIn_of _ (by decide +kernel)) ggX1_heapUp_J7_fill_53178
set_option maxRecDepth 20000 in
theorem ggX1_heapUp_X0_answerTo : GoodIn wsX1_heapUp wsX0_answerTo := goodIn_r _ [10, 11, 12, 13, 14, 8, 15, 16, 28, 29, 30, 31] (by decide +kernel) (by decide +kernel)
set_option maxRecDepth 20000 in
theorem gX1_heapUp_X0_answerTo_n77 : GoodIn wsX1_heapUp (wsX0_answerTo) := ggX1_heapUp_X0_answerTo
set_option maxRecDepth 20000 in
theorem ggX1_greatestHeap_X1_heapUp : GoodIn wsX1_greatestHeap wsX1_heapUp := goodIn_r _ [10, 1, 11, 12, 13, 14, 15, 16, 17, 18, 19, 20, 21, 22, 23, 24, 25, 26, 27, 28, 29, 30, 31, 32, 33, 34, 35, 36, 37, 38, 39, 40] (by decide +kernel) (by decide +kernel)
set_option maxRecDepth 20000 in
theorem gX1_greatestHeap_X1_heapUp : GoodIn wsX1_greatestHeap (wsV RX1 145 RX1 yX1_heapUp wsX1_heapUp) := goodIn_app (goodIn_of _ (by decide +kernel)) ggX1_greatestHeap_X1_heapUp
set_option maxRecDepth 20000 in
theorem ggX1_leastBad_X1_size : GoodIn wsX1_leastBad wsX1_size := goodIn_r _ [5] (by decide +kernel) (by decide +kernel)
set_option maxRecDepth 20000 in
theorem gX1_leastBad_X1_size : GoodIn wsX1_leastBad (va_wsS RX1 87 yX1_size wsX1_size) := goodIn_app (goodIn_of _ (by decide +kernel)) ggX1_leastBad_X1_size
set_option maxRecDepth 20000 in
theorem ggX1_leastBad_X1_isIn : GoodIn wsX1_leastBad wsX1_isIn := goodIn_r _ [8] (by decide +kernel) (by decide +kernel)
set_option maxRecDepth 20000 in
theorem gX1_leastBad_X1_isIn : GoodIn wsX1_leastBad (va_wsS RX1 126 yX1_isIn wsX1_isIn) := goodIn_app (goodIn_of _ (by decide +kernel)) ggX1_leastBad_X1_isIn
set_option maxRecDepth 20000 in
theorem ggX1_leastBad_X1_greatestHeap : GoodIn wsX1_leastBad wsX1_greatestHeap := goodIn_r _ [12, 13, 14, 15, 16, 17, 18, 19, 20, 4, 21, 1, 22, 23, 24, 25, 26, 27, 28, 29, 30, 31, 32, 33, 34, 35, 36, 37, 38, 39, 40, 41, 42, 43, 44, 45, 46, 47, 48, 49, 50] (by decide +kernel) (by decide +kernel)
set_option maxRecDepth 20000 in
theorem gX1_leastBad_X1_greatestHeap : GoodIn wsX1_leastBad (wsV RX1 141 RX1 yX1_greatestHeap wsX1_greatestHeap) := goodIn_app (goodIn_of _ (by decide +kernel)) ggX1_leastBad_X1_greatestHeap

set_option maxRecDepth 20000 in
theorem ggX2_isCode_X2_codes : GoodIn wsX2_isCode wsX2_codes := goodIn_r _ [5, 6, 10, 11, 12, 13, 14, 15, 16, 17, 18, 19, 20, 21] (by decide +kernel) (by decide +kernel)
set_option maxRecDepth 20000 in
theorem gX2_isCode_X2_codes : GoodIn wsX2_isCode (wsV RX2 41 RX2 yX2_codes wsX2_codes) := goodIn_app (goodIn_of _ (by decide +kernel)) ggX2_isCode_X2_codes
set_option maxRecDepth 20000 in
theorem ggX2_isCode_X2_isIn : GoodIn wsX2_isCode wsX2_isIn := goodIn_r _ [9] (by decide +kernel) (by decide +kernel)
set_option maxRecDepth 20000 in
theorem gX2_isCode_X2_isIn : GoodIn wsX2_isCode (va_wsS RX2 45 yX2_isIn wsX2_isIn) := goodIn_app (goodIn_of _ (by decide +kernel)) ggX2_isCode_X2_isIn
set_option maxRecDepth 20000 in
theorem ggX2_isGuess_X2_isIn : GoodIn wsX2_isGuess wsX2_isIn := goodIn_r _ [5] (by decide +kernel) (by decide +kernel)
set_option maxRecDepth 20000 in
theorem gX2_isGuess_X2_isIn : GoodIn wsX2_isGuess (va_wsS RX2 45 yX2_isIn wsX2_isIn) := goodIn_app (goodIn_of _ (by decide +kernel)) ggX2_isGuess_X2_isIn
set_option maxRecDepth 20000 in
theorem ggX2_isPlace_X2_isIn : GoodIn wsX2_isPlace wsX2_isIn := goodIn_r _ [4] (by decide +kernel) (by decide +kernel)
set_option maxRecDepth 20000 in
theorem gX2_isPlace_X2_isIn : GoodIn wsX2_isPlace (va_wsS RX2 45 yX2_isIn wsX2_isIn) := goodIn_app (goodIn_of _ (by decide +kernel)) ggX2_isPlace_X2_isIn
set_option maxRecDepth 20000 in
theorem ggX2_at_X2_weight : GoodIn wsX2_at wsX2_weight := goodIn_r _ [6, 1, 7, 8, 9, 10, 11, 12, 13, 14, 15, 16, 17, 18] (by decide +kernel) (by decide +kernel)
set_option maxRecDepth 20000 in
theorem gX2_at_X2_weight : GoodIn wsX2_at (wsV RX2 52 RX2 yX2_weight wsX2_weight) := goodIn_app (goodIn_of _ (by decide +kernel)) ggX2_at_X2_weight
set_option maxRecDepth 20000 in
theorem ggX2_answerTo_X2_at : GoodIn wsX2_answerTo wsX2_at := goodIn_r _ [12, 1, 13, 14, 15, 11, 16, 17, 18, 19, 20, 21, 22, 23, 24, 25, 26, 27, 28] (by decide +kernel) (by decide +kernel)
set_option maxRecDepth 20000 in
theorem gX2_answerTo_X2_at : GoodIn wsX2_answerTo (wsV RX2 56 RX2 yX2_at wsX2_at) := goodIn_app (goodIn_of _ (by decide +kernel)) ggX2_answerTo_X2_at
set_option maxRecDepth 20000 in
theorem ggX2_fits_X2_answerTo : GoodIn wsX2_fits wsX2_answerTo := goodIn_r _ [8, 9, 10, 11, 12, 13, 14, 15, 16, 17, 18, 7, 19, 20, 21, 22, 23, 24, 25, 26, 27, 28, 29, 30, 31, 32, 33, 34, 35] (by decide +kernel) (by decide +kernel)
set_option maxRecDepth 20000 in
theorem gX2_fits_X2_answerTo : GoodIn wsX2_fits (wsV RX2 65 RX2 yX2_answerTo wsX2_answerTo) := goodIn_app (goodIn_of _ (by decide +kernel)) ggX2_fits_X2_answerTo
set_option maxRecDepth 20000 in
theorem ggX2_look_X2_codes : GoodIn wsX2_look wsX2_codes := goodIn_r _ [7, 8, 34, 35, 36, 37, 38, 39, 40, 41, 42, 43, 44, 45] (by decide +kernel) (by decide +kernel)
set_option maxRecDepth 20000 in
theorem gX2_look_X2_codes : GoodIn wsX2_look (wsV RX2 41 RX2 yX2_codes wsX2_codes) := goodIn_app (goodIn_of _ (by decide +kernel)) ggX2_look_X2_codes
set_option maxRecDepth 20000 in
theorem ggX2_look_X2_fits : GoodIn wsX2_look wsX2_fits := goodIn_r _ [12, 13, 14, 15, 16, 17, 18, 6, 19, 8, 20, 21, 22, 23, 24, 25, 26, 27, 28, 29, 30, 31, 32, 33, 34, 35, 36, 37, 38, 39, 40, 41, 42, 43, 44, 45] (by decide +kernel) (by decide +kernel)
set_option maxRecDepth 20000 in
theorem gX2_look_X2_fits : GoodIn wsX2_look (wsV RX2 71 RX2 yX2_fits wsX2_fits) := goodIn_app (goodIn_of _ (by decide +kernel)) ggX2_look_X2_fits
set_option maxRecDepth 20000 in
theorem ggX2_pile_X2_answerTo : GoodIn wsX2_pile wsX2_answerTo := goodIn_r _ [8, 9, 10, 11, 12, 13, 14, 15, 16, 17, 18, 7, 19, 20, 21, 22, 23, 24, 25, 26, 27, 28, 29, 30, 31, 32, 33, 34, 35] (by decide +kernel) (by decide +kernel)
set_option maxRecDepth 20000 in
theorem gX2_pile_X2_answerTo : GoodIn wsX2_pile (wsV RX2 65 RX2 yX2_answerTo wsX2_answerTo) := goodIn_app (goodIn_of _ (by decide +kernel)) ggX2_pile_X2_answerTo
set_option maxRecDepth 20000 in
theorem ggX2_greatest_X2_pile : GoodIn wsX2_greatest wsX2_pile := goodIn_r _ [10, 1, 11, 12, 13, 14, 15, 9, 16, 17, 18, 19, 20, 21, 4, 22, 23, 24, 25, 26, 27, 28, 29, 30, 31, 32, 33, 34, 35, 36, 37, 38, 39, 40, 41, 42] (by decide +kernel) (by decide +kernel)
set_option maxRecDepth 20000 in
theorem gX2_greatest_X2_pile : GoodIn wsX2_greatest (wsV RX2 75 RX2 yX2_pile wsX2_pile) := goodIn_app (goodIn_of _ (by decide +kernel)) ggX2_greatest_X2_pile
set_option maxRecDepth 20000 in
theorem ggX2_heaps_X2_pile : GoodIn wsX2_heaps wsX2_pile := goodIn_r _ [6, 1, 7, 8, 9, 10, 11, 5, 12, 13, 14, 15, 16, 17, 18, 19, 20, 21, 22, 23, 24, 25, 26, 27, 28, 29, 30, 31, 32, 33, 34, 35, 36, 37, 38, 39] (by decide +kernel) (by decide +kernel)
set_option maxRecDepth 20000 in
theorem gX2_heaps_X2_pile : GoodIn wsX2_heaps (wsV RX2 75 RX2 yX2_pile wsX2_pile) := goodIn_app (goodIn_of _ (by decide +kernel)) ggX2_heaps_X2_pile
set_option maxRecDepth 20000 in
theorem ggX2_setColours_X2_isIn : GoodIn wsX2_setColours wsX2_isIn := goodIn_r _ [8] (by decide +kernel) (by decide +kernel)
set_option maxRecDepth 20000 in
theorem gX2_setColours_X2_isIn : GoodIn wsX2_setColours (va_wsS RX2 45 yX2_isIn wsX2_isIn) := goodIn_app (goodIn_of _ (by decide +kernel)) ggX2_setColours_X2_isIn
set_option maxRecDepth 20000 in
theorem ggX2_setColours_X2_no : GoodIn wsX2_setColours wsX2_no := goodIn_r _ [12, 1, 13, 14, 15, 16, 17, 18, 19, 20, 21, 22, 23, 24] (by decide +kernel) (by decide +kernel)
set_option maxRecDepth 20000 in
theorem gX2_setColours_X2_no : GoodIn wsX2_setColours (wsV RX2 82 RX2 yX2_no wsX2_no) := goodIn_app (goodIn_of _ (by decide +kernel)) ggX2_setColours_X2_no
set_option maxRecDepth 20000 in
theorem ggX2_hide_X2_isCode : GoodIn wsX2_hide wsX2_isCode := goodIn_r _ [7, 8, 9, 10, 6, 11, 12, 13, 14, 15, 20, 21, 22, 23, 24, 25, 26, 27, 28, 29, 30, 31] (by decide +kernel) (by decide +kernel)
set_option maxRecDepth 20000 in
theorem gX2_hide_X2_isCode : GoodIn wsX2_hide (wsV RX2 85 RX2 yX2_isCode wsX2_isCode) := goodIn_app (goodIn_of _ (by decide +kernel)) ggX2_hide_X2_isCode
set_option maxRecDepth 20000 in
theorem ggX2_hide_X2_no : GoodIn wsX2_hide wsX2_no := goodIn_r _ [19, 1, 20, 21, 22, 23, 24, 25, 26, 27, 28, 29, 30, 31] (by decide +kernel) (by decide +kernel)
set_option maxRecDepth 20000 in
theorem gX2_hide_X2_no : GoodIn wsX2_hide (wsV RX2 82 RX2 yX2_no wsX2_no) := goodIn_app (goodIn_of _ (by decide +kernel)) ggX2_hide_X2_no
set_option maxRecDepth 20000 in
theorem ggX2_swap_X2_isPlace : GoodIn wsX2_swap wsX2_isPlace := goodIn_r _ [6, 7, 8, 5, 9] (by decide +kernel) (by decide +kernel)
set_option maxRecDepth 20000 in
theorem gX2_swap_X2_isPlace : GoodIn wsX2_swap (va_wsS RX2 89 yX2_isPlace wsX2_isPlace) := goodIn_app (goodIn_of _ (by decide +kernel)) ggX2_swap_X2_isPlace
set_option maxRecDepth 20000 in
theorem ggX2_swap_X2_no : GoodIn wsX2_swap wsX2_no := goodIn_r _ [13, 1, 23, 24, 25, 26, 27, 28, 29, 30, 31, 32, 33, 34] (by decide +kernel) (by decide +kernel)
set_option maxRecDepth 20000 in
theorem gX2_swap_X2_no : GoodIn wsX2_swap (wsV RX2 82 RX2 yX2_no wsX2_no) := goodIn_app (goodIn_of _ (by decide +kernel)) ggX2_swap_X2_no
set_option maxRecDepth 20000 in
theorem ggX2_swap_X2_at : GoodIn wsX2_swap wsX2_at := goodIn_r _ [17, 18, 19, 20, 21, 5, 22, 23, 24, 25, 26, 27, 28, 29, 30, 31, 32, 33, 34] (by decide +kernel) (by decide +kernel)
set_option maxRecDepth 20000 in
theorem gX2_swap_X2_at : GoodIn wsX2_swap (wsV RX2 56 RX2 yX2_at wsX2_at) := goodIn_app (goodIn_of _ (by decide +kernel)) ggX2_swap_X2_at
set_option maxRecDepth 20000 in
theorem ggX2_swap_X2_weight : GoodIn wsX2_swap wsX2_weight := goodIn_r _ [22, 18, 23, 24, 25, 26, 27, 28, 29, 30, 31, 32, 33, 34] (by decide +kernel) (by decide +kernel)
set_option maxRecDepth 20000 in
theorem gX2_swap_X2_weight : GoodIn wsX2_swap (wsV RX2 52 RX2 yX2_weight wsX2_weight) := goodIn_app (goodIn_of _ (by decide +kernel)) ggX2_swap_X2_weight
set_option maxRecDepth 20000 in
theorem ggX2_guess_X2_isCode : GoodIn wsX2_guess wsX2_isCode := goodIn_r _ [9, 10, 11, 12, 8, 13, 14, 15, 16, 17, 46, 47, 48, 49, 50, 51, 52, 53, 54, 55, 56, 57] (by decide +kernel) (by decide +kernel)
set_option maxRecDepth 20000 in
theorem gX2_guess_X2_isCode : GoodIn wsX2_guess (wsV RX2 85 RX2 yX2_isCode wsX2_isCode) := goodIn_app (goodIn_of _ (by decide +kernel)) ggX2_guess_X2_isCode
set_option maxRecDepth 20000 in
theorem ggX2_guess_X2_no : GoodIn wsX2_guess wsX2_no := goodIn_r _ [21, 1, 46, 47, 48, 49, 50, 51, 52, 53, 54, 55, 56, 57] (by decide +kernel) (by decide +kernel)
set_option maxRecDepth 20000 in
theorem gX2_guess_X2_no : GoodIn wsX2_guess (wsV RX2 82 RX2 yX2_no wsX2_no) := goodIn_app (goodIn_of _ (by decide +kernel)) ggX2_guess_X2_no
set_option maxRecDepth 20000 in
theorem ggX2_guess_X2_answerTo : GoodIn wsX2_guess wsX2_answerTo := goodIn_r _ [25, 14, 26, 27, 28, 29, 30, 31, 32, 33, 34, 8, 35, 36, 37, 38, 39, 46, 47, 48, 49, 50, 51, 52, 53, 54, 55, 56, 57] (by decide +kernel) (by decide +kernel)
set_option maxRecDepth 20000 in
theorem gX2_guess_X2_answerTo : GoodIn wsX2_guess (wsV RX2 65 RX2 yX2_answerTo wsX2_answerTo) := goodIn_app (goodIn_of _ (by decide +kernel)) ggX2_guess_X2_answerTo
set_option maxRecDepth 20000 in
theorem ggX2_guess_X2_note : GoodIn wsX2_guess wsX2_note := goodIn_r _ [43, 44, 3, 4, 45, 46, 47, 48, 49, 50, 51, 52, 53, 54, 55, 56, 57] (by decide +kernel) (by decide +kernel)
set_option maxRecDepth 20000 in
theorem gX2_guess_X2_note : GoodIn wsX2_guess (wsV RX2 92 RX2 yX2_note wsX2_note) := goodIn_app (goodIn_of _ (by decide +kernel)) ggX2_guess_X2_note
set_option maxRecDepth 20000 in
theorem ggX2_tell_X2_isCode : GoodIn wsX2_tell wsX2_isCode := goodIn_r _ [7, 8, 9, 10, 6, 11, 12, 13, 14, 15, 55, 56, 57, 58, 59, 60, 61, 62, 63, 64, 65, 66] (by decide +kernel) (by decide +kernel)
set_option maxRecDepth 20000 in
theorem gX2_tell_X2_isCode : GoodIn wsX2_tell (wsV RX2 85 RX2 yX2_isCode wsX2_isCode) := goodIn_app (goodIn_of _ (by decide +kernel)) ggX2_tell_X2_isCode
set_option maxRecDepth 20000 in
theorem ggX2_tell_X2_no : GoodIn wsX2_tell wsX2_no := goodIn_r _ [19, 1, 55, 56, 57, 58, 59, 60, 61, 62, 63, 64, 65, 66] (by decide +kernel) (by decide +kernel)
set_option maxRecDepth 20000 in
theorem gX2_tell_X2_no : GoodIn wsX2_tell (wsV RX2 82 RX2 yX2_no wsX2_no) := goodIn_app (goodIn_of _ (by decide +kernel)) ggX2_tell_X2_no
set_option maxRecDepth 20000 in
theorem ggX2_tell_X2_isIn : GoodIn wsX2_tell wsX2_isIn := goodIn_r _ [15] (by decide +kernel) (by decide +kernel)
set_option maxRecDepth 20000 in
theorem gX2_tell_X2_isIn : GoodIn wsX2_tell (va_wsS RX2 45 yX2_isIn wsX2_isIn) := goodIn_app (goodIn_of _ (by decide +kernel)) ggX2_tell_X2_isIn
set_option maxRecDepth 20000 in
theorem ggX2_tell_X2_note : GoodIn wsX2_tell wsX2_note := goodIn_r _ [23, 24, 2, 25, 26, 55, 56, 57, 58, 59, 60, 61, 62, 63, 64, 65, 66] (by decide +kernel) (by decide +kernel)
set_option maxRecDepth 20000 in
theorem gX2_tell_X2_note : GoodIn wsX2_tell (wsV RX2 92 RX2 yX2_note wsX2_note) := goodIn_app (goodIn_of _ (by decide +kernel)) ggX2_tell_X2_note
set_option maxRecDepth 20000 in
theorem ggX2_tell_X2_look : GoodIn wsX2_tell wsX2_look := goodIn_r _ [30, 31, 32, 8, 9, 10, 6, 11, 12, 33, 34, 35, 36, 26, 24, 25, 37, 38, 39, 40, 41, 42, 43, 44, 45, 46, 47, 48, 49, 50, 51, 52, 53, 54, 55, 56, 57, 58, 59, 60, 61, 62, 63, 64, 65, 66] (by decide +kernel) (by decide +kernel)
set_option maxRecDepth 20000 in
theorem gX2_tell_X2_look : GoodIn wsX2_tell (wsV RX2 96 RX2 yX2_look wsX2_look) := goodIn_app (goodIn_of _ (by decide +kernel)) ggX2_tell_X2_look
set_option maxRecDepth 20000 in
theorem ggX2_doubt_X2_isGuess : GoodIn wsX2_doubt wsX2_isGuess := goodIn_r _ [7, 8, 9, 10, 6, 11, 12, 13, 14, 15, 16, 17, 18, 19, 20, 21, 22, 23] (by decide +kernel) (by decide +kernel)
set_option maxRecDepth 20000 in
theorem gX2_doubt_X2_isGuess : GoodIn wsX2_doubt (wsV RX2 99 RX2 yX2_isGuess wsX2_isGuess) := goodIn_app (goodIn_of _ (by decide +kernel)) ggX2_doubt_X2_isGuess
set_option maxRecDepth 20000 in
theorem ggX2_forget_X2_no : GoodIn wsX2_forget wsX2_no := goodIn_r _ [8, 1, 9, 10, 11, 12, 13, 14, 15, 16, 17, 18, 19, 20] (by decide +kernel) (by decide +kernel)
set_option maxRecDepth 20000 in
theorem gX2_forget_X2_no : GoodIn wsX2_forget (wsV RX2 82 RX2 yX2_no wsX2_no) := goodIn_app (goodIn_of _ (by decide +kernel)) ggX2_forget_X2_no
set_option maxRecDepth 20000 in
theorem ggX2_colour_X2_isCode : GoodIn wsX2_colour wsX2_isCode := goodIn_r _ [6, 7, 8, 9, 5, 10, 11, 12, 13, 14, 30, 31, 32, 33, 34, 35, 36, 37, 38, 39, 40, 41] (by decide +kernel) (by decide +kernel)
set_option maxRecDepth 20000 in
theorem gX2_colour_X2_isCode : GoodIn wsX2_colour (wsV RX2 85 RX2 yX2_isCode wsX2_isCode) := goodIn_app (goodIn_of _ (by decide +kernel)) ggX2_colour_X2_isCode
set_option maxRecDepth 20000 in
theorem ggX2_colour_X2_isPlace : GoodIn wsX2_colour wsX2_isPlace := goodIn_r _ [17, 12, 13, 5, 14] (by decide +kernel) (by decide +kernel)
set_option maxRecDepth 20000 in
theorem gX2_colour_X2_isPlace : GoodIn wsX2_colour (va_wsS RX2 89 yX2_isPlace wsX2_isPlace) := goodIn_app (goodIn_of _ (by decide +kernel)) ggX2_colour_X2_isPlace
set_option maxRecDepth 20000 in
theorem ggX2_colour_X2_at : GoodIn wsX2_colour wsX2_at := goodIn_r _ [21, 11, 22, 23, 24, 5, 25, 30, 31, 32, 33, 34, 35, 36, 37, 38, 39, 40, 41] (by decide +kernel) (by decide +kernel)
set_option maxRecDepth 20000 in
theorem gX2_colour_X2_at : GoodIn wsX2_colour (wsV RX2 56 RX2 yX2_at wsX2_at) := goodIn_app (goodIn_of _ (by decide +kernel)) ggX2_colour_X2_at
set_option maxRecDepth 20000 in
theorem ggX2_colour_X2_no : GoodIn wsX2_colour wsX2_no := goodIn_r _ [29, 1, 30, 31, 32, 33, 34, 35, 36, 37, 38, 39, 40, 41] (by decide +kernel) (by decide +kernel)
set_option maxRecDepth 20000 in
theorem gX2_colour_X2_no : GoodIn wsX2_colour (wsV RX2 82 RX2 yX2_no wsX2_no) := goodIn_app (goodIn_of _ (by decide +kernel)) ggX2_colour_X2_no
set_option maxRecDepth 20000 in
theorem ggX2_pins_X2_isCode : GoodIn wsX2_pins wsX2_isCode := goodIn_r _ [6, 7, 8, 9, 5, 10, 11, 12, 13, 14, 37, 38, 39, 40, 41, 42, 43, 44, 45, 46, 47, 48] (by decide +kernel) (by decide +kernel)
set_option maxRecDepth 20000 in
theorem gX2_pins_X2_isCode : GoodIn wsX2_pins (wsV RX2 85 RX2 yX2_isCode wsX2_isCode) := goodIn_app (goodIn_of _ (by decide +kernel)) ggX2_pins_X2_isCode
set_option maxRecDepth 20000 in
theorem ggX2_pins_X2_answerTo : GoodIn wsX2_pins wsX2_answerTo := goodIn_r _ [18, 11, 19, 20, 21, 22, 23, 24, 25, 26, 27, 5, 28, 29, 30, 31, 32, 37, 38, 39, 40, 41, 42, 43, 44, 45, 46, 47, 48] (by decide +kernel) (by decide +kernel)
set_option maxRecDepth 20000 in
theorem gX2_pins_X2_answerTo : GoodIn wsX2_pins (wsV RX2 65 RX2 yX2_answerTo wsX2_answerTo) := goodIn_app (goodIn_of _ (by decide +kernel)) ggX2_pins_X2_answerTo
set_option maxRecDepth 20000 in
theorem ggX2_pins_X2_no : GoodIn wsX2_pins wsX2_no := goodIn_r _ [36, 1, 37, 38, 39, 40, 41, 42, 43, 44, 45, 46, 47, 48] (by decide +kernel) (by decide +kernel)
set_option maxRecDepth 20000 in
theorem gX2_pins_X2_no : GoodIn wsX2_pins (wsV RX2 82 RX2 yX2_no wsX2_no) := goodIn_app (goodIn_of _ (by decide +kernel)) ggX2_pins_X2_no
set_option maxRecDepth 20000 in
theorem ggX2_alike_X2_codes : GoodIn wsX2_alike wsX2_codes := goodIn_r _ [7, 8, 27, 28, 29, 30, 31, 32, 33, 34, 35, 36, 37, 38] (by decide +kernel) (by decide +kernel)
set_option maxRecDepth 20000 in
theorem gX2_alike_X2_codes : GoodIn wsX2_alike (wsV RX2 41 RX2 yX2_codes wsX2_codes) := goodIn_app (goodIn_of _ (by decide +kernel)) ggX2_alike_X2_codes
set_option maxRecDepth 20000 in
theorem ggX2_alike_X2_answerTo : GoodIn wsX2_alike wsX2_answerTo := goodIn_r _ [12, 8, 13, 14, 15, 16, 17, 18, 19, 20, 21, 6, 22, 23, 24, 25, 26, 27, 28, 29, 30, 31, 32, 33, 34, 35, 36, 37, 38] (by decide +kernel) (by decide +kernel)
set_option maxRecDepth 20000 in
theorem gX2_alike_X2_answerTo : GoodIn wsX2_alike (wsV RX2 65 RX2 yX2_answerTo wsX2_answerTo) := goodIn_app (goodIn_of _ (by decide +kernel)) ggX2_alike_X2_answerTo
set_option maxRecDepth 20000 in
theorem ggX2_guessTold_X2_look : GoodIn wsX2_guessTold wsX2_look := goodIn_r _ [8, 9, 10, 11, 12, 13, 7, 14, 15, 16, 17, 18, 19, 3, 1, 2, 20, 21, 22, 23, 24, 25, 26, 27, 28, 29, 30, 31, 32, 33, 34, 35, 36, 37, 42, 43, 44, 45, 46, 47, 48, 49, 50, 51, 52, 53] (by decide +kernel) (by decide +kernel)
set_option maxRecDepth 20000 in
theorem gX2_guessTold_X2_look : GoodIn wsX2_guessTold (wsV RX2 96 RX2 yX2_look wsX2_look) := goodIn_app (goodIn_of _ (by decide +kernel)) ggX2_guessTold_X2_look
set_option maxRecDepth 20000 in
theorem ggX2_guessTold_X2_alike : GoodIn wsX2_guessTold wsX2_alike := goodIn_r _ [41, 1, 2, 11, 12, 13, 7, 14, 15, 20, 21, 22, 23, 24, 25, 26, 27, 28, 29, 30, 31, 32, 33, 34, 35, 36, 37, 42, 43, 44, 45, 46, 47, 48, 49, 50, 51, 52, 53] (by decide +kernel) (by decide +kernel)
set_option maxRecDepth 20000 in
theorem gX2_guessTold_X2_alike : GoodIn wsX2_guessTold (wsV RX2 102 RX2 yX2_alike wsX2_alike) := goodIn_app (goodIn_of _ (by decide +kernel)) ggX2_guessTold_X2_alike
set_option maxRecDepth 20000 in
theorem ggX2_told_X2_isGuess : GoodIn wsX2_told wsX2_isGuess := goodIn_r _ [6, 7, 8, 9, 5, 10, 59, 60, 61, 62, 63, 64, 65, 66, 67, 68, 69, 70] (by decide +kernel) (by decide +kernel)
set_option maxRecDepth 20000 in
theorem gX2_told_X2_isGuess : GoodIn wsX2_told (wsV RX2 99 RX2 yX2_isGuess wsX2_isGuess) := goodIn_app (goodIn_of _ (by decide +kernel)) ggX2_told_X2_isGuess
set_option maxRecDepth 20000 in
theorem ggX2_told_X2_isIn : GoodIn wsX2_told wsX2_isIn := goodIn_r _ [10] (by decide +kernel) (by decide +kernel)
set_option maxRecDepth 20000 in
theorem gX2_told_X2_isIn : GoodIn wsX2_told (va_wsS RX2 45 yX2_isIn wsX2_isIn) := goodIn_app (goodIn_of _ (by decide +kernel)) ggX2_told_X2_isIn
set_option maxRecDepth 20000 in
theorem ggX2_told_X2_guessTold : GoodIn wsX2_told wsX2_guessTold := goodIn_r _ [14, 15, 16, 17, 18, 19, 20, 5, 21, 22, 23, 24, 25, 26, 27, 28, 29, 30, 31, 32, 33, 34, 35, 36, 37, 38, 39, 40, 41, 42, 43, 44, 45, 46, 47, 48, 49, 50, 51, 52, 53, 54, 59, 60, 61, 62, 63, 64, 65, 66, 67, 68, 69, 70] (by decide +kernel) (by decide +kernel)
set_option maxRecDepth 20000 in
theorem gX2_told_X2_guessTold : GoodIn wsX2_told (wsV RX2 105 RX2 yX2_guessTold wsX2_guessTold) := goodIn_app (goodIn_of _ (by decide +kernel)) ggX2_told_X2_guessTold
set_option maxRecDepth 20000 in
theorem ggX2_told_X2_no : GoodIn wsX2_told wsX2_no := goodIn_r _ [58, 1, 59, 60, 61, 62, 63, 64, 65, 66, 67, 68, 69, 70] (by decide +kernel) (by decide +kernel)
set_option maxRecDepth 20000 in
theorem gX2_told_X2_no : GoodIn wsX2_told (wsV RX2 82 RX2 yX2_no wsX2_no) := goodIn_app (goodIn_of _ (by decide +kernel)) ggX2_told_X2_no
set_option maxRecDepth 20000 in
theorem ggX2_counted_X2_codes : GoodIn wsX2_counted wsX2_codes := goodIn_r _ [10, 1, 40, 41, 42, 43, 44, 45, 46, 47, 48, 49, 50, 51] (by decide +kernel) (by decide +kernel)
set_option maxRecDepth 20000 in
theorem gX2_counted_X2_codes : GoodIn wsX2_counted (wsV RX2 41 RX2 yX2_codes wsX2_codes) := goodIn_app (goodIn_of _ (by decide +kernel)) ggX2_counted_X2_codes
set_option maxRecDepth 20000 in
theorem ggX2_counted_X2_look : GoodIn wsX2_counted wsX2_look := goodIn_r _ [14, 15, 16, 6, 7, 8, 9, 10, 1, 17, 18, 19, 20, 5, 21, 4, 22, 23, 24, 25, 26, 27, 28, 29, 30, 31, 32, 33, 34, 35, 36, 37, 38, 39, 40, 41, 42, 43, 44, 45, 46, 47, 48, 49, 50, 51] (by decide +kernel) (by decide +kernel)
set_option maxRecDepth 20000 in
theorem gX2_counted_X2_look : GoodIn wsX2_counted (wsV RX2 96 RX2 yX2_look wsX2_look) := goodIn_app (goodIn_of _ (by decide +kernel)) ggX2_counted_X2_look
set_option maxRecDepth 20000 in
theorem ggX2_count_X2_isIn : GoodIn wsX2_count wsX2_isIn := goodIn_r _ [5] (by decide +kernel) (by decide +kernel)
set_option maxRecDepth 20000 in
theorem gX2_count_X2_isIn : GoodIn wsX2_count (va_wsS RX2 45 yX2_isIn wsX2_isIn) := goodIn_app (goodIn_of _ (by decide +kernel)) ggX2_count_X2_isIn
set_option maxRecDepth 20000 in
theorem ggX2_count_X2_counted : GoodIn wsX2_count wsX2_counted := goodIn_r _ [9, 10, 11, 12, 13, 14, 15, 16, 17, 4, 18, 19, 20, 21, 22, 23, 24, 25, 26, 27, 28, 29, 30, 31, 32, 33, 34, 35, 36, 37, 38, 39, 40, 41, 42, 43, 44, 45, 46, 47, 52, 53, 54, 55, 56, 57, 58, 59, 60, 61, 62, 63] (by decide +kernel) (by decide +kernel)
set_option maxRecDepth 20000 in
theorem gX2_count_X2_counted : GoodIn wsX2_count (wsV RX2 108 RX2 yX2_counted wsX2_counted) := goodIn_app (goodIn_of _ (by decide +kernel)) ggX2_count_X2_counted
set_option maxRecDepth 20000 in
theorem ggX2_count_X2_no : GoodIn wsX2_count wsX2_no := goodIn_r _ [51, 1, 52, 53, 54, 55, 56, 57, 58, 59, 60, 61, 62, 63] (by decide +kernel) (by decide +kernel)
set_option maxRecDepth 20000 in
theorem gX2_count_X2_no : GoodIn wsX2_count (wsV RX2 82 RX2 yX2_no wsX2_no) := goodIn_app (goodIn_of _ (by decide +kernel)) ggX2_count_X2_no
set_option maxRecDepth 20000 in
theorem ggX2_isPossible_X2_isCode : GoodIn wsX2_isPossible wsX2_isCode := goodIn_r _ [7, 8, 9, 10, 6, 11, 12, 13, 14, 15, 41, 42, 43, 44, 45, 46, 47, 48, 49, 50, 51, 52] (by decide +kernel) (by decide +kernel)
set_option maxRecDepth 20000 in
theorem gX2_isPossible_X2_isCode : GoodIn wsX2_isPossible (wsV RX2 85 RX2 yX2_isCode wsX2_isCode) := goodIn_app (goodIn_of _ (by decide +kernel)) ggX2_isPossible_X2_isCode
set_option maxRecDepth 20000 in
theorem ggX2_isPossible_X2_fits : GoodIn wsX2_isPossible wsX2_fits := goodIn_r _ [19, 20, 21, 22, 23, 24, 25, 6, 26, 12, 27, 28, 29, 30, 31, 32, 33, 34, 35, 36, 37, 38, 39, 40, 41, 42, 43, 44, 45, 46, 47, 48, 49, 50, 51, 52] (by decide +kernel) (by decide +kernel)
set_option maxRecDepth 20000 in
theorem gX2_isPossible_X2_fits : GoodIn wsX2_isPossible (wsV RX2 71 RX2 yX2_fits wsX2_fits) := goodIn_app (goodIn_of _ (by decide +kernel)) ggX2_isPossible_X2_fits
set_option maxRecDepth 20000 in
theorem ggX2_possible_X2_look : GoodIn wsX2_possible wsX2_look := goodIn_r _ [8, 9, 3, 10, 11, 12, 7, 13, 14, 15, 16, 17, 18, 19, 20, 21, 22, 23, 24, 25, 26, 27, 28, 29, 30, 31, 32, 33, 34, 35, 36, 37, 38, 39, 47, 48, 49, 50, 51, 52, 53, 54, 55, 56, 57, 58] (by decide +kernel) (by decide +kernel)
set_option maxRecDepth 20000 in
theorem gX2_possible_X2_look : GoodIn wsX2_possible (wsV RX2 96 RX2 yX2_look wsX2_look) := goodIn_app (goodIn_of _ (by decide +kernel)) ggX2_possible_X2_look
set_option maxRecDepth 20000 in
theorem ggX2_possible_X2_isIn : GoodIn wsX2_possible wsX2_isIn := goodIn_r _ [42] (by decide +kernel) (by decide +kernel)
set_option maxRecDepth 20000 in
theorem gX2_possible_X2_isIn : GoodIn wsX2_possible (va_wsS RX2 45 yX2_isIn wsX2_isIn) := goodIn_app (goodIn_of _ (by decide +kernel)) ggX2_possible_X2_isIn
set_option maxRecDepth 20000 in
theorem ggX2_possible_X2_no : GoodIn wsX2_possible wsX2_no := goodIn_r _ [46, 1, 47, 48, 49, 50, 51, 52, 53, 54, 55, 56, 57, 58] (by decide +kernel) (by decide +kernel)
set_option maxRecDepth 20000 in
theorem gX2_possible_X2_no : GoodIn wsX2_possible (wsV RX2 82 RX2 yX2_no wsX2_no) := goodIn_app (goodIn_of _ (by decide +kernel)) ggX2_possible_X2_no
set_option maxRecDepth 20000 in
theorem ggX2_have_X2_at : GoodIn wsX2_have wsX2_at := goodIn_r _ [6, 7, 8, 9, 10, 5, 11, 12, 13, 14, 15, 16, 17, 18, 19, 20, 21, 22, 23] (by decide +kernel) (by decide +kernel)
set_option maxRecDepth 20000 in
theorem gX2_have_X2_at : GoodIn wsX2_have (wsV RX2 56 RX2 yX2_at wsX2_at) := goodIn_app (goodIn_of _ (by decide +kernel)) ggX2_have_X2_at
set_option maxRecDepth 20000 in
theorem ggX2_have__X2_isPlace : GoodIn wsX2_have_ wsX2_isPlace := goodIn_r _ [7, 8, 9, 6, 10] (by decide +kernel) (by decide +kernel)
set_option maxRecDepth 20000 in
theorem gX2_have__X2_isPlace : GoodIn wsX2_have_ (va_wsS RX2 89 yX2_isPlace wsX2_isPlace) := goodIn_app (goodIn_of _ (by decide +kernel)) ggX2_have__X2_isPlace
set_option maxRecDepth 20000 in
theorem ggX2_have__X2_isIn : GoodIn wsX2_have_ wsX2_isIn := goodIn_r _ [10] (by decide +kernel) (by decide +kernel)
set_option maxRecDepth 20000 in
theorem gX2_have__X2_isIn : GoodIn wsX2_have_ (va_wsS RX2 45 yX2_isIn wsX2_isIn) := goodIn_app (goodIn_of _ (by decide +kernel)) ggX2_have__X2_isIn
set_option maxRecDepth 20000 in
theorem ggX2_have__X2_look : GoodIn wsX2_have_ wsX2_look := goodIn_r _ [14, 15, 16, 17, 18, 19, 6, 20, 2, 21, 22, 23, 24, 25, 26, 27, 28, 29, 30, 31, 32, 33, 34, 35, 36, 37, 38, 39, 40, 41, 42, 43, 44, 45, 54, 55, 56, 57, 58, 59, 60, 61, 62, 63, 64, 65] (by decide +kernel) (by decide +kernel)
set_option maxRecDepth 20000 in
theorem gX2_have__X2_look : GoodIn wsX2_have_ (wsV RX2 96 RX2 yX2_look wsX2_look) := goodIn_app (goodIn_of _ (by decide +kernel)) ggX2_have__X2_look
set_option maxRecDepth 20000 in
theorem ggX2_have__X2_have : GoodIn wsX2_have_ wsX2_have := goodIn_r _ [49, 16, 38, 39, 40, 6, 41, 2, 42, 43, 44, 45, 54, 55, 56, 57, 58, 59, 60, 61, 62, 63, 64, 65] (by decide +kernel) (by decide +kernel)
set_option maxRecDepth 20000 in
theorem gX2_have__X2_have : GoodIn wsX2_have_ (wsV RX2 111 RX2 yX2_have wsX2_have) := goodIn_app (goodIn_of _ (by decide +kernel)) ggX2_have__X2_have
set_option maxRecDepth 20000 in
theorem ggX2_have__X2_no : GoodIn wsX2_have_ wsX2_no := goodIn_r _ [53, 1, 54, 55, 56, 57, 58, 59, 60, 61, 62, 63, 64, 65] (by decide +kernel) (by decide +kernel)
set_option maxRecDepth 20000 in
theorem gX2_have__X2_no : GoodIn wsX2_have_ (wsV RX2 82 RX2 yX2_no wsX2_no) := goodIn_app (goodIn_of _ (by decide +kernel)) ggX2_have__X2_no
set_option maxRecDepth 20000 in
theorem ggX2_sureAt_X2_look : GoodIn wsX2_sureAt wsX2_look := goodIn_r _ [8, 3, 9, 10, 11, 12, 7, 13, 2, 14, 15, 16, 17, 18, 19, 20, 21, 22, 23, 24, 25, 26, 27, 28, 29, 30, 31, 32, 33, 34, 35, 36, 37, 38, 43, 44, 45, 46, 47, 48, 49, 50, 51, 52, 53, 54] (by decide +kernel) (by decide +kernel)
set_option maxRecDepth 20000 in
theorem gX2_sureAt_X2_look : GoodIn wsX2_sureAt (wsV RX2 96 RX2 yX2_look wsX2_look) := goodIn_app (goodIn_of _ (by decide +kernel)) ggX2_sureAt_X2_look
set_option maxRecDepth 20000 in
theorem ggX2_sureAt_X2_have : GoodIn wsX2_sureAt wsX2_have := goodIn_r _ [42, 9, 31, 32, 33, 7, 34, 2, 35, 36, 37, 38, 43, 44, 45, 46, 47, 48, 49, 50, 51, 52, 53, 54] (by decide +kernel) (by decide +kernel)
set_option maxRecDepth 20000 in
theorem gX2_sureAt_X2_have : GoodIn wsX2_sureAt (wsV RX2 111 RX2 yX2_have wsX2_have) := goodIn_app (goodIn_of _ (by decide +kernel)) ggX2_sureAt_X2_have
set_option maxRecDepth 20000 in
theorem ggX2_sure_X2_isPlace : GoodIn wsX2_sure wsX2_isPlace := goodIn_r _ [5, 6, 7, 4, 8] (by decide +kernel) (by decide +kernel)
set_option maxRecDepth 20000 in
theorem gX2_sure_X2_isPlace : GoodIn wsX2_sure (va_wsS RX2 89 yX2_isPlace wsX2_isPlace) := goodIn_app (goodIn_of _ (by decide +kernel)) ggX2_sure_X2_isPlace
set_option maxRecDepth 20000 in
theorem ggX2_sure_X2_sureAt : GoodIn wsX2_sure wsX2_sureAt := goodIn_r _ [12, 13, 14, 15, 16, 17, 18, 4, 19, 20, 21, 22, 23, 24, 25, 26, 27, 28, 29, 30, 31, 32, 33, 34, 35, 36, 37, 38, 39, 40, 41, 42, 43, 44, 45, 46, 47, 48, 49, 50, 51, 52, 53, 58, 59, 60, 61, 62, 63, 64, 65, 66, 67, 68, 69] (by decide +kernel) (by decide +kernel)
set_option maxRecDepth 20000 in
theorem gX2_sure_X2_sureAt : GoodIn wsX2_sure (wsV RX2 115 RX2 yX2_sureAt wsX2_sureAt) := goodIn_app (goodIn_of _ (by decide +kernel)) ggX2_sure_X2_sureAt
set_option maxRecDepth 20000 in
theorem ggX2_sure_X2_no : GoodIn wsX2_sure wsX2_no := goodIn_r _ [57, 1, 58, 59, 60, 61, 62, 63, 64, 65, 66, 67, 68, 69] (by decide +kernel) (by decide +kernel)
set_option maxRecDepth 20000 in
theorem gX2_sure_X2_no : GoodIn wsX2_sure (wsV RX2 82 RX2 yX2_no wsX2_no) := goodIn_app (goodIn_of _ (by decide +kernel)) ggX2_sure_X2_no
set_option maxRecDepth 20000 in
theorem ggX2_worst_X2_isCode : GoodIn wsX2_worst wsX2_isCode := goodIn_r _ [7, 8, 9, 10, 6, 11, 12, 13, 14, 15, 63, 64, 65, 66, 67, 68, 69, 70, 71, 72, 73, 74] (by decide +kernel) (by decide +kernel)
set_option maxRecDepth 20000 in
theorem gX2_worst_X2_isCode : GoodIn wsX2_worst (wsV RX2 85 RX2 yX2_isCode wsX2_isCode) := goodIn_app (goodIn_of _ (by decide +kernel)) ggX2_worst_X2_isCode
set_option maxRecDepth 20000 in
theorem ggX2_worst_X2_no : GoodIn wsX2_worst wsX2_no := goodIn_r _ [19, 1, 63, 64, 65, 66, 67, 68, 69, 70, 71, 72, 73, 74] (by decide +kernel) (by decide +kernel)
set_option maxRecDepth 20000 in
theorem gX2_worst_X2_no : GoodIn wsX2_worst (wsV RX2 82 RX2 yX2_no wsX2_no) := goodIn_app (goodIn_of _ (by decide +kernel)) ggX2_worst_X2_no
set_option maxRecDepth 20000 in
theorem ggX2_worst_X2_look : GoodIn wsX2_worst wsX2_look := goodIn_r _ [23, 24, 25, 8, 9, 10, 6, 11, 12, 26, 27, 28, 29, 30, 31, 32, 33, 34, 35, 36, 37, 38, 39, 40, 41, 42, 43, 44, 45, 46, 47, 48, 49, 50, 63, 64, 65, 66, 67, 68, 69, 70, 71, 72, 73, 74] (by decide +kernel) (by decide +kernel)
set_option maxRecDepth 20000 in
theorem gX2_worst_X2_look : GoodIn wsX2_worst (wsV RX2 96 RX2 yX2_look wsX2_look) := goodIn_app (goodIn_of _ (by decide +kernel)) ggX2_worst_X2_look
set_option maxRecDepth 20000 in
theorem ggX2_worst_X2_greatest : GoodIn wsX2_worst wsX2_greatest := goodIn_r _ [54, 55, 56, 57, 41, 58, 59, 60, 61, 6, 62, 24, 25, 33, 34, 35, 36, 12, 37, 38, 39, 40, 42, 43, 44, 45, 46, 47, 48, 49, 50, 63, 64, 65, 66, 67, 68, 69, 70, 71, 72, 73, 74] (by decide +kernel) (by decide +kernel)
set_option maxRecDepth 20000 in
theorem gX2_worst_X2_greatest : GoodIn wsX2_worst (wsV RX2 118 RX2 yX2_greatest wsX2_greatest) := goodIn_app (goodIn_of _ (by decide +kernel)) ggX2_worst_X2_greatest
set_option maxRecDepth 20000 in
theorem ggX2_parts_X2_isCode : GoodIn wsX2_parts wsX2_isCode := goodIn_r _ [7, 8, 9, 10, 6, 11, 12, 13, 14, 15, 60, 61, 62, 63, 64, 65, 66, 67, 68, 69, 70, 71] (by decide +kernel) (by decide +kernel)
set_option maxRecDepth 20000 in
theorem gX2_parts_X2_isCode : GoodIn wsX2_parts (wsV RX2 85 RX2 yX2_isCode wsX2_isCode) := goodIn_app (goodIn_of _ (by decide +kernel)) ggX2_parts_X2_isCode
set_option maxRecDepth 20000 in
theorem ggX2_parts_X2_no : GoodIn wsX2_parts wsX2_no := goodIn_r _ [19, 1, 60, 61, 62, 63, 64, 65, 66, 67, 68, 69, 70, 71] (by decide +kernel) (by decide +kernel)
set_option maxRecDepth 20000 in
theorem gX2_parts_X2_no : GoodIn wsX2_parts (wsV RX2 82 RX2 yX2_no wsX2_no) := goodIn_app (goodIn_of _ (by decide +kernel)) ggX2_parts_X2_no
set_option maxRecDepth 20000 in
theorem ggX2_parts_X2_look : GoodIn wsX2_parts wsX2_look := goodIn_r _ [23, 24, 25, 8, 9, 10, 6, 11, 12, 26, 27, 28, 29, 30, 31, 32, 33, 34, 35, 36, 37, 38, 39, 40, 41, 42, 43, 44, 45, 46, 47, 48, 49, 50, 60, 61, 62, 63, 64, 65, 66, 67, 68, 69, 70, 71] (by decide +kernel) (by decide +kernel)
set_option maxRecDepth 20000 in
theorem gX2_parts_X2_look : GoodIn wsX2_parts (wsV RX2 96 RX2 yX2_look wsX2_look) := goodIn_app (goodIn_of _ (by decide +kernel)) ggX2_parts_X2_look
set_option maxRecDepth 20000 in
theorem ggX2_parts_X2_heaps : GoodIn wsX2_parts wsX2_heaps := goodIn_r _ [54, 55, 56, 57, 58, 6, 59, 24, 25, 33, 34, 35, 36, 12, 37, 38, 39, 40, 41, 42, 43, 44, 45, 46, 47, 48, 49, 50, 60, 61, 62, 63, 64, 65, 66, 67, 68, 69, 70, 71] (by decide +kernel) (by decide +kernel)
set_option maxRecDepth 20000 in
theorem gX2_parts_X2_heaps : GoodIn wsX2_parts (wsV RX2 121 RX2 yX2_heaps wsX2_heaps) := goodIn_app (goodIn_of _ (by decide +kernel)) ggX2_parts_X2_heaps
set_option maxRecDepth 20000 in
theorem ggX2_best_X2_look : GoodIn wsX2_best wsX2_look := goodIn_r _ [7, 8, 9, 10, 11, 12, 6, 13, 14, 15, 16, 17, 18, 19, 20, 21, 22, 23, 24, 25, 26, 27, 28, 29, 30, 31, 32, 33, 34, 35, 36, 37, 38, 39, 56, 57, 58, 59, 60, 61, 62, 63, 64, 65, 66, 67] (by decide +kernel) (by decide +kernel)
set_option maxRecDepth 20000 in
theorem gX2_best_X2_look : GoodIn wsX2_best (wsV RX2 96 RX2 yX2_look wsX2_look) := goodIn_app (goodIn_of _ (by decide +kernel)) ggX2_best_X2_look
set_option maxRecDepth 20000 in
theorem ggX2_best_X2_greatest : GoodIn wsX2_best wsX2_greatest := goodIn_r _ [43, 44, 45, 46, 30, 47, 48, 49, 50, 6, 51, 8, 9, 22, 23, 24, 25, 14, 26, 27, 28, 29, 31, 32, 33, 34, 35, 36, 37, 38, 39, 56, 57, 58, 59, 60, 61, 62, 63, 64, 65, 66, 67] (by decide +kernel) (by decide +kernel)
set_option maxRecDepth 20000 in
theorem gX2_best_X2_greatest : GoodIn wsX2_best (wsV RX2 118 RX2 yX2_greatest wsX2_greatest) := goodIn_app (goodIn_of _ (by decide +kernel)) ggX2_best_X2_greatest
set_option maxRecDepth 20000 in
theorem ggX2_best_X2_codes : GoodIn wsX2_best wsX2_codes := goodIn_r _ [13, 14, 56, 57, 58, 59, 60, 61, 62, 63, 64, 65, 66, 67] (by decide +kernel) (by decide +kernel)
set_option maxRecDepth 20000 in
theorem gX2_best_X2_codes : GoodIn wsX2_best (wsV RX2 41 RX2 yX2_codes wsX2_codes) := goodIn_app (goodIn_of _ (by decide +kernel)) ggX2_best_X2_codes
set_option maxRecDepth 20000 in
theorem ggX2_best_X2_place : GoodIn wsX2_best wsX2_place := goodIn_r _ [55, 8, 9, 56, 57, 58, 59, 60, 61, 62, 63, 64, 65, 66, 67] (by decide +kernel) (by decide +kernel)
set_option maxRecDepth 20000 in
theorem gX2_best_X2_place : GoodIn wsX2_best (wsV RX2 124 RX2 yX2_place wsX2_place) := goodIn_app (goodIn_of _ (by decide +kernel)) ggX2_best_X2_place
set_option maxRecDepth 20000 in
theorem ggX2_keep_X2_answerTo : GoodIn wsX2_keep wsX2_answerTo := goodIn_r _ [7, 8, 9, 10, 11, 12, 13, 14, 15, 16, 17, 6, 18, 19, 20, 21, 22, 23, 24, 25, 26, 27, 28, 29, 30, 31, 32, 33, 34] (by decide +kernel) (by decide +kernel)
set_option maxRecDepth 20000 in
theorem gX2_keep_X2_answerTo : GoodIn wsX2_keep (wsV RX2 65 RX2 yX2_answerTo wsX2_answerTo) := goodIn_app (goodIn_of _ (by decide +kernel)) ggX2_keep_X2_answerTo
set_option maxRecDepth 20000 in
theorem ggX2_ofRow_X2_greatest : GoodIn wsX2_ofRow wsX2_greatest := goodIn_r _ [7, 8, 9, 10, 11, 12, 13, 14, 15, 6, 16, 1, 2, 17, 18, 19, 20, 21, 22, 23, 24, 25, 26, 27, 28, 29, 30, 31, 32, 33, 34, 35, 36, 37, 38, 39, 40, 41, 42, 43, 44, 45, 46] (by decide +kernel) (by decide +kernel)
set_option maxRecDepth 20000 in
theorem gX2_ofRow_X2_greatest : GoodIn wsX2_ofRow (wsV RX2 118 RX2 yX2_greatest wsX2_greatest) := goodIn_app (goodIn_of _ (by decide +kernel)) ggX2_ofRow_X2_greatest
set_option maxRecDepth 20000 in
theorem ggX2_takes_X2_isCode : GoodIn wsX2_takes wsX2_isCode := goodIn_r _ [8, 9, 10, 11, 7, 12, 13, 14, 15, 16, 59, 60, 61, 62, 63, 64, 65, 66, 67, 68, 69, 70] (by decide +kernel) (by decide +kernel)
set_option maxRecDepth 20000 in
theorem gX2_takes_X2_isCode : GoodIn wsX2_takes (wsV RX2 85 RX2 yX2_isCode wsX2_isCode) := goodIn_app (goodIn_of _ (by decide +kernel)) ggX2_takes_X2_isCode
set_option maxRecDepth 20000 in
theorem ggX2_takes_X2_no : GoodIn wsX2_takes wsX2_no := goodIn_r _ [20, 1, 59, 60, 61, 62, 63, 64, 65, 66, 67, 68, 69, 70] (by decide +kernel) (by decide +kernel)
set_option maxRecDepth 20000 in
theorem gX2_takes_X2_no : GoodIn wsX2_takes (wsV RX2 82 RX2 yX2_no wsX2_no) := goodIn_app (goodIn_of _ (by decide +kernel)) ggX2_takes_X2_no
set_option maxRecDepth 20000 in
theorem ggX2_takes_X2_codes : GoodIn wsX2_takes wsX2_codes := goodIn_r _ [12, 13, 59, 60, 61, 62, 63, 64, 65, 66, 67, 68, 69, 70] (by decide +kernel) (by decide +kernel)
set_option maxRecDepth 20000 in
theorem gX2_takes_X2_codes : GoodIn wsX2_takes (wsV RX2 41 RX2 yX2_codes wsX2_codes) := goodIn_app (goodIn_of _ (by decide +kernel)) ggX2_takes_X2_codes
set_option maxRecDepth 20000 in
theorem ggX2_takes_X2_answerTo : GoodIn wsX2_takes wsX2_answerTo := goodIn_r _ [24, 13, 25, 26, 27, 28, 29, 30, 31, 32, 33, 7, 34, 35, 36, 37, 38, 59, 60, 61, 62, 63, 64, 65, 66, 67, 68, 69, 70] (by decide +kernel) (by decide +kernel)
set_option maxRecDepth 20000 in
theorem gX2_takes_X2_answerTo : GoodIn wsX2_takes (wsV RX2 65 RX2 yX2_answerTo wsX2_answerTo) := goodIn_app (goodIn_of _ (by decide +kernel)) ggX2_takes_X2_answerTo
set_option maxRecDepth 20000 in
theorem ggX2_takes_X2_keep : GoodIn wsX2_takes wsX2_keep := goodIn_r _ [42, 2, 3, 21, 22, 23, 7, 24, 13, 25, 26, 27, 28, 29, 30, 31, 32, 33, 34, 35, 36, 37, 38, 59, 60, 61, 62, 63, 64, 65, 66, 67, 68, 69, 70] (by decide +kernel) (by decide +kernel)
set_option maxRecDepth 20000 in
theorem gX2_takes_X2_keep : GoodIn wsX2_takes (wsV RX2 127 RX2 yX2_keep wsX2_keep) := goodIn_app (goodIn_of _ (by decide +kernel)) ggX2_takes_X2_keep
set_option maxRecDepth 20000 in
theorem ggX2_takes_X2_ofRow : GoodIn wsX2_takes wsX2_ofRow := goodIn_r _ [46, 2, 3, 47, 48, 49, 7, 50, 51, 52, 53, 29, 54, 55, 56, 57, 58, 21, 22, 23, 24, 13, 25, 26, 27, 28, 30, 31, 32, 33, 34, 35, 36, 37, 38, 59, 60, 61, 62, 63, 64, 65, 66, 67, 68, 69, 70] (by decide +kernel) (by decide +kernel)
set_option maxRecDepth 20000 in
theorem gX2_takes_X2_ofRow : GoodIn wsX2_takes (wsV RX2 130 RX2 yX2_ofRow wsX2_ofRow) := goodIn_app (goodIn_of _ (by decide +kernel)) ggX2_takes_X2_ofRow
set_option maxRecDepth 20000 in
theorem ggX2_digest_X2_counted : GoodIn wsX2_digest wsX2_counted := goodIn_r _ [13, 6, 5, 4, 14, 15, 16, 17, 18, 12, 19, 20, 21, 22, 23, 7, 8, 24, 25, 26, 27, 28, 29, 30, 31, 32, 33, 34, 35, 36, 37, 38, 39, 40, 41, 42, 43, 44, 45, 46, 63, 64, 65, 66, 67, 68, 69, 70, 71, 72, 73, 74] (by decide +kernel) (by decide +kernel)
set_option maxRecDepth 20000 in
theorem gX2_digest_X2_counted : GoodIn wsX2_digest (wsV RX2 108 RX2 yX2_counted wsX2_counted) := goodIn_app (goodIn_of _ (by decide +kernel)) ggX2_digest_X2_counted
set_option maxRecDepth 20000 in
theorem ggX2_digest_X2_guessTold : GoodIn wsX2_digest wsX2_guessTold := goodIn_r _ [50, 28, 14, 15, 20, 21, 22, 12, 23, 7, 8, 16, 17, 18, 19, 6, 24, 25, 26, 27, 29, 30, 31, 32, 33, 34, 35, 36, 37, 38, 39, 40, 41, 42, 43, 44, 45, 46, 51, 52, 53, 54, 63, 64, 65, 66, 67, 68, 69, 70, 71, 72, 73, 74] (by decide +kernel) (by decide +kernel)
set_option maxRecDepth 20000 in
theorem gX2_digest_X2_guessTold : GoodIn wsX2_digest (wsV RX2 105 RX2 yX2_guessTold wsX2_guessTold) := goodIn_app (goodIn_of _ (by decide +kernel)) ggX2_digest_X2_guessTold
set_option maxRecDepth 20000 in
theorem ggX2_digest_X2_sureAt : GoodIn wsX2_digest wsX2_sureAt := goodIn_r _ [58, 5, 6, 7, 20, 21, 22, 12, 23, 8, 16, 17, 18, 19, 24, 25, 26, 27, 15, 28, 14, 29, 30, 31, 32, 33, 34, 35, 36, 37, 38, 39, 40, 41, 42, 43, 44, 45, 46, 59, 60, 61, 62, 63, 64, 65, 66, 67, 68, 69, 70, 71, 72, 73, 74] (by decide +kernel) (by decide +kernel)
set_option maxRecDepth 20000 in
theorem gX2_digest_X2_sureAt : GoodIn wsX2_digest (wsV RX2 115 RX2 yX2_sureAt wsX2_sureAt) := goodIn_app (goodIn_of _ (by decide +kernel)) ggX2_digest_X2_sureAt
set_option maxRecDepth 20000 in
theorem ggX2_digest_X2_look : GoodIn wsX2_digest wsX2_look := goodIn_r _ [23, 7, 8, 16, 17, 18, 12, 19, 6, 24, 25, 26, 27, 15, 28, 14, 29, 30, 31, 32, 33, 34, 35, 36, 37, 38, 39, 40, 41, 42, 43, 44, 45, 46, 63, 64, 65, 66, 67, 68, 69, 70, 71, 72, 73, 74] (by decide +kernel) (by decide +kernel)
set_option maxRecDepth 20000 in
theorem gX2_digest_X2_look : GoodIn wsX2_digest (wsV RX2 96 RX2 yX2_look wsX2_look) := goodIn_app (goodIn_of _ (by decide +kernel)) ggX2_digest_X2_look
set_option maxRecDepth 20000 in
theorem ggX2_digest_X2_have : GoodIn wsX2_digest wsX2_have := goodIn_r _ [62, 8, 39, 40, 41, 12, 42, 6, 43, 44, 45, 46, 63, 64, 65, 66, 67, 68, 69, 70, 71, 72, 73, 74] (by decide +kernel) (by decide +kernel)
set_option maxRecDepth 20000 in
theorem gX2_digest_X2_have : GoodIn wsX2_digest (wsV RX2 111 RX2 yX2_have wsX2_have) := goodIn_app (goodIn_of _ (by decide +kernel)) ggX2_digest_X2_have

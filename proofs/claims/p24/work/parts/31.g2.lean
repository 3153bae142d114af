set_option maxRecDepth 20000 in
theorem ggX2_pins_X2_candles : GoodIn wsX2_pins wsX2_candles := goodIn_r _ [5, 6, 7, 8, 9, 10] (by decide +kernel) (by decide +kernel)
set_option maxRecDepth 20000 in
theorem gX2_pins_X2_candles : GoodIn wsX2_pins (wsV RX2 22 RX2 yX2_candles wsX2_candles) := goodIn_app (goodIn_of _ (by decide +kernel)) ggX2_pins_X2_candles
set_option maxRecDepth 20000 in
theorem ggX2_possible_X2_codes : GoodIn wsX2_possible wsX2_codes := goodIn_r _ [7, 8, 18, 19, 20] (by decide +kernel) (by decide +kernel)
set_option maxRecDepth 20000 in
theorem gX2_possible_X2_codes : GoodIn wsX2_possible (wsV RX2 26 RX2 yX2_codes wsX2_codes) := goodIn_app (goodIn_of _ (by decide +kernel)) ggX2_possible_X2_codes
set_option maxRecDepth 20000 in
theorem ggX2_possible_X2_pins : GoodIn wsX2_possible wsX2_pins := goodIn_r _ [12, 13, 14, 15, 6, 16, 17, 8, 18, 19, 20] (by decide +kernel) (by decide +kernel)
set_option maxRecDepth 20000 in
theorem gX2_possible_X2_pins : GoodIn wsX2_possible (wsV RX2 30 RX2 yX2_pins wsX2_pins) := goodIn_app (goodIn_of _ (by decide +kernel)) ggX2_possible_X2_pins
set_option maxRecDepth 20000 in
theorem ggX2_isSame_X2_possible : GoodIn wsX2_isSame wsX2_possible := goodIn_r _ [10, 11, 1, 12, 13, 14, 9, 15, 3, 16, 17, 18, 19, 20, 21, 22, 23, 2, 123, 124, 125] (by decide +kernel) (by decide +kernel)
set_option maxRecDepth 20000 in
theorem gX2_isSame_X2_possible : GoodIn wsX2_isSame (wsV RX2 39 RX2 yX2_possible wsX2_possible) := goodIn_app (goodIn_of _ (by decide +kernel)) ggX2_isSame_X2_possible
set_option maxRecDepth 20000 in
theorem ggX2_isSame_X2_many : GoodIn wsX2_isSame wsX2_many := goodIn_r _ [26] (by decide +kernel) (by decide +kernel)
set_option maxRecDepth 20000 in
theorem gX2_isSame_X2_many : GoodIn wsX2_isSame (va_wsS RX2 43 yX2_many wsX2_many) := goodIn_app (goodIn_of _ (by decide +kernel)) ggX2_isSame_X2_many
set_option maxRecDepth 20000 in
theorem ggX2_isSame_X2_codes : GoodIn wsX2_isSame wsX2_codes := goodIn_r _ [15, 3, 123, 124, 125] (by decide +kernel) (by decide +kernel)
set_option maxRecDepth 20000 in
theorem gX2_isSame_X2_codes : GoodIn wsX2_isSame (wsV RX2 26 RX2 yX2_codes wsX2_codes) := goodIn_app (goodIn_of _ (by decide +kernel)) ggX2_isSame_X2_codes
set_option maxRecDepth 20000 in
theorem ggX2_isSame_X2_pins : GoodIn wsX2_isSame wsX2_pins := goodIn_r _ [19, 20, 21, 22, 9, 23, 2, 3, 123, 124, 125] (by decide +kernel) (by decide +kernel)
set_option maxRecDepth 20000 in
theorem gX2_isSame_X2_pins : GoodIn wsX2_isSame (wsV RX2 30 RX2 yX2_pins wsX2_pins) := goodIn_app (goodIn_of _ (by decide +kernel)) ggX2_isSame_X2_pins
set_option maxRecDepth 20000 in
theorem ggX2_isSame_X1_told : GoodIn wsX2_isSame wsX1_told := goodIn_ca (goodIn_r _ [31, 32, 33, 34, 35, 36, 37, 38, 39, 30, 40, 41, 42, 43, 44, 45, 46, 47, 48, 49, 50, 51, 52, 53, 54, 55, 56, 57, 58, 59, 60, 61, 62, 63, 64, 126, 127, 128, 129, 130, 131, 132, 133, 134, 135, 136, 137, 138, 139, 140] (by decide +kernel) (by decide +kernel)) (goodIn_sub (fun _ h => List.mem_cons_of_mem _ (List.mem_append_right _ h)) (by decide +kernel))
set_option maxRecDepth 20000 in
theorem gX2_isSame_X1_told : GoodIn wsX2_isSame (wsV RX2 51 RX1 yX1_told wsX1_told) := goodIn_app (goodIn_of _ (by decide +kernel)) ggX2_isSame_X1_told
set_option maxRecDepth 20000 in
theorem ggX2_isSame_X1_count : GoodIn wsX2_isSame wsX1_count := goodIn_ca (goodIn_r _ [68, 32, 33, 46, 41, 69, 70, 71, 72, 30, 73, 74, 75, 76, 77, 35, 78, 79, 80, 81, 36, 126, 127, 128, 129, 130, 131, 132, 133, 134, 135, 136, 137, 138, 139, 140] (by decide +kernel) (by decide +kernel)) (goodIn_sub (fun _ h => List.mem_cons_of_mem _ (List.mem_append_right _ h)) (by decide +kernel))
set_option maxRecDepth 20000 in
theorem gX2_isSame_X1_count : GoodIn wsX2_isSame (wsV RX2 56 RX1 yX1_count wsX1_count) := goodIn_app (goodIn_of _ (by decide +kernel)) ggX2_isSame_X1_count
set_option maxRecDepth 20000 in
theorem ggX2_isSame_X1_isPossible : GoodIn wsX2_isSame wsX1_isPossible := goodIn_ca (goodIn_r _ [85, 69, 86, 87, 88, 30, 89, 32, 33, 46, 57, 52, 58, 59, 60, 90, 91, 92, 126, 127, 128, 129, 130, 131, 132, 133, 134, 135, 136, 137, 138, 139, 140] (by decide +kernel) (by decide +kernel)) (goodIn_sub (fun _ h => List.mem_cons_of_mem _ (List.mem_append_right _ h)) (by decide +kernel))
set_option maxRecDepth 20000 in
theorem gX2_isSame_X1_isPossible : GoodIn wsX2_isSame (wsV RX2 61 RX1 yX1_isPossible wsX1_isPossible) := goodIn_app (goodIn_of _ (by decide +kernel)) ggX2_isSame_X1_isPossible
set_option maxRecDepth 20000 in
theorem ggX2_isSame_X1_possible : GoodIn wsX2_isSame wsX1_possible := goodIn_ca (goodIn_r _ [96, 32, 33, 69, 97, 98, 30, 99, 126, 127, 128, 129, 130, 131, 132, 133, 134, 135, 136] (by decide +kernel) (by decide +kernel)) (goodIn_sub (fun _ h => List.mem_cons_of_mem _ (List.mem_append_right _ h)) (by decide +kernel))
set_option maxRecDepth 20000 in
theorem gX2_isSame_X1_possible : GoodIn wsX2_isSame (wsV RX2 65 RX1 yX1_possible wsX1_possible) := goodIn_app (goodIn_of _ (by decide +kernel)) ggX2_isSame_X1_possible
set_option maxRecDepth 20000 in
theorem ggX2_isSame_X2_candles : GoodIn wsX2_isSame wsX2_candles := goodIn_r _ [23, 2, 3, 123, 124, 125] (by decide +kernel) (by decide +kernel)
set_option maxRecDepth 20000 in
theorem gX2_isSame_X2_candles : GoodIn wsX2_isSame (wsV RX2 22 RX2 yX2_candles wsX2_candles) := goodIn_app (goodIn_of _ (by decide +kernel)) ggX2_isSame_X2_candles
set_option maxRecDepth 20000 in
theorem ggX2_isSame_X1_have : GoodIn wsX2_isSame wsX1_have := goodIn_ca (goodIn_r _ [103, 32, 33, 46, 104, 105, 30, 106, 107, 108, 109, 110, 69, 111, 52, 112, 113, 114, 56, 57, 58, 59, 60, 126, 127, 128, 129, 130, 131, 132, 133, 134, 135, 136, 137, 138, 139, 140] (by decide +kernel) (by decide +kernel)) (goodIn_sub (fun _ h => List.mem_cons_of_mem _ (List.mem_append_right _ h)) (by decide +kernel))
set_option maxRecDepth 20000 in
theorem gX2_isSame_X1_have : GoodIn wsX2_isSame (wsV RX2 67 RX1 yX1_have wsX1_have) := goodIn_app (goodIn_of _ (by decide +kernel)) ggX2_isSame_X1_have
set_option maxRecDepth 20000 in
theorem ggX2_isSame_X1_sure : GoodIn wsX2_isSame wsX1_sure := goodIn_ca (goodIn_r _ [118, 69, 46, 104, 105, 30, 106, 32, 33, 97, 98, 99, 111, 52, 112, 113, 114, 56, 57, 58, 59, 60, 107, 108, 109, 110, 71, 72, 73, 126, 127, 128, 129, 130, 131, 132, 133, 134, 135, 136, 137, 138, 139, 140] (by decide +kernel) (by decide +kernel)) (goodIn_sub (fun _ h => List.mem_cons_of_mem _ (List.mem_append_right _ h)) (by decide +kernel))
set_option maxRecDepth 20000 in
theorem gX2_isSame_X1_sure : GoodIn wsX2_isSame (wsV RX2 70 RX1 yX1_sure wsX1_sure) := goodIn_app (goodIn_of _ (by decide +kernel)) ggX2_isSame_X1_sure
set_option maxRecDepth 20000 in
theorem ggX2_isSame_X1_mean : GoodIn wsX2_isSame wsX1_mean := goodIn_r _ [122, 41, 35, 126, 127, 128, 129, 130, 131, 132, 133, 134, 135, 136] (by decide +kernel) (by decide +kernel)
set_option maxRecDepth 20000 in
theorem gX2_isSame_X1_mean : GoodIn wsX2_isSame (wsV RX2 73 RX1 yX1_mean wsX1_mean) := goodIn_app (goodIn_of _ (by decide +kernel)) ggX2_isSame_X1_mean

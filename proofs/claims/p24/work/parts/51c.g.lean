set_option maxRecDepth 20000 in
theorem ggL_law_L_build_p0 : GoodIn wsL_law [.code yL_build cL_build 4 (some (.object "HiddenCandlesLaw$Sim"))] := goodIn_one 74 rfl rfl
set_option maxRecDepth 20000 in
theorem ggL_law_L_build_wsL_build_r1a : GoodIn wsL_law [Cond.classLink RL 10 RX2, Cond.instantiable RX2 3, Cond.initialized RX2, Cond.instanceMethod yX2_init, Cond.code yX2_init cX2_init 1 none, Cond.methodLink RX2 1 objectInit, Cond.instanceMethod objectInit, Cond.code objectInit ⟨#[0xb1]⟩ 1 none, Cond.fieldLink RX2 7 "HiddenCandlesLaw$Sim" "colours" "I", Cond.fieldLink RX2 13 "HiddenCandlesLaw$Sim" "hidden" "I", Cond.classLink RX2 16 "[I", Cond.fieldLink RX2 18 "HiddenCandlesLaw$Sim" "guesses" "[[I", Cond.methodLink RL 91 yL_cell, Cond.static yL_cell, Cond.initialized RL, Cond.code yL_cell cL_cell 2 (some .int), Cond.constant RL 8 (790386105), Cond.methodLink RL 95 yL_act, Cond.static yL_act] := goodIn_r _ [75, 76, 77, 78, 79, 80, 9, 10, 81, 82, 83, 84, 85, 86, 73, 87, 88, 89, 90] (by decide +kernel) (by decide +kernel)
set_option maxRecDepth 20000 in
theorem ggL_law_L_build_wsL_build_r1b : GoodIn wsL_law [Cond.codeWith yL_act cL_act 9 (some .boolean) [(246, 273, 274, 54), (329, 360, 361, 54)]] := goodIn_one 91 rfl rfl
set_option maxRecDepth 20000 in
theorem ggL_law_L_build_wsL_build_r1c : GoodIn wsL_law [Cond.classLink RL 54 "java/lang/IllegalStateException", Cond.fieldLink RL 21 "HiddenCandlesLaw$Sim" "guesses" "[[I", Cond.fieldLink RL 25 "HiddenCandlesLaw$Sim" "colours" "I", Cond.fieldLink RL 29 "HiddenCandlesLaw$Sim" "hidden" "I"] := goodIn_r _ [92, 93, 94, 95] (by decide +kernel) (by decide +kernel)
theorem ggL_law_L_build_wsL_build_r1 : GoodIn wsL_law wsL_build_r1 := goodIn_app ggL_law_L_build_wsL_build_r1a (goodIn_app ggL_law_L_build_wsL_build_r1b ggL_law_L_build_wsL_build_r1c)
set_option maxRecDepth 20000 in
theorem ggL_law_L_build_wsL_build_r2 : GoodIn wsL_law wsL_build_r2 := goodIn_r _ [96, 97, 98, 99, 100, 101, 102, 103, 104, 105, 106, 107, 2, 108, 109, 110, 16, 14, 15, 17, 18, 56, 57, 58] (by decide +kernel) (by decide +kernel)
set_option maxRecDepth 20000 in
theorem ggL_law_L_build_wsL_build_r3 : GoodIn wsL_law wsL_build_r3 := goodIn_r _ [59, 23, 60, 13, 61, 62, 30, 63, 64, 65, 66, 22, 19, 20, 67, 68, 69, 33, 70, 111, 112, 113, 114, 115] (by decide +kernel) (by decide +kernel)
set_option maxRecDepth 20000 in
theorem ggL_law_L_build_wsL_build_r4 : GoodIn wsL_law wsL_build_r4 := goodIn_r _ [116, 117, 118, 119, 120, 121, 122, 123, 124, 4, 125, 126, 127, 128, 129, 130, 131, 132, 133, 134, 135, 136, 137, 138] (by decide +kernel) (by decide +kernel)
set_option maxRecDepth 20000 in
theorem ggL_law_L_build_wsL_build_r5 : GoodIn wsL_law wsL_build_r5 := goodIn_r _ [139, 140, 141, 142, 143, 144, 32, 145, 146, 147, 148, 149, 150, 151, 152, 153, 154, 155, 156, 157, 158, 159, 160, 161] (by decide +kernel) (by decide +kernel)
set_option maxRecDepth 20000 in
theorem ggL_law_L_build_wsL_build_r6 : GoodIn wsL_law wsL_build_r6 := goodIn_r _ [162, 163, 164, 165, 166, 167, 168, 169, 170, 171, 172, 173, 174, 21, 175, 176, 177, 178, 179, 180, 181, 182, 183, 184] (by decide +kernel) (by decide +kernel)
set_option maxRecDepth 20000 in
theorem ggL_law_L_build_wsL_build_r7 : GoodIn wsL_law wsL_build_r7 := goodIn_r _ [185, 186, 187, 188, 189, 190, 191, 192, 193, 194, 195, 196, 197, 198, 199, 200, 201, 202, 203, 204, 205, 206, 207, 208] (by decide +kernel) (by decide +kernel)
set_option maxRecDepth 20000 in
theorem ggL_law_L_build_wsL_build_r8 : GoodIn wsL_law wsL_build_r8 := goodIn_r _ [209, 210] (by decide +kernel) (by decide +kernel)
set_option maxRecDepth 20000 in
theorem ggL_law_L_build_wsX20 : GoodIn wsL_law wsX20 := goodIn_r _ [335, 336, 337] (by decide +kernel) (by decide +kernel)
set_option maxRecDepth 20000 in
theorem ggL_law_L_build_wsX10 : GoodIn wsL_law wsX10 := goodIn_r _ [320, 321, 322, 323, 324, 325, 326, 327, 328, 329, 330] (by decide +kernel) (by decide +kernel)
set_option maxRecDepth 20000 in
theorem ggL_law_L_build_wsX00 : GoodIn wsL_law wsX00 := goodIn_r _ [331, 332, 333, 334] (by decide +kernel) (by decide +kernel)
set_option maxRecDepth 20000 in
theorem ggL_law_L_build : GoodIn wsL_law wsL_build := goodIn_ca (goodIn_ca (goodIn_ca (goodIn_id (goodIn_app ggL_law_L_build_p0 (goodIn_app (goodIn_app (goodIn_app (goodIn_app ggL_law_L_build_wsL_build_r1 (goodIn_app ggL_law_L_build_wsL_build_r2 (goodIn_app ggL_law_L_build_wsL_build_r3 (goodIn_app ggL_law_L_build_wsL_build_r4 (goodIn_app ggL_law_L_build_wsL_build_r5 (goodIn_app ggL_law_L_build_wsL_build_r6 (goodIn_app ggL_law_L_build_wsL_build_r7 ggL_law_L_build_wsL_build_r8))))))) ggL_law_L_build_wsX20) ggL_law_L_build_wsX10) ggL_law_L_build_wsX00))) (goodIn_sub (fun _ h => List.mem_append_left _ (List.mem_append_left _ (List.mem_append_right _ h))) (by decide +kernel))) (goodIn_sub (fun _ h => List.mem_append_left _ (List.mem_append_right _ h)) (by decide +kernel))) (goodIn_sub (fun _ h => List.mem_append_right _ h) (by decide +kernel))

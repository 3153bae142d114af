set_option maxRecDepth 20000 in
theorem ggL_law_X2_isSame_p0 : GoodIn wsL_law [.code yX2_isSame cX2_isSame 13 (some .boolean)] := goodIn_one 309 rfl rfl
set_option maxRecDepth 20000 in
theorem ggL_law_X2_isSame_wsX2_isSame_r1 : GoodIn wsL_law wsX2_isSame_r1 := goodIn_r _ [84, 4, 81, 82, 310, 311, 172, 173, 77, 174, 21, 175, 98, 99, 100, 176, 146, 147, 148, 149, 122, 123, 124, 312] (by decide +kernel) (by decide +kernel)
set_option maxRecDepth 20000 in
theorem ggL_law_X2_isSame_wsX2_isSame_r2 : GoodIn wsL_law wsX2_isSame_r2 := goodIn_r _ [178, 179, 313, 222, 223, 2, 224, 119, 120, 19, 20, 22, 203, 204, 205, 206, 18, 225, 226, 227, 228, 16, 63, 64] (by decide +kernel) (by decide +kernel)
set_option maxRecDepth 20000 in
theorem ggL_law_X2_isSame_wsX2_isSame_r3 : GoodIn wsL_law wsX2_isSame_r3 := goodIn_r _ [65, 66, 67, 13, 68, 69, 33, 70, 60, 61, 62, 30, 229, 230, 231, 232, 314, 181, 182, 183, 23, 17, 168, 169] (by decide +kernel) (by decide +kernel)
set_option maxRecDepth 20000 in
theorem ggL_law_X2_isSame_wsX2_isSame_r4 : GoodIn wsL_law wsX2_isSame_r4 := goodIn_r _ [170, 184, 185, 186, 187, 188, 189, 190, 191, 315, 251, 252, 253, 115, 116, 117, 118, 254, 255, 256, 316, 193, 194, 195] (by decide +kernel) (by decide +kernel)
set_option maxRecDepth 20000 in
theorem ggL_law_X2_isSame_wsX2_isSame_r5 : GoodIn wsL_law wsX2_isSame_r5 := goodIn_r _ [196, 197, 198, 317, 242, 243, 244, 133, 134, 135, 237, 238, 239, 240, 142, 143, 144, 32, 318, 234, 235, 236, 319, 264] (by decide +kernel) (by decide +kernel)
set_option maxRecDepth 20000 in
theorem ggL_law_X2_isSame_wsX2_isSame_r6 : GoodIn wsL_law wsX2_isSame_r6 := goodIn_r _ [265, 266] (by decide +kernel) (by decide +kernel)
set_option maxRecDepth 20000 in
theorem ggL_law_X2_isSame_wsX20 : GoodIn wsL_law wsX20 := goodIn_r _ [335, 336, 337] (by decide +kernel) (by decide +kernel)
set_option maxRecDepth 20000 in
theorem ggL_law_X2_isSame_wsX10 : GoodIn wsL_law wsX10 := goodIn_r _ [320, 321, 322, 323, 324, 325, 326, 327, 328, 329, 330] (by decide +kernel) (by decide +kernel)
set_option maxRecDepth 20000 in
theorem ggL_law_X2_isSame_wsX00 : GoodIn wsL_law wsX00 := goodIn_r _ [331, 332, 333, 334] (by decide +kernel) (by decide +kernel)
set_option maxRecDepth 20000 in
theorem ggL_law_X2_isSame : GoodIn wsL_law wsX2_isSame := goodIn_ca (goodIn_id (goodIn_app ggL_law_X2_isSame_p0 (goodIn_app (goodIn_app (goodIn_app (goodIn_app ggL_law_X2_isSame_wsX2_isSame_r1 (goodIn_app ggL_law_X2_isSame_wsX2_isSame_r2 (goodIn_app ggL_law_X2_isSame_wsX2_isSame_r3 (goodIn_app ggL_law_X2_isSame_wsX2_isSame_r4 (goodIn_app ggL_law_X2_isSame_wsX2_isSame_r5 ggL_law_X2_isSame_wsX2_isSame_r6))))) ggL_law_X2_isSame_wsX20) ggL_law_X2_isSame_wsX10) ggL_law_X2_isSame_wsX00))) (goodIn_sub (fun _ h => List.mem_append_left _ (List.mem_append_right _ h)) (by decide +kernel))

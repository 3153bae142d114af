theorem goodIn_one {big : List Cond} {w : Cond} (i : Nat) (h : big[i]? = some w) (hg : goodWord w = true) : GoodIn big [w] := goodIn_sub (fun x hx => by rw [List.mem_singleton.mp hx]; exact List.mem_of_getElem? h) (by simp [hg])
theorem goodIn_id {big ws : List Cond} (h : GoodIn big ws) : GoodIn big ws := h
set_option maxRecDepth 20000 in
theorem ggL_build_L_act_p0 : GoodIn wsL_build [.codeWith yL_act cL_act 9 (some .boolean) [(246, 273, 274, 54), (329, 360, 361, 54)]] := goodIn_one 20 rfl rfl
set_option maxRecDepth 20000 in
theorem ggL_build_L_act_wsL_act_r1 : GoodIn wsL_build wsL_act_r1 := goodIn_r _ [21, 22, 23, 24, 25, 26, 27, 28, 3, 29, 9, 30, 31, 15, 32, 33, 34, 35, 36, 37, 38, 39, 40, 41] (by decide +kernel) (by decide +kernel)
set_option maxRecDepth 20000 in
theorem ggL_build_L_act_wsL_act_r2 : GoodIn wsL_build wsL_act_r2 := goodIn_r _ [42, 43, 44, 45, 46, 47, 48, 49, 50, 51, 52, 53, 54, 55, 56, 57, 58, 59, 60, 61, 62, 63, 64, 65] (by decide +kernel) (by decide +kernel)
set_option maxRecDepth 20000 in
theorem ggL_build_L_act_wsL_act_r3 : GoodIn wsL_build wsL_act_r3 := goodIn_r _ [66, 67, 68, 69, 70, 71, 72, 73, 74, 75, 76, 77, 78, 79, 80, 81, 82, 83, 84, 85, 86, 87, 88, 89] (by decide +kernel) (by decide +kernel)
set_option maxRecDepth 20000 in
theorem ggL_build_L_act_wsL_act_r4 : GoodIn wsL_build wsL_act_r4 := goodIn_r _ [90, 91, 92, 93, 94, 95, 96, 97, 98, 99, 100, 101, 102, 103, 104, 105, 106, 107, 108, 109, 110, 111, 112, 113] (by decide +kernel) (by decide +kernel)
set_option maxRecDepth 20000 in
theorem ggL_build_L_act_wsL_act_r5 : GoodIn wsL_build wsL_act_r5 := goodIn_r _ [114, 115, 116, 117, 118, 119, 120, 121, 122, 123, 124, 125, 126, 127, 128, 129, 130, 131, 132, 133, 134, 12, 135, 136] (by decide +kernel) (by decide +kernel)
set_option maxRecDepth 20000 in
theorem ggL_build_L_act_wsL_act_r6 : GoodIn wsL_build wsL_act_r6 := goodIn_r _ [137, 138, 139, 140, 141, 142, 143, 144, 145, 146, 147, 148, 149, 150, 151, 152, 153, 154, 155, 156, 157, 158, 159, 160] (by decide +kernel) (by decide +kernel)
set_option maxRecDepth 20000 in
theorem ggL_build_L_act_wsL_act_r7 : GoodIn wsL_build wsL_act_r7 := goodIn_r _ [161, 162, 163, 164, 165, 166, 167, 168, 169, 170] (by decide +kernel) (by decide +kernel)
set_option maxRecDepth 20000 in
theorem ggL_build_L_act_wsX20 : GoodIn wsL_build wsX20 := goodIn_r _ [171, 172, 173] (by decide +kernel) (by decide +kernel)
set_option maxRecDepth 20000 in
theorem ggL_build_L_act_wsX10 : GoodIn wsL_build wsX10 := goodIn_r _ [174, 175, 176, 177, 178, 179, 180, 181, 182, 183, 184] (by decide +kernel) (by decide +kernel)
set_option maxRecDepth 20000 in
theorem ggL_build_L_act_wsX00 : GoodIn wsL_build wsX00 := goodIn_r _ [185, 186, 187, 188] (by decide +kernel) (by decide +kernel)
set_option maxRecDepth 20000 in
theorem ggL_build_L_act : GoodIn wsL_build wsL_act := goodIn_ca (goodIn_ca (goodIn_ca (goodIn_id (goodIn_app ggL_build_L_act_p0 (goodIn_app (goodIn_app (goodIn_app (goodIn_app ggL_build_L_act_wsL_act_r1 (goodIn_app ggL_build_L_act_wsL_act_r2 (goodIn_app ggL_build_L_act_wsL_act_r3 (goodIn_app ggL_build_L_act_wsL_act_r4 (goodIn_app ggL_build_L_act_wsL_act_r5 (goodIn_app ggL_build_L_act_wsL_act_r6 ggL_build_L_act_wsL_act_r7)))))) ggL_build_L_act_wsX20) ggL_build_L_act_wsX10) ggL_build_L_act_wsX00))) (goodIn_sub (fun _ h => List.mem_cons_of_mem _ (List.mem_append_left _ (List.mem_append_left _ (List.mem_append_right _ h)))) (by decide +kernel))) (goodIn_sub (fun _ h => List.mem_cons_of_mem _ (List.mem_append_left _ (List.mem_append_right _ h))) (by decide +kernel))) (goodIn_sub (fun _ h => List.mem_cons_of_mem _ (List.mem_append_right _ h)) (by decide +kernel))

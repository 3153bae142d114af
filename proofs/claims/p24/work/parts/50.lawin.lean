set_option maxRecDepth 20000 in
theorem in_wsL_law0_r1 : ∀ w ∈ wsL_law0_r1, w ∈ lw_tbl := fun w h => (goodIn_p wsL_law0_r1 [38, 41] (by decide +kernel) (by decide +kernel) w h).1
set_option maxRecDepth 20000 in
theorem in_wsL_law0_r2 : ∀ w ∈ wsL_law0_r2, w ∈ lw_tbl := fun w h => (goodIn_p wsL_law0_r2 [46, 53, 57, 61] (by decide +kernel) (by decide +kernel) w h).1
set_option maxRecDepth 20000 in
theorem in_wsL_law0_r3 : ∀ w ∈ wsL_law0_r3, w ∈ lw_tbl := fun w h => (goodIn_p wsL_law0_r3 [64, 67, 70, 90, 94, 98, 102] (by decide +kernel) (by decide +kernel) w h).1
def wsL_law0_r4a : List Cond := [Cond.static yL_build, Cond.initialized RL, Cond.code yL_build cL_build 4 (some (.object "HiddenCandlesLaw$Sim")), Cond.classLink RL 10 RX2, Cond.instantiable RX2 3, Cond.initialized RX2, Cond.instanceMethod yX2_init, Cond.code yX2_init cX2_init 1 none, Cond.methodLink RX2 1 objectInit, Cond.fieldLink RX2 7 "HiddenCandlesLaw$Sim" "colours" "I", Cond.fieldLink RX2 13 "HiddenCandlesLaw$Sim" "hidden" "I", Cond.classLink RX2 16 "[I", Cond.fieldLink RX2 18 "HiddenCandlesLaw$Sim" "guesses" "[[I", Cond.methodLink RL 91 yL_cell, Cond.static yL_cell, Cond.code yL_cell cL_cell 2 (some .int), Cond.constant RL 8 (790386105), Cond.methodLink RL 95 yL_act, Cond.static yL_act]
set_option maxRecDepth 20000 in
theorem in_wsL_law0_r4a : ∀ w ∈ wsL_law0_r4a, w ∈ lw_tbl := fun w h => (goodIn_p wsL_law0_r4a [477, 482, 434] (by decide +kernel) (by decide +kernel) w h).1
def wsL_law0_r4b : List Cond := [Cond.classLink RL 54 "java/lang/IllegalStateException", Cond.fieldLink RL 21 "HiddenCandlesLaw$Sim" "guesses" "[[I", Cond.fieldLink RL 25 "HiddenCandlesLaw$Sim" "colours" "I", Cond.fieldLink RL 29 "HiddenCandlesLaw$Sim" "hidden" "I"]
set_option maxRecDepth 20000 in
theorem in_wsL_law0_r4b : ∀ w ∈ wsL_law0_r4b, w ∈ lw_tbl := fun w h => (goodIn_p wsL_law0_r4b [] (by decide +kernel) (by decide +kernel) w h).1
theorem in_wsL_law0_r4 : ∀ w ∈ wsL_law0_r4, w ∈ lw_tbl := by
  intro w h
  have h : w ∈ wsL_law0_r4a ++ (Cond.codeWith yL_act cL_act 9 (some .boolean) [(246, 273, 274, 54), (329, 360, 361, 54)] :: wsL_law0_r4b) := h
  rcases List.mem_append.mp h with h | h
  · exact in_wsL_law0_r4a w h
  · rcases List.mem_cons.mp h with h | h
    · rw [h]; exact List.mem_append_right _ (List.mem_of_getElem? (i := 416) rfl)
    · exact in_wsL_law0_r4b w h
set_option maxRecDepth 20000 in
theorem in_wsL_law0_r5 : ∀ w ∈ wsL_law0_r5, w ∈ lw_tbl := fun w h => (goodIn_p wsL_law0_r5 [408, 430, 445, 450, 146] (by decide +kernel) (by decide +kernel) w h).1

set_option maxRecDepth 20000 in
theorem in_wsL_law0_r5 : ∀ w ∈ wsL_law0_r5, w ∈ lw_tbl := fun w h => (goodIn_p wsL_law0_r5 [220, 253] (by decide +kernel) (by decide +kernel) w h).1
def wsL_r6a : List Cond := [Cond.fieldLink RX2 23 "ProductLineChecker$Inspector" "size" "I", Cond.fieldLink RX2 27 "ProductLineChecker$Inspector" "program" "LProductLineChecker$Program;", Cond.fieldLink RX2 31 "ProductLineChecker$Inspector" "view" "LProductLineChecker$View;", Cond.methodLink RX2 11 yX5_init, Cond.methodLink RL 67 yL_build, Cond.static yL_build, Cond.initialized RL]
def wsL_r6b : List Cond := [Cond.methodLink RL 15 yL_cell, Cond.static yL_cell, Cond.code yL_cell cL_cell 2 (some .int), Cond.constant RL 8 (790386105), Cond.methodLink RL 9 yL_below, Cond.static yL_below, Cond.code yL_below cL_below 2 (some .int), Cond.constant RL 7 (2147483647), Cond.methodLink RL 19 yX8_addRule, Cond.instanceMethod yX8_addRule, Cond.selects RX8 yX8_addRule yX8_addRule, Cond.code yX8_addRule cX8_addRule 4 (some .int), Cond.classLink RX8 45 "java/lang/IllegalArgumentException", Cond.initialized "java/lang/IllegalArgumentException", Cond.classLink RX8 56 "java/lang/IllegalStateException", Cond.initialized "java/lang/IllegalStateException"]
set_option maxRecDepth 20000 in
theorem in_r6a : ∀ w ∈ wsL_r6a, w ∈ lw_tbl := fun w h => (goodIn_p wsL_r6a [] (by decide +kernel) (by decide +kernel) w h).1
set_option maxRecDepth 20000 in
theorem in_r6b : ∀ w ∈ wsL_r6b, w ∈ lw_tbl := fun w h => (goodIn_p wsL_r6b [891, 887, 289] (by decide +kernel) (by decide +kernel) w h).1
set_option maxRecDepth 20000 in
theorem in_build : Cond.code yL_build cL_build 20 (some .boolean) ∈ lw_tbl := List.mem_append_right _ (List.mem_append_right _ (List.mem_append_right _ (List.mem_append_right _ (List.mem_of_getElem? (i := 149) rfl))))
theorem in_wsL_law0_r6 : ∀ w ∈ wsL_law0_r6, w ∈ lw_tbl := fun w h => by
  have h : w ∈ wsL_r6a ++ (Cond.code yL_build cL_build 20 (some .boolean) :: wsL_r6b) := h
  rcases List.mem_append.mp h with h | h
  · exact in_r6a w h
  · rcases List.mem_cons.mp h with h | h
    · rw [h]; exact in_build
    · exact in_r6b w h
set_option maxRecDepth 20000 in
theorem in_wsL_law0_r7 : ∀ w ∈ wsL_law0_r7, w ∈ lw_tbl := fun w h => (goodIn_p wsL_law0_r7 [292, 364, 384, 388, 898, 411] (by decide +kernel) (by decide +kernel) w h).1
set_option maxRecDepth 20000 in
theorem in_wsL_law0_r8 : ∀ w ∈ wsL_law0_r8, w ∈ lw_tbl := fun w h => (goodIn_p wsL_law0_r8 [414, 419, 424, 428, 432, 436] (by decide +kernel) (by decide +kernel) w h).1

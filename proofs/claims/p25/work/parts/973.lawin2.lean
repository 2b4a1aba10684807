set_option maxRecDepth 20000 in
theorem wl_11 : ∀ w ∈ wsL_law_r11, w ∈ lw_tbl := fun w h => (goodIn_p wsL_law_r11 [408, 412, 416, 420, 424] (by decide +kernel) (by decide +kernel) w h).1
set_option maxRecDepth 20000 in
theorem wl_12 : ∀ w ∈ wsL_law_r12, w ∈ lw_tbl := fun w h => (goodIn_p wsL_law_r12 [428, 432, 436, 440, 445] (by decide +kernel) (by decide +kernel) w h).1
set_option maxRecDepth 20000 in
theorem wl_13 : ∀ w ∈ wsL_law_r13, w ∈ lw_tbl := fun w h => (goodIn_p wsL_law_r13 [451, 455, 459, 463, 468] (by decide +kernel) (by decide +kernel) w h).1
set_option maxRecDepth 20000 in
theorem wl_14 : ∀ w ∈ wsL_law_r14, w ∈ lw_tbl := fun w h => (goodIn_p wsL_law_r14 [472, 476, 480, 484, 488] (by decide +kernel) (by decide +kernel) w h).1
set_option maxRecDepth 20000 in
theorem wl_15 : ∀ w ∈ wsL_law_r15, w ∈ lw_tbl := fun w h => (goodIn_p wsL_law_r15 [492, 496, 500, 504, 509] (by decide +kernel) (by decide +kernel) w h).1
set_option maxRecDepth 20000 in
theorem wl_16 : ∀ w ∈ wsL_law_r16, w ∈ lw_tbl := fun w h => (goodIn_p wsL_law_r16 [270, 274, 515, 375, 518, 521, 524] (by decide +kernel) (by decide +kernel) w h).1
def wl_17A : List Cond := [Cond.static yL_arrives, Cond.code yL_arrives cL_arrives 15 (some .boolean), Cond.methodLink RL 28 yL_answered, Cond.static yL_answered, Cond.code yL_answered cL_answered 10 none, Cond.methodLink RL 24 yL_takes, Cond.static yL_takes, Cond.code yL_takes cL_takes 7 none, Cond.methodLink RL 32 yL_notes, Cond.static yL_notes, Cond.code yL_notes cL_notes 9 none, Cond.methodLink RL 118 yL_isSo, Cond.static yL_isSo]
def wl_17B : List Cond := [Cond.methodLink RL 49 yX7_noted, Cond.instanceMethod yX7_noted, Cond.selects RX7 yX7_noted yX7_noted, Cond.code yX7_noted cX7_noted 3 (some .int), Cond.methodLink RX7 145 yX4_tell, Cond.instanceMethod yX4_tell, Cond.selects RX4 yX4_tell yX4_tell, Cond.code yX4_tell cX4_tell 4 (some .int), Cond.methodLink RL 55 yX7_waiting, Cond.instanceMethod yX7_waiting]
theorem wl_17e : wsL_law_r17 = wl_17A ++ Cond.code yL_isSo cL_isSo 15 (some .boolean) :: wl_17B := rfl
set_option maxRecDepth 20000 in
theorem wl_17a : ∀ w ∈ wl_17A, w ∈ lw_tbl := fun w h => (goodIn_p wl_17A [528, 531, 534, 537] (by decide +kernel) (by decide +kernel) w h).1
set_option maxRecDepth 20000 in
theorem wl_17b : ∀ w ∈ wl_17B, w ∈ lw_tbl := fun w h => (goodIn_p wl_17B [344, 348] (by decide +kernel) (by decide +kernel) w h).1
set_option maxRecDepth 20000 in
theorem wl_17m : Cond.code yL_isSo cL_isSo 15 (some .boolean) ∈ lw_tbl := List.mem_of_getElem? (i := 316) rfl
theorem wl_17 : ∀ w ∈ wsL_law_r17, w ∈ lw_tbl := by
  rw [wl_17e]
  intro w hw
  rcases List.mem_append.mp hw with h | h
  · exact wl_17a w h
  · rcases List.mem_cons.mp h with h | h
    · subst h; exact wl_17m
    · exact wl_17b w h
set_option maxRecDepth 20000 in
theorem wl_18 : ∀ w ∈ wsL_law_r18, w ∈ lw_tbl := fun w h => (goodIn_p wsL_law_r18 [356, 360] (by decide +kernel) (by decide +kernel) w h).1
set_option maxRecDepth 20000 in
theorem wx_0 : ∀ w ∈ wsX00, w ∈ lw_tbl := fun w h => (goodIn_p wsX00 [] (by decide +kernel) (by decide +kernel) w h).1
set_option maxRecDepth 20000 in
theorem wx_1 : ∀ w ∈ wsX10, w ∈ lw_tbl := fun w h => (goodIn_p wsX10 [] (by decide +kernel) (by decide +kernel) w h).1

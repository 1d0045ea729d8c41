/-! the law's words -/
def wsL_law0_r16a : List Cond := [Cond.instanceMethod yX8_shareOfReached, Cond.selects RX8 yX8_shareOfReached yX8_shareOfReached, Cond.code yX8_shareOfReached cX8_shareOfReached 1 (some .double), Cond.methodLink RL 83 yL_cell, Cond.static yL_cell, Cond.code yL_cell cL_cell 2 (some .int), Cond.constant RL 7 (763619767), Cond.constant RL 8 (921806285), Cond.methodLink RL 87 yL_act, Cond.static yL_act]
def wsL_law0_r16b : List Cond := [Cond.methodLink RL 54 yL_low, Cond.static yL_low, Cond.code yL_low cL_low 2 (some .int), Cond.constant RL 9 (2147483647), Cond.methodLink RL 57 yX8_build, Cond.instanceMethod yX8_build, Cond.selects RX8 yX8_build yX8_build, Cond.code yX8_build cX8_build 3 (some .int), Cond.methodLink RX8 76 yX1_save, Cond.instanceMethod yX1_save, Cond.selects RX1 yX1_save yX1_save, Cond.code yX1_save cX1_save 3 none, Cond.fieldLink RX1 18 "LedgeLeaps$History" "size" "I"]
set_option maxRecDepth 20000 in
theorem wsL_law0_r16a_in : ∀ w ∈ wsL_law0_r16a, w ∈ lw_tbl := fun w h => (goodIn_p wsL_law0_r16a [632, 496] (by decide +kernel) (by decide +kernel) w h).1
set_option maxRecDepth 20000 in
theorem wsL_law0_r16b_in : ∀ w ∈ wsL_law0_r16b, w ∈ lw_tbl := fun w h => (goodIn_p wsL_law0_r16b [501, 667, 671] (by decide +kernel) (by decide +kernel) w h).1
set_option maxRecDepth 20000 in
theorem wsL_law0_r16c_in : Cond.code yL_act cL_act 16 (some .boolean) ∈ lw_tbl := List.mem_of_getElem? (i := 663) rfl
theorem wsL_law0_r16_in : ∀ w ∈ wsL_law0_r16, w ∈ lw_tbl := fun w h => (List.mem_append.mp (show w ∈ wsL_law0_r16a ++ (Cond.code yL_act cL_act 16 (some .boolean) :: wsL_law0_r16b) from h)).elim (fun h => wsL_law0_r16a_in w h) (fun h => (List.mem_cons.mp h).elim (fun e => e ▸ wsL_law0_r16c_in) (fun h => wsL_law0_r16b_in w h))

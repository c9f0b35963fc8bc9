set_option maxRecDepth 20000 in
theorem wsL_law_r7_in : ∀ w ∈ wsL_law_r7, w ∈ lw_tbl := fun w h => (goodIn_p wsL_law_r7 [311, 315, 319, 325, 329, 333] (by decide +kernel) (by decide +kernel) w h).1
set_option maxRecDepth 20000 in
theorem wsL_law_r8_in : ∀ w ∈ wsL_law_r8, w ∈ lw_tbl := fun w h => (goodIn_p wsL_law_r8 [341, 346, 350, 354, 357, 362, 366] (by decide +kernel) (by decide +kernel) w h).1
set_option maxRecDepth 20000 in
theorem wsL_law_r9_in : ∀ w ∈ wsL_law_r9, w ∈ lw_tbl := by
  show ∀ w ∈ (([Cond.selects RX0 yX0_setOf yX0_setOf, Cond.code yX0_setOf cX0_setOf 4 (some .int), Cond.methodLink RX0 92 yJ6_bitCount_0f7a4, Cond.static yJ6_bitCount_0f7a4, Cond.initialized RJ6, Cond.code yJ6_bitCount_0f7a4 cJ6_bitCount_0f7a4 1 (some .int), Cond.constant RJ6 265 (1431655765), Cond.constant RJ6 266 (858993459), Cond.constant RJ6 267 (252645135), Cond.instanceMethod yX0_missedContracts, Cond.selects RX0 yX0_missedContracts yX0_missedContracts, Cond.code yX0_missedContracts cX0_missedContracts 3 (some .int), Cond.instanceMethod yX2_allInflows, Cond.selects RX2 yX2_allInflows yX2_allInflows, Cond.code yX2_allInflows cX2_allInflows 3 (some .int), Cond.methodLink RL 75 yL_act, Cond.static yL_act, Cond.initialized RL] ++ ([Cond.code yL_act cL_act 6 (some .int)] ++ [Cond.methodLink RL 40 yL_cell, Cond.static yL_cell, Cond.code yL_cell cL_cell 2 (some .int), Cond.constant RL 8 (40503), Cond.methodLink RL 46 yL_low])) : List Cond), w ∈ lw_tbl
  exact (List.forall_mem_append.mpr ⟨(fun w h => (goodIn_p (big := lw_tbl) _ [370, 373, 380, 385] (by decide +kernel) (by decide +kernel) w h).1), (List.forall_mem_append.mpr ⟨(List.forall_mem_cons.mpr ⟨List.mem_of_getElem? (i := 497) rfl, fun _ h => absurd h List.not_mem_nil⟩), (fun w h => (goodIn_p (big := lw_tbl) _ [500] (by decide +kernel) (by decide +kernel) w h).1)⟩)⟩)
set_option maxRecDepth 20000 in
theorem wsL_law_r10_in : ∀ w ∈ wsL_law_r10, w ∈ lw_tbl := fun w h => (goodIn_p wsL_law_r10 [504, 509, 513, 517, 521, 526, 530] (by decide +kernel) (by decide +kernel) w h).1
set_option maxRecDepth 20000 in
theorem wsL_law_r11_in : ∀ w ∈ wsL_law_r11, w ∈ lw_tbl := fun w h => (goodIn_p wsL_law_r11 [535, 539, 543, 547, 551, 555] (by decide +kernel) (by decide +kernel) w h).1
set_option maxRecDepth 20000 in
theorem wsL_law_r12_in : ∀ w ∈ wsL_law_r12, w ∈ lw_tbl := fun w h => (goodIn_p wsL_law_r12 [559, 563, 567, 571, 575, 581, 585] (by decide +kernel) (by decide +kernel) w h).1

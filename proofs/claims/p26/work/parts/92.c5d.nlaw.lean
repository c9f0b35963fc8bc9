set_option maxRecDepth 20000 in
theorem ggL_act_L_cell : GoodIn wsL_act wsL_cell := goodIn_r _ [4, 5] (by decide +kernel) (by decide +kernel)
set_option maxRecDepth 20000 in
theorem gL_act_L_cell : GoodIn wsL_act (va_wsS RL 40 yL_cell wsL_cell) := goodIn_app (goodIn_of _ (by decide +kernel)) ggL_act_L_cell
set_option maxRecDepth 20000 in
theorem ggL_act_L_low : GoodIn wsL_act wsL_low := goodIn_r _ [8, 9] (by decide +kernel) (by decide +kernel)
set_option maxRecDepth 20000 in
theorem gL_act_L_low : GoodIn wsL_act (va_wsS RL 46 yL_low wsL_low) := goodIn_app (goodIn_of _ (by decide +kernel)) ggL_act_L_low
set_option maxRecDepth 20000 in
theorem ggL_act_X6_price : GoodIn wsL_act wsX6_price := goodIn_r _ [14, 15, 16, 17, 18, 19, 20, 21, 22, 23, 24, 25, 26, 27, 28, 13, 29, 30, 31, 32, 33, 34, 35, 36, 37, 38, 39, 40, 41, 42, 43, 44, 45, 46, 47, 48, 49, 50, 51, 52, 224, 225, 226, 227, 228, 229, 230, 231, 232, 233, 234, 235, 236] (by decide +kernel) (by decide +kernel)
set_option maxRecDepth 20000 in
theorem gL_act_X6_price : GoodIn wsL_act (wsV RL 49 RX6 yX6_price wsX6_price) := goodIn_app (goodIn_of _ (by decide +kernel)) ggL_act_X6_price
set_option maxRecDepth 20000 in
theorem ggL_act_X6_inflow : GoodIn wsL_act wsX6_inflow := goodIn_r _ [56, 15, 16, 17, 18, 19, 20, 21, 22, 23, 24, 25, 26, 27, 28, 13, 29, 30, 31, 32, 33, 34, 35, 36, 37, 57, 58, 59, 41, 42, 43, 44, 45, 46, 47, 48, 49, 50, 51, 52, 224, 225, 226, 227, 228, 229, 230, 231, 232, 233, 234, 235, 236] (by decide +kernel) (by decide +kernel)
set_option maxRecDepth 20000 in
theorem gL_act_X6_inflow : GoodIn wsL_act (wsV RL 52 RX6 yX6_inflow wsX6_inflow) := goodIn_app (goodIn_of _ (by decide +kernel)) ggL_act_X6_inflow
set_option maxRecDepth 20000 in
theorem ggL_act_X6_plan : GoodIn wsL_act wsX6_plan := goodIn_r _ [63, 15, 16, 17, 18, 19, 20, 21, 22, 23, 24, 25, 26, 27, 28, 13, 29, 30, 31, 32, 33, 34, 35, 36, 37, 64, 65, 66, 42, 43, 44, 45, 46, 47, 48, 49, 50, 51, 52, 224, 225, 226, 227, 228, 229, 230, 231, 232, 233, 234, 235, 236] (by decide +kernel) (by decide +kernel)
set_option maxRecDepth 20000 in
theorem gL_act_X6_plan : GoodIn wsL_act (wsV RL 55 RX6 yX6_plan wsX6_plan) := goodIn_app (goodIn_of _ (by decide +kernel)) ggL_act_X6_plan
set_option maxRecDepth 20000 in
theorem ggL_act_X6_contract : GoodIn wsL_act wsX6_contract := goodIn_r _ [70, 15, 16, 17, 18, 19, 20, 21, 22, 23, 24, 25, 26, 27, 28, 13, 29, 30, 31, 32, 33, 34, 35, 36, 37, 71, 72, 73, 41, 42, 43, 74, 75, 76, 77, 44, 45, 46, 47, 48, 49, 50, 51, 52, 224, 225, 226, 227, 228, 229, 230, 231, 232, 233, 234, 235, 236] (by decide +kernel) (by decide +kernel)
set_option maxRecDepth 20000 in
theorem gL_act_X6_contract : GoodIn wsL_act (wsV RL 58 RX6 yX6_contract wsX6_contract) := goodIn_app (goodIn_of _ (by decide +kernel)) ggL_act_X6_contract

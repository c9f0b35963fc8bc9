set_option maxRecDepth 20000 in
theorem ggL_act_X6_drop : GoodIn wsL_act wsX6_drop := goodIn_r _ [81, 15, 16, 17, 18, 19, 20, 21, 22, 23, 24, 25, 26, 27, 28, 13, 29, 30, 31, 32, 33, 34, 35, 36, 37, 82, 83, 84, 41, 85, 86, 87, 88, 74, 75, 76, 77, 48, 49, 50, 51, 52, 224, 225, 226, 227, 228, 229, 230, 231, 232, 233, 234, 235, 236] (by decide +kernel) (by decide +kernel)
set_option maxRecDepth 20000 in
theorem gL_act_X6_drop : GoodIn wsL_act (wsV RL 62 RX6 yX6_drop wsX6_drop) := goodIn_app (goodIn_of _ (by decide +kernel)) ggL_act_X6_drop
set_option maxRecDepth 20000 in
theorem ggL_act_X6_set : GoodIn wsL_act wsX6_set := goodIn_r _ [92, 15, 16, 17, 18, 19, 20, 21, 22, 23, 24, 25, 26, 27, 28, 13, 29, 30, 31, 32, 33, 34, 35, 36, 37, 93, 94, 95, 96, 41, 97, 98, 99, 100, 101, 102, 103, 104, 105, 106, 107, 108, 44, 45, 46, 47, 48, 49, 50, 51, 52, 224, 225, 226, 227, 228, 229, 230, 231, 232, 233, 234, 235, 236] (by decide +kernel) (by decide +kernel)
set_option maxRecDepth 20000 in
theorem gL_act_X6_set : GoodIn wsL_act (wsV RL 65 RX6 yX6_set wsX6_set) := goodIn_app (goodIn_of _ (by decide +kernel)) ggL_act_X6_set
set_option maxRecDepth 20000 in
theorem ggL_act_X6_undo : GoodIn wsL_act wsX6_undo := goodIn_r _ [112, 15, 16, 113, 18, 114, 115, 51, 21, 22, 116, 24, 117, 118, 27, 41, 28, 13, 29, 30, 31, 32, 33, 34, 35, 36, 37, 224, 225, 226, 227, 228, 229, 230, 231, 232, 233, 234, 235, 236] (by decide +kernel) (by decide +kernel)
set_option maxRecDepth 20000 in
theorem gL_act_X6_undo : GoodIn wsL_act (wsV RL 68 RX6 yX6_undo wsX6_undo) := goodIn_app (goodIn_of _ (by decide +kernel)) ggL_act_X6_undo
set_option maxRecDepth 20000 in
theorem ggL_act_X6_adopt : GoodIn wsL_act wsX6_adopt := goodIn_r _ [122, 15, 16, 17, 18, 19, 20, 21, 22, 23, 24, 25, 26, 27, 28, 13, 29, 30, 31, 32, 33, 34, 35, 36, 37, 123, 124, 125, 126, 127, 128, 129, 130, 131, 132, 133, 134, 135, 136, 137, 138, 139, 140, 141, 142, 143, 144, 145, 146, 147, 148, 149, 150, 151, 152, 153, 154, 155, 156, 74, 75, 76, 77, 157, 158, 159, 160, 161, 162, 163, 164, 165, 166, 167, 168, 169, 170, 171, 172, 173, 174, 175, 176, 177, 178, 179, 180, 181, 182, 183, 184, 42, 43, 185, 186, 187, 188, 189, 190, 191, 192, 193, 194, 195, 196, 197, 198, 199, 200, 201, 202, 203, 204, 205, 206, 207, 208, 209, 210, 211, 212, 213, 214, 215, 216, 217, 218, 219, 220, 221, 222, 223, 106, 107, 108, 64, 65, 66, 44, 45, 46, 47, 48, 49, 50, 51, 52, 224, 225, 226, 227, 228, 229, 230, 231, 232, 233, 234, 235, 236, 237, 238, 239, 240, 241, 242, 243, 244, 245] (by decide +kernel) (by decide +kernel)
set_option maxRecDepth 20000 in
theorem gL_act_X6_adopt : GoodIn wsL_act (wsV RL 71 RX6 yX6_adopt wsX6_adopt) := goodIn_app (goodIn_of _ (by decide +kernel)) ggL_act_X6_adopt

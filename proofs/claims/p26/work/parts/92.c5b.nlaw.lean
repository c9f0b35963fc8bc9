set_option maxRecDepth 20000 in
theorem ggL_best_X6_best : GoodIn wsL_best wsX6_best := goodIn_r _ [6, 7, 8, 9, 10, 11, 12, 13, 14, 15, 16, 17, 18, 19, 20, 21, 22, 23, 24, 25, 26, 27, 28, 29, 30, 31, 32, 33, 34, 35, 36, 37, 38, 39, 40, 41, 42, 43, 44, 45, 46, 47, 48, 49, 50, 51, 52, 53, 54, 55, 56, 57, 58, 59, 60, 61, 62, 63, 64, 65, 66, 67, 68, 69, 70, 71, 72, 73, 74, 75, 76, 77, 5, 78, 79, 80, 81, 82, 83, 84, 85, 86, 87, 88, 89, 90, 91, 92, 93, 94, 95, 96, 97, 98, 99, 100, 101, 102, 103, 104, 105, 106, 107, 108, 109, 110, 111, 112, 113, 114, 115, 116, 117, 203, 204, 205, 206, 207, 208, 209, 210, 211, 212, 213, 214, 215, 216, 217, 218, 219, 220, 221] (by decide +kernel) (by decide +kernel)
set_option maxRecDepth 20000 in
theorem gL_best_X6_best : GoodIn wsL_best (wsV RL 27 RX6 yX6_best wsX6_best) := goodIn_app (goodIn_of _ (by decide +kernel)) ggL_best_X6_best
set_option maxRecDepth 20000 in
theorem ggL_best_X6_highest : GoodIn wsL_best wsX6_highest := goodIn_r _ [121, 8, 122, 21, 123, 124, 24, 125, 110, 111, 112, 113, 100, 101, 53, 54, 55, 56, 114, 102, 103, 104, 105, 25, 26, 27, 106, 79, 80, 81, 115, 107, 108, 109, 116, 61, 62, 63, 64, 65, 66, 117, 50, 51, 52, 203, 204, 205, 206, 207, 208, 209, 210, 220, 221] (by decide +kernel) (by decide +kernel)
set_option maxRecDepth 20000 in
theorem gL_best_X6_highest : GoodIn wsL_best (wsV RL 31 RX6 yX6_highest wsX6_highest) := goodIn_app (goodIn_of _ (by decide +kernel)) ggL_best_X6_highest
set_option maxRecDepth 20000 in
theorem ggL_best_X6_day : GoodIn wsL_best wsX6_day := goodIn_r _ [129, 130, 8, 131, 132, 133, 134, 135, 136, 137, 138, 20, 21, 22, 23, 24, 139, 140, 141, 142, 143, 144, 145, 146, 147, 77, 5, 78, 148, 149, 150, 100, 101, 53, 54, 55, 56, 102, 103, 104, 105, 25, 26, 27, 106, 79, 80, 81, 107, 108, 109, 61, 62, 63, 64, 65, 66, 50, 51, 52, 35, 36, 37, 38, 39, 40, 41, 42, 43, 44, 45, 46, 47, 48, 49, 151, 152, 153, 154, 155, 156, 157, 158, 159, 160, 161, 10, 162, 163, 164, 165, 166, 167, 168, 169, 170, 171, 172, 173, 174, 175, 176, 177, 178, 179, 180, 181, 182, 183, 184, 185, 186, 187, 203, 204, 205, 206, 207, 208, 209, 210, 222, 223, 224, 225, 226, 227, 228, 229, 230, 220, 221] (by decide +kernel) (by decide +kernel)
set_option maxRecDepth 20000 in
theorem gL_best_X6_day : GoodIn wsL_best (wsV RL 21 RX6 yX6_day wsX6_day) := goodIn_app (goodIn_of _ (by decide +kernel)) ggL_best_X6_day
set_option maxRecDepth 20000 in
theorem ggL_best_X6_count : GoodIn wsL_best wsX6_count := goodIn_r _ [191, 8, 192, 193, 20, 21, 22, 23, 24, 43, 44, 45, 203, 204, 205, 206, 207, 208, 209, 210, 231, 232, 233, 234, 235, 220, 221] (by decide +kernel) (by decide +kernel)
set_option maxRecDepth 20000 in
theorem gL_best_X6_count : GoodIn wsL_best (wsV RL 9 RX6 yX6_count wsX6_count) := goodIn_app (goodIn_of _ (by decide +kernel)) ggL_best_X6_count

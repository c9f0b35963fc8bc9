set_option maxRecDepth 20000 in
theorem ggL_law_X6_init : GoodIn wsL_law wsX6_init := goodIn_r _ [9, 10, 11, 12, 13, 14, 15, 16, 17, 18, 19, 20, 21, 22, 23, 24, 25, 26, 27, 28, 29, 30, 31, 32, 33, 34, 35, 36, 37, 38, 39, 40, 41, 42, 43, 44, 45, 46, 47, 48, 2, 49, 50, 51, 52, 53, 54, 55, 56, 57, 58, 59, 60, 61, 62, 63, 64, 65, 66, 67, 68, 69, 70, 71, 72, 73, 74, 75, 76, 77, 78, 79, 80, 81, 82, 83, 84, 85, 86, 87, 88, 89, 90, 91, 92, 93, 94, 95, 96, 97, 98, 99, 100, 101, 102, 103, 104, 105, 106, 107, 108, 750, 751, 724, 725, 726, 727, 728, 729, 730, 731, 752, 753, 754, 755, 756, 757, 758, 759, 760, 761, 762, 763, 764, 765, 766, 767, 768, 769, 770, 771, 772, 773, 774, 775, 776, 777, 778, 779, 780, 781, 782, 783, 784] (by decide +kernel) (by decide +kernel)
set_option maxRecDepth 20000 in
theorem gL_law_X6_init : GoodIn wsL_law (wsX6_init) := ggL_law_X6_init
set_option maxRecDepth 20000 in
theorem ggL_law_X7_init : GoodIn wsL_law wsX7_init := goodIn_r _ [111, 112, 11, 12, 38, 113, 114, 115, 40, 116, 117, 118, 119, 120, 732, 733, 734, 735, 736, 737, 738, 739, 740, 741, 742, 743, 744, 745, 746, 747, 748, 749] (by decide +kernel) (by decide +kernel)
set_option maxRecDepth 20000 in
theorem gL_law_X7_init : GoodIn wsL_law (wsX7_init) := ggL_law_X7_init
set_option maxRecDepth 20000 in
theorem ggL_law_X6_set : GoodIn wsL_law wsX6_set := goodIn_r _ [124, 36, 16, 125, 35, 126, 127, 107, 106, 128, 15, 129, 130, 45, 48, 2, 49, 50, 51, 52, 53, 54, 55, 56, 57, 131, 132, 133, 134, 46, 135, 136, 137, 138, 139, 140, 141, 142, 143, 144, 145, 146, 147, 148, 149, 150, 151, 152, 153, 108, 154, 724, 725, 726, 727, 728, 729, 730, 731, 782, 783, 784, 750, 751] (by decide +kernel) (by decide +kernel)
set_option maxRecDepth 20000 in
theorem gL_law_X6_set : GoodIn wsL_law (wsV RL 13 RX6 yX6_set wsX6_set) := goodIn_app (goodIn_of _ (by decide +kernel)) ggL_law_X6_set
set_option maxRecDepth 20000 in
theorem ggL_law_X7_set : GoodIn wsL_law wsX7_set := goodIn_r _ [158, 159, 160, 5, 161, 162, 163, 164, 165, 166, 167, 168, 113, 169, 170, 171, 172, 173, 114, 174, 175, 176, 177, 178, 179, 180, 732, 733, 734, 735, 736, 737, 738, 739, 740, 741, 742, 743, 744, 745, 746, 747, 748, 749] (by decide +kernel) (by decide +kernel)
set_option maxRecDepth 20000 in
theorem gL_law_X7_set : GoodIn wsL_law (wsV RL 17 RX7 yX7_set wsX7_set) := goodIn_app (goodIn_of _ (by decide +kernel)) ggL_law_X7_set
set_option maxRecDepth 20000 in
theorem ggL_law_X6_price : GoodIn wsL_law wsX6_price := goodIn_r _ [184, 36, 16, 125, 35, 126, 127, 107, 106, 128, 15, 129, 130, 45, 48, 2, 49, 50, 51, 52, 53, 54, 55, 56, 57, 185, 186, 187, 46, 188, 189, 147, 148, 149, 150, 151, 152, 153, 108, 154, 724, 725, 726, 727, 728, 729, 730, 731, 782, 783, 784, 750, 751] (by decide +kernel) (by decide +kernel)
set_option maxRecDepth 20000 in
theorem gL_law_X6_price : GoodIn wsL_law (wsV RL 18 RX6 yX6_price wsX6_price) := goodIn_app (goodIn_of _ (by decide +kernel)) ggL_law_X6_price
set_option maxRecDepth 20000 in
theorem ggL_law_X7_price : GoodIn wsL_law wsX7_price := goodIn_r _ [193, 194, 195, 196, 5, 197, 198, 199, 200, 201, 113, 202, 203, 204, 159, 160, 161, 169, 170, 171, 172, 173, 114, 174, 175, 176, 205, 206, 207, 177, 178, 179, 180, 732, 733, 734, 735, 736, 737, 738, 739, 740, 741, 742, 743, 744, 745, 746, 747, 748, 749] (by decide +kernel) (by decide +kernel)
set_option maxRecDepth 20000 in
theorem gL_law_X7_price : GoodIn wsL_law (wsV RL 21 RX7 yX7_price wsX7_price) := goodIn_app (goodIn_of _ (by decide +kernel)) ggL_law_X7_price
set_option maxRecDepth 20000 in
theorem ggL_law_X6_inflow : GoodIn wsL_law wsX6_inflow := goodIn_r _ [211, 36, 16, 125, 35, 126, 127, 107, 106, 128, 15, 129, 130, 45, 48, 2, 49, 50, 51, 52, 53, 54, 55, 56, 57, 212, 213, 214, 46, 188, 189, 147, 148, 149, 150, 151, 152, 153, 108, 154, 724, 725, 726, 727, 728, 729, 730, 731, 782, 783, 784, 750, 751] (by decide +kernel) (by decide +kernel)
set_option maxRecDepth 20000 in
theorem gL_law_X6_inflow : GoodIn wsL_law (wsV RL 22 RX6 yX6_inflow wsX6_inflow) := goodIn_app (goodIn_of _ (by decide +kernel)) ggL_law_X6_inflow
set_option maxRecDepth 20000 in
theorem ggL_law_X7_inflow : GoodIn wsL_law wsX7_inflow := goodIn_r _ [218, 194, 195, 196, 5, 197, 198, 199, 200, 201, 113, 202, 203, 204, 159, 160, 161, 169, 170, 171, 172, 173, 114, 174, 175, 176, 205, 206, 207, 177, 178, 179, 180, 732, 733, 734, 735, 736, 737, 738, 739, 740, 741, 742, 743, 744, 745, 746, 747, 748, 749] (by decide +kernel) (by decide +kernel)
set_option maxRecDepth 20000 in
theorem gL_law_X7_inflow : GoodIn wsL_law (wsV RL 25 RX7 yX7_inflow wsX7_inflow) := goodIn_app (goodIn_of _ (by decide +kernel)) ggL_law_X7_inflow
set_option maxRecDepth 20000 in
theorem ggL_law_X6_plan : GoodIn wsL_law wsX6_plan := goodIn_r _ [222, 36, 16, 125, 35, 126, 127, 107, 106, 128, 15, 129, 130, 45, 48, 2, 49, 50, 51, 52, 53, 54, 55, 56, 57, 223, 224, 225, 188, 189, 147, 148, 149, 150, 151, 152, 153, 108, 154, 724, 725, 726, 727, 728, 729, 730, 731, 782, 783, 784, 750, 751] (by decide +kernel) (by decide +kernel)
set_option maxRecDepth 20000 in
theorem gL_law_X6_plan : GoodIn wsL_law (wsV RL 26 RX6 yX6_plan wsX6_plan) := goodIn_app (goodIn_of _ (by decide +kernel)) ggL_law_X6_plan
set_option maxRecDepth 20000 in
theorem ggL_law_X7_plan : GoodIn wsL_law wsX7_plan := goodIn_r _ [229, 198, 199, 200, 5, 201, 113, 202, 203, 204, 159, 160, 161, 169, 170, 171, 172, 173, 114, 174, 175, 176, 177, 178, 179, 180, 732, 733, 734, 735, 736, 737, 738, 739, 740, 741, 742, 743, 744, 745, 746, 747, 748, 749] (by decide +kernel) (by decide +kernel)
set_option maxRecDepth 20000 in
theorem gL_law_X7_plan : GoodIn wsL_law (wsV RL 29 RX7 yX7_plan wsX7_plan) := goodIn_app (goodIn_of _ (by decide +kernel)) ggL_law_X7_plan
set_option maxRecDepth 20000 in
theorem ggL_law_X6_contract : GoodIn wsL_law wsX6_contract := goodIn_r _ [233, 36, 16, 125, 35, 126, 127, 107, 106, 128, 15, 129, 130, 45, 48, 2, 49, 50, 51, 52, 53, 54, 55, 56, 57, 234, 235, 236, 46, 188, 189, 237, 238, 239, 240, 147, 148, 149, 150, 151, 152, 153, 108, 154, 724, 725, 726, 727, 728, 729, 730, 731, 782, 783, 784, 750, 751] (by decide +kernel) (by decide +kernel)
set_option maxRecDepth 20000 in
theorem gL_law_X6_contract : GoodIn wsL_law (wsV RL 30 RX6 yX6_contract wsX6_contract) := goodIn_app (goodIn_of _ (by decide +kernel)) ggL_law_X6_contract
set_option maxRecDepth 20000 in
theorem ggL_law_X7_contract : GoodIn wsL_law wsX7_contract := goodIn_r _ [244, 245, 246, 247, 5, 248, 113, 202, 203, 204, 159, 160, 161, 169, 170, 171, 172, 173, 114, 174, 175, 176, 249, 250, 251, 252, 732, 733, 734, 735, 736, 737, 738, 739, 740, 741, 742, 743, 744, 745, 746, 747, 748, 749] (by decide +kernel) (by decide +kernel)
set_option maxRecDepth 20000 in
theorem gL_law_X7_contract : GoodIn wsL_law (wsV RL 34 RX7 yX7_contract wsX7_contract) := goodIn_app (goodIn_of _ (by decide +kernel)) ggL_law_X7_contract

set_option maxRecDepth 20000 in
theorem ggL_law_X6_count : GoodIn wsL_law wsX6_count := goodIn_r _ [520, 16, 28, 36, 280, 15, 281, 282, 45, 238, 239, 240, 724, 725, 726, 727, 728, 729, 730, 731, 770, 771, 782, 783, 784, 750, 751] (by decide +kernel) (by decide +kernel)
set_option maxRecDepth 20000 in
theorem gL_law_X6_count : GoodIn wsL_law (wsV RL 61 RX6 yX6_count wsX6_count) := goodIn_app (goodIn_of _ (by decide +kernel)) ggL_law_X6_count
set_option maxRecDepth 20000 in
theorem ggL_law_X7_count : GoodIn wsL_law wsX7_count := goodIn_r _ [524, 113, 525, 173, 159, 160, 5, 161, 732, 733, 734, 735, 736, 737, 738, 739, 740, 741, 742, 743, 744, 745, 746, 747, 748, 749] (by decide +kernel) (by decide +kernel)
set_option maxRecDepth 20000 in
theorem gL_law_X7_count : GoodIn wsL_law (wsV RL 64 RX7 yX7_count wsX7_count) := goodIn_app (goodIn_of _ (by decide +kernel)) ggL_law_X7_count
set_option maxRecDepth 20000 in
theorem ggL_law_X6_best : GoodIn wsL_law wsX6_best := goodIn_r _ [529, 24, 16, 530, 469, 276, 23, 277, 278, 78, 82, 74, 279, 75, 280, 15, 281, 282, 45, 283, 284, 285, 286, 287, 288, 289, 79, 80, 81, 290, 291, 292, 293, 294, 295, 296, 237, 238, 239, 240, 297, 298, 299, 300, 301, 302, 303, 304, 305, 52, 306, 307, 308, 309, 310, 311, 312, 313, 314, 51, 53, 315, 316, 317, 318, 319, 320, 321, 322, 323, 324, 188, 2, 189, 325, 326, 327, 328, 329, 330, 331, 332, 333, 334, 335, 336, 337, 338, 339, 77, 76, 340, 341, 342, 343, 344, 345, 346, 347, 348, 349, 350, 351, 352, 353, 354, 355, 356, 357, 358, 359, 360, 361, 724, 725, 726, 727, 728, 729, 730, 731, 761, 762, 763, 764, 765, 766, 767, 768, 769, 750, 751] (by decide +kernel) (by decide +kernel)
set_option maxRecDepth 20000 in
theorem gL_law_X6_best : GoodIn wsL_law (wsV RL 65 RX6 yX6_best wsX6_best) := goodIn_app (goodIn_of _ (by decide +kernel)) ggL_law_X6_best
set_option maxRecDepth 20000 in
theorem ggL_law_X7_best : GoodIn wsL_law wsX7_best := goodIn_r _ [534, 119, 113, 504, 366, 367, 368, 5, 369, 370, 371, 372, 373, 374, 375, 376, 377, 378, 379, 380, 381, 382, 383, 384, 385, 386, 387, 388, 389, 390, 391, 392, 393, 394, 395, 396, 397, 398, 399, 400, 732, 733, 734, 735, 736, 737, 738, 739, 740, 741, 742, 743, 744, 745, 746, 747, 748, 749] (by decide +kernel) (by decide +kernel)
set_option maxRecDepth 20000 in
theorem gL_law_X7_best : GoodIn wsL_law (wsV RL 68 RX7 yX7_best wsX7_best) := goodIn_app (goodIn_of _ (by decide +kernel)) ggL_law_X7_best
set_option maxRecDepth 20000 in
theorem ggL_law_X6_bestPlan : GoodIn wsL_law wsX6_bestPlan := goodIn_r _ [538, 24, 414, 188, 2, 189, 276, 23, 277, 278, 78, 82, 74, 279, 75, 280, 15, 281, 282, 45, 283, 284, 285, 286, 287, 288, 289, 79, 80, 81, 290, 291, 292, 293, 294, 295, 296, 237, 238, 239, 240, 297, 298, 299, 300, 301, 302, 303, 304, 305, 52, 306, 307, 308, 309, 310, 311, 312, 313, 314, 51, 53, 315, 316, 317, 318, 319, 320, 321, 322, 323, 324, 325, 326, 327, 328, 329, 330, 331, 332, 333, 334, 335, 336, 337, 338, 339, 77, 76, 340, 341, 342, 343, 344, 345, 346, 347, 348, 349, 350, 351, 352, 353, 354, 355, 356, 357, 358, 359, 360, 361, 724, 725, 726, 727, 728, 729, 730, 731, 761, 762, 763, 764, 765, 766, 767, 768, 769, 750, 751] (by decide +kernel) (by decide +kernel)
set_option maxRecDepth 20000 in
theorem gL_law_X6_bestPlan : GoodIn wsL_law (wsV RL 69 RX6 yX6_bestPlan wsX6_bestPlan) := goodIn_app (goodIn_of _ (by decide +kernel)) ggL_law_X6_bestPlan
set_option maxRecDepth 20000 in
theorem ggL_law_X7_bestPlan : GoodIn wsL_law wsX7_bestPlan := goodIn_r _ [542, 113, 379, 202, 203, 5, 204, 159, 160, 161, 366, 367, 368, 369, 119, 370, 371, 372, 373, 374, 375, 376, 377, 378, 380, 381, 382, 383, 384, 385, 386, 387, 388, 389, 390, 391, 392, 393, 394, 395, 396, 397, 398, 399, 400, 405, 406, 407, 408, 732, 733, 734, 735, 736, 737, 738, 739, 740, 741, 742, 743, 744, 745, 746, 747, 748, 749] (by decide +kernel) (by decide +kernel)
set_option maxRecDepth 20000 in
theorem gL_law_X7_bestPlan : GoodIn wsL_law (wsV RL 72 RX7 yX7_bestPlan wsX7_bestPlan) := goodIn_app (goodIn_of _ (by decide +kernel)) ggL_law_X7_bestPlan
set_option maxRecDepth 20000 in
theorem ggL_law_X6_worth : GoodIn wsL_law wsX6_worth := goodIn_r _ [546, 16, 24, 530, 469, 280, 15, 281, 282, 45, 276, 23, 277, 278, 78, 82, 74, 279, 75, 283, 284, 285, 286, 287, 288, 289, 79, 80, 81, 290, 291, 292, 293, 294, 295, 296, 237, 238, 239, 240, 297, 298, 299, 300, 301, 302, 303, 304, 305, 52, 306, 307, 308, 309, 310, 311, 312, 313, 314, 51, 53, 315, 316, 317, 318, 319, 320, 321, 322, 323, 324, 188, 2, 189, 325, 326, 327, 328, 329, 330, 331, 332, 333, 334, 335, 336, 337, 338, 339, 77, 76, 340, 341, 342, 343, 344, 345, 346, 347, 348, 349, 350, 351, 352, 353, 354, 355, 356, 357, 358, 359, 360, 361, 724, 725, 726, 727, 728, 729, 730, 731, 750, 751, 761, 762, 763, 764, 765, 766, 767, 768, 769] (by decide +kernel) (by decide +kernel)
set_option maxRecDepth 20000 in
theorem gL_law_X6_worth : GoodIn wsL_law (wsV RL 73 RX6 yX6_worth wsX6_worth) := goodIn_app (goodIn_of _ (by decide +kernel)) ggL_law_X6_worth
set_option maxRecDepth 20000 in
theorem ggL_law_X7_worth : GoodIn wsL_law wsX7_worth := goodIn_r _ [550, 113, 119, 370, 504, 159, 160, 5, 161, 371, 372, 373, 374, 375, 376, 377, 378, 379, 380, 381, 382, 383, 384, 385, 386, 387, 388, 389, 390, 391, 392, 393, 394, 395, 396, 397, 398, 399, 400, 732, 733, 734, 735, 736, 737, 738, 739, 740, 741, 742, 743, 744, 745, 746, 747, 748, 749] (by decide +kernel) (by decide +kernel)
set_option maxRecDepth 20000 in
theorem gL_law_X7_worth : GoodIn wsL_law (wsV RL 76 RX7 yX7_worth wsX7_worth) := goodIn_app (goodIn_of _ (by decide +kernel)) ggL_law_X7_worth
set_option maxRecDepth 20000 in
theorem ggL_law_X6_highest : GoodIn wsL_law wsX6_highest := goodIn_r _ [554, 16, 555, 15, 556, 557, 45, 558, 354, 355, 356, 357, 344, 345, 304, 305, 52, 306, 358, 346, 347, 348, 349, 283, 284, 285, 350, 325, 326, 327, 359, 351, 352, 353, 360, 311, 312, 313, 314, 51, 53, 361, 301, 302, 303, 724, 725, 726, 727, 728, 729, 730, 731, 750, 751] (by decide +kernel) (by decide +kernel)
set_option maxRecDepth 20000 in
theorem gL_law_X6_highest : GoodIn wsL_law (wsV RL 77 RX6 yX6_highest wsX6_highest) := goodIn_app (goodIn_of _ (by decide +kernel)) ggL_law_X6_highest
set_option maxRecDepth 20000 in
theorem ggL_law_X7_highest : GoodIn wsL_law wsX7_highest := goodIn_r _ [562, 120, 113, 379, 380, 381, 382, 5, 383, 384, 385, 386, 387, 388, 732, 733, 734, 735, 736, 737, 738, 739, 740, 741, 742, 743, 744, 745, 746, 747, 748, 749] (by decide +kernel) (by decide +kernel)
set_option maxRecDepth 20000 in
theorem gL_law_X7_highest : GoodIn wsL_law (wsV RL 80 RX7 yX7_highest wsX7_highest) := goodIn_app (goodIn_of _ (by decide +kernel)) ggL_law_X7_highest
set_option maxRecDepth 20000 in
theorem ggL_law_X6_put : GoodIn wsL_law wsX6_put := goodIn_r _ [566, 28, 567, 27, 568, 569, 570, 571, 572, 88, 87, 724, 725, 726, 727, 728, 729, 730, 731, 770, 771] (by decide +kernel) (by decide +kernel)
set_option maxRecDepth 20000 in
theorem gL_law_X6_put : GoodIn wsL_law (wsV RL 83 RX6 yX6_put wsX6_put) := goodIn_app (goodIn_of _ (by decide +kernel)) ggL_law_X6_put
set_option maxRecDepth 20000 in
theorem ggL_law_X7_put : GoodIn wsL_law wsX7_put := goodIn_r _ [576, 525, 117, 577, 578, 5, 579, 580, 581, 582, 583, 159, 160, 161, 732, 733, 734, 735, 736, 737, 738, 739, 740, 741, 742, 743, 744, 745, 746, 747, 748, 749] (by decide +kernel) (by decide +kernel)
set_option maxRecDepth 20000 in
theorem gL_law_X7_put : GoodIn wsL_law (wsV RL 87 RX7 yX7_put wsX7_put) := goodIn_app (goodIn_of _ (by decide +kernel)) ggL_law_X7_put

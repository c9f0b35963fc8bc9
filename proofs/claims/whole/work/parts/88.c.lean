set_option maxRecDepth 20000 in
theorem ggL_law_X6_drop : GoodIn wsL_law wsX6_drop := goodIn_r _ [256, 36, 16, 125, 35, 126, 127, 107, 106, 128, 15, 129, 130, 45, 48, 2, 49, 50, 51, 52, 53, 54, 55, 56, 57, 257, 258, 259, 46, 260, 261, 262, 263, 237, 238, 239, 240, 151, 152, 153, 108, 154, 724, 725, 726, 727, 728, 729, 730, 731, 782, 783, 784, 750, 751] (by decide +kernel) (by decide +kernel)
set_option maxRecDepth 20000 in
theorem gL_law_X6_drop : GoodIn wsL_law (wsV RL 35 RX6 yX6_drop wsX6_drop) := goodIn_app (goodIn_of _ (by decide +kernel)) ggL_law_X6_drop
set_option maxRecDepth 20000 in
theorem ggL_law_X7_drop : GoodIn wsL_law wsX7_drop := goodIn_r _ [267, 113, 159, 160, 5, 161, 169, 170, 171, 172, 173, 114, 174, 175, 176, 732, 733, 734, 735, 736, 737, 738, 739, 740, 741, 742, 743, 744, 745, 746, 747, 748, 749] (by decide +kernel) (by decide +kernel)
set_option maxRecDepth 20000 in
theorem gL_law_X7_drop : GoodIn wsL_law (wsV RL 39 RX7 yX7_drop wsX7_drop) := goodIn_app (goodIn_of _ (by decide +kernel)) ggL_law_X7_drop
set_option maxRecDepth 20000 in
theorem ggL_law_X6_adopt : GoodIn wsL_law wsX6_adopt := goodIn_r _ [271, 36, 16, 125, 35, 126, 127, 107, 106, 128, 15, 129, 130, 45, 48, 2, 49, 50, 51, 52, 53, 54, 55, 56, 57, 272, 273, 274, 275, 24, 276, 23, 277, 278, 78, 82, 74, 279, 75, 280, 281, 282, 283, 284, 285, 286, 287, 288, 289, 79, 80, 81, 290, 291, 292, 293, 294, 295, 296, 237, 238, 239, 240, 297, 298, 299, 300, 301, 302, 303, 304, 305, 306, 307, 308, 309, 310, 311, 312, 313, 314, 315, 316, 317, 318, 319, 320, 321, 322, 323, 324, 188, 189, 325, 326, 327, 328, 329, 330, 331, 332, 333, 334, 335, 336, 337, 338, 339, 77, 76, 340, 341, 342, 343, 344, 345, 346, 347, 348, 349, 350, 351, 352, 353, 354, 355, 356, 357, 358, 359, 360, 361, 144, 145, 146, 223, 224, 225, 147, 148, 149, 150, 151, 152, 153, 108, 154, 724, 725, 726, 727, 728, 729, 730, 731, 782, 783, 784, 750, 751, 761, 762, 763, 764, 765, 766, 767, 768, 769] (by decide +kernel) (by decide +kernel)
set_option maxRecDepth 20000 in
theorem gL_law_X6_adopt : GoodIn wsL_law (wsV RL 40 RX6 yX6_adopt wsX6_adopt) := goodIn_app (goodIn_of _ (by decide +kernel)) ggL_law_X6_adopt
set_option maxRecDepth 20000 in
theorem ggL_law_X7_adopt : GoodIn wsL_law wsX7_adopt := goodIn_r _ [365, 366, 367, 368, 5, 369, 119, 113, 370, 371, 372, 373, 374, 375, 376, 377, 378, 379, 380, 381, 382, 383, 384, 385, 386, 387, 388, 389, 390, 391, 392, 393, 394, 395, 396, 397, 398, 399, 400, 169, 170, 171, 172, 173, 114, 174, 175, 176, 401, 402, 403, 404, 405, 406, 407, 408, 732, 733, 734, 735, 736, 737, 738, 739, 740, 741, 742, 743, 744, 745, 746, 747, 748, 749] (by decide +kernel) (by decide +kernel)
set_option maxRecDepth 20000 in
theorem gL_law_X7_adopt : GoodIn wsL_law (wsV RL 44 RX7 yX7_adopt wsX7_adopt) := goodIn_app (goodIn_of _ (by decide +kernel)) ggL_law_X7_adopt
set_option maxRecDepth 20000 in
theorem ggL_law_X6_hour : GoodIn wsL_law wsX6_hour := goodIn_r _ [412, 20, 16, 413, 414, 188, 2, 189, 415, 19, 416, 417, 69, 67, 68, 64, 280, 15, 281, 282, 45, 418, 419, 420, 421, 62, 63, 61, 65, 66, 144, 145, 146, 344, 345, 304, 305, 52, 306, 346, 347, 348, 349, 283, 284, 285, 350, 325, 326, 327, 351, 352, 353, 311, 312, 313, 314, 51, 53, 301, 302, 303, 290, 291, 292, 293, 294, 295, 296, 237, 238, 239, 240, 297, 298, 299, 300, 422, 423, 424, 425, 426, 427, 428, 724, 725, 726, 727, 728, 729, 730, 731, 752, 753, 754, 755, 756, 757, 758, 759, 760, 750, 751] (by decide +kernel) (by decide +kernel)
set_option maxRecDepth 20000 in
theorem gL_law_X6_hour : GoodIn wsL_law (wsV RL 45 RX6 yX6_hour wsX6_hour) := goodIn_app (goodIn_of _ (by decide +kernel)) ggL_law_X6_hour
set_option maxRecDepth 20000 in
theorem ggL_law_X7_hour : GoodIn wsL_law wsX7_hour := goodIn_r _ [432, 202, 203, 5, 204, 159, 160, 161, 433, 434, 435, 436, 113, 387, 384, 385, 388, 379, 437, 438, 439, 440, 441, 380, 381, 382, 383, 386, 389, 390, 391, 392, 393, 394, 395, 396, 397, 398, 399, 400, 442, 443, 444, 445, 446, 447, 448, 449, 732, 733, 734, 735, 736, 737, 738, 739, 740, 741, 742, 743, 744, 745, 746, 747, 748, 749] (by decide +kernel) (by decide +kernel)
set_option maxRecDepth 20000 in
theorem gL_law_X7_hour : GoodIn wsL_law (wsV RL 48 RX7 yX7_hour wsX7_hour) := goodIn_app (goodIn_of _ (by decide +kernel)) ggL_law_X7_hour
set_option maxRecDepth 20000 in
theorem ggL_law_X6_ofContract : GoodIn wsL_law wsX6_ofContract := goodIn_r _ [453, 16, 20, 261, 15, 262, 263, 237, 238, 239, 240, 45, 298, 299, 300, 415, 19, 416, 417, 69, 67, 68, 64, 280, 281, 282, 418, 419, 420, 421, 62, 63, 61, 65, 66, 188, 2, 189, 144, 145, 146, 344, 345, 304, 305, 52, 306, 346, 347, 348, 349, 283, 284, 285, 350, 325, 326, 327, 351, 352, 353, 311, 312, 313, 314, 51, 53, 301, 302, 303, 290, 291, 292, 293, 294, 295, 296, 297, 422, 423, 424, 425, 426, 427, 428, 454, 455, 456, 724, 725, 726, 727, 728, 729, 730, 731, 750, 751, 752, 753, 754, 755, 756, 757, 758, 759, 760] (by decide +kernel) (by decide +kernel)
set_option maxRecDepth 20000 in
theorem gL_law_X6_ofContract : GoodIn wsL_law (wsV RL 49 RX6 yX6_ofContract wsX6_ofContract) := goodIn_app (goodIn_of _ (by decide +kernel)) ggL_law_X6_ofContract
set_option maxRecDepth 20000 in
theorem ggL_law_X7_ofContract : GoodIn wsL_law wsX7_ofContract := goodIn_r _ [460, 113, 159, 160, 5, 161, 393, 394, 395, 396, 438, 439, 440, 441, 379, 388, 380, 381, 382, 383, 384, 385, 386, 387, 397, 398, 399, 400, 732, 733, 734, 735, 736, 737, 738, 739, 740, 741, 742, 743, 744, 745, 746, 747, 748, 749] (by decide +kernel) (by decide +kernel)
set_option maxRecDepth 20000 in
theorem gL_law_X7_ofContract : GoodIn wsL_law (wsV RL 52 RX7 yX7_ofContract wsX7_ofContract) := goodIn_app (goodIn_of _ (by decide +kernel)) ggL_law_X7_ofContract
set_option maxRecDepth 20000 in
theorem ggL_law_X6_day : GoodIn wsL_law wsX6_day := goodIn_r _ [464, 20, 16, 415, 19, 416, 417, 69, 67, 68, 64, 280, 15, 281, 282, 45, 418, 419, 420, 421, 62, 63, 61, 65, 66, 188, 2, 189, 144, 145, 146, 344, 345, 304, 305, 52, 306, 346, 347, 348, 349, 283, 284, 285, 350, 325, 326, 327, 351, 352, 353, 311, 312, 313, 314, 51, 53, 301, 302, 303, 290, 291, 292, 293, 294, 295, 296, 237, 238, 239, 240, 297, 298, 299, 300, 422, 423, 424, 425, 426, 427, 428, 465, 466, 467, 468, 469, 470, 471, 472, 473, 474, 475, 476, 477, 478, 479, 480, 481, 482, 483, 484, 485, 486, 487, 488, 489, 490, 491, 492, 493, 494, 495, 724, 725, 726, 727, 728, 729, 730, 731, 752, 753, 754, 755, 756, 757, 758, 759, 760, 750, 751] (by decide +kernel) (by decide +kernel)
set_option maxRecDepth 20000 in
theorem gL_law_X6_day : GoodIn wsL_law (wsV RL 53 RX6 yX6_day wsX6_day) := goodIn_app (goodIn_of _ (by decide +kernel)) ggL_law_X6_day
set_option maxRecDepth 20000 in
theorem ggL_law_X7_day : GoodIn wsL_law wsX7_day := goodIn_r _ [499, 159, 160, 5, 161, 500, 501, 502, 503, 504, 113, 379, 380, 381, 382, 383, 384, 385, 386, 387, 388, 505, 506, 507, 508, 389, 390, 391, 392, 393, 394, 395, 396, 397, 398, 399, 400, 446, 447, 448, 449, 732, 733, 734, 735, 736, 737, 738, 739, 740, 741, 742, 743, 744, 745, 746, 747, 748, 749] (by decide +kernel) (by decide +kernel)
set_option maxRecDepth 20000 in
theorem gL_law_X7_day : GoodIn wsL_law (wsV RL 56 RX7 yX7_day wsX7_day) := goodIn_app (goodIn_of _ (by decide +kernel)) ggL_law_X7_day
set_option maxRecDepth 20000 in
theorem ggL_law_X6_troubled : GoodIn wsL_law wsX6_troubled := goodIn_r _ [512, 20, 415, 19, 416, 417, 69, 67, 68, 64, 280, 15, 281, 282, 45, 418, 419, 420, 421, 62, 63, 61, 65, 66, 188, 2, 189, 144, 145, 146, 344, 345, 304, 305, 52, 306, 346, 347, 348, 349, 283, 284, 285, 350, 325, 326, 327, 351, 352, 353, 311, 312, 313, 314, 51, 53, 301, 302, 303, 290, 291, 292, 293, 294, 295, 296, 237, 238, 239, 240, 297, 298, 299, 300, 422, 423, 424, 425, 426, 427, 428, 480, 481, 482, 724, 725, 726, 727, 728, 729, 730, 731, 752, 753, 754, 755, 756, 757, 758, 759, 760, 750, 751] (by decide +kernel) (by decide +kernel)
set_option maxRecDepth 20000 in
theorem gL_law_X6_troubled : GoodIn wsL_law (wsV RL 57 RX6 yX6_troubled wsX6_troubled) := goodIn_app (goodIn_of _ (by decide +kernel)) ggL_law_X6_troubled
set_option maxRecDepth 20000 in
theorem ggL_law_X7_troubled : GoodIn wsL_law wsX7_troubled := goodIn_r _ [516, 113, 379, 159, 160, 5, 161, 380, 381, 382, 383, 384, 385, 386, 387, 388, 442, 443, 444, 445, 446, 447, 448, 449, 397, 398, 399, 400, 393, 394, 395, 396, 732, 733, 734, 735, 736, 737, 738, 739, 740, 741, 742, 743, 744, 745, 746, 747, 748, 749] (by decide +kernel) (by decide +kernel)
set_option maxRecDepth 20000 in
theorem gL_law_X7_troubled : GoodIn wsL_law (wsV RL 60 RX7 yX7_troubled wsX7_troubled) := goodIn_app (goodIn_of _ (by decide +kernel)) ggL_law_X7_troubled

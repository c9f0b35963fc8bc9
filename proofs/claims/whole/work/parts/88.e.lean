set_option maxRecDepth 20000 in
theorem ggL_law_X6_wipe : GoodIn wsL_law wsX6_wipe := goodIn_r _ [587, 28, 588, 27, 589, 590, 88, 724, 725, 726, 727, 728, 729, 730, 731, 770, 771] (by decide +kernel) (by decide +kernel)
set_option maxRecDepth 20000 in
theorem gL_law_X6_wipe : GoodIn wsL_law (wsV RL 88 RX6 yX6_wipe wsX6_wipe) := goodIn_app (goodIn_of _ (by decide +kernel)) ggL_law_X6_wipe
set_option maxRecDepth 20000 in
theorem ggL_law_X7_wipe : GoodIn wsL_law wsX7_wipe := goodIn_r _ [594, 525, 732, 733, 734, 735, 736, 737, 738, 739, 740, 741, 742, 743, 744, 745, 746, 747, 748, 749] (by decide +kernel) (by decide +kernel)
set_option maxRecDepth 20000 in
theorem gL_law_X7_wipe : GoodIn wsL_law (wsV RL 91 RX7 yX7_wipe wsX7_wipe) := goodIn_app (goodIn_of _ (by decide +kernel)) ggL_law_X7_wipe
set_option maxRecDepth 20000 in
theorem ggL_law_X6_fault : GoodIn wsL_law wsX6_fault := goodIn_r _ [598, 32, 599, 31, 600, 601, 92, 101, 602, 603, 604, 605, 606, 607, 608, 609, 94, 610, 27, 611, 612, 88, 87, 613, 614, 615, 616, 617, 618, 619, 620, 93, 95, 98, 99, 100, 621, 622, 623, 624, 625, 626, 627, 628, 629, 630, 631, 96, 632, 633, 634, 635, 97, 724, 725, 726, 727, 728, 729, 730, 731, 772, 773, 774, 775, 776, 777, 778, 779, 780, 781, 770, 771] (by decide +kernel) (by decide +kernel)
set_option maxRecDepth 20000 in
theorem gL_law_X6_fault : GoodIn wsL_law (wsV RL 92 RX6 yX6_fault wsX6_fault) := goodIn_app (goodIn_of _ (by decide +kernel)) ggL_law_X6_fault
set_option maxRecDepth 20000 in
theorem ggL_law_X7_fault : GoodIn wsL_law wsX7_fault := goodIn_r _ [639, 640, 641, 642, 643, 5, 644, 645, 525, 646, 647, 648, 649, 117, 118, 650, 651, 652, 653, 654, 655, 656, 657, 658, 659, 660, 661, 159, 160, 161, 662, 663, 664, 665, 666, 667, 668, 669, 732, 733, 734, 735, 736, 737, 738, 739, 740, 741, 742, 743, 744, 745, 746, 747, 748, 749] (by decide +kernel) (by decide +kernel)
set_option maxRecDepth 20000 in
theorem gL_law_X7_fault : GoodIn wsL_law (wsV RL 95 RX7 yX7_fault wsX7_fault) := goodIn_app (goodIn_of _ (by decide +kernel)) ggL_law_X7_fault
set_option maxRecDepth 20000 in
theorem ggL_law_X6_carryOut : GoodIn wsL_law wsX6_carryOut := goodIn_r _ [673, 36, 16, 32, 28, 125, 35, 126, 127, 107, 106, 128, 15, 129, 130, 45, 48, 2, 49, 50, 51, 52, 53, 54, 55, 56, 57, 599, 31, 600, 601, 92, 101, 602, 603, 604, 605, 606, 607, 608, 609, 94, 610, 27, 611, 612, 88, 87, 613, 614, 615, 616, 617, 618, 619, 620, 93, 95, 98, 99, 100, 621, 622, 623, 624, 625, 626, 627, 628, 629, 630, 631, 96, 632, 633, 634, 635, 97, 674, 675, 676, 677, 272, 273, 274, 275, 24, 276, 23, 277, 278, 78, 82, 74, 279, 75, 280, 281, 282, 283, 284, 285, 286, 287, 288, 289, 79, 80, 81, 290, 291, 292, 293, 294, 295, 296, 237, 238, 239, 240, 297, 298, 299, 300, 301, 302, 303, 304, 305, 306, 307, 308, 309, 310, 311, 312, 313, 314, 315, 316, 317, 318, 319, 320, 321, 322, 323, 324, 188, 189, 325, 326, 327, 328, 329, 330, 331, 332, 333, 334, 335, 336, 337, 338, 339, 77, 76, 340, 341, 342, 343, 344, 345, 346, 347, 348, 349, 350, 351, 352, 353, 354, 355, 356, 357, 358, 359, 360, 361, 144, 145, 146, 223, 224, 225, 147, 148, 149, 150, 234, 235, 236, 46, 678, 679, 680, 681, 185, 186, 187, 212, 213, 214, 588, 589, 590, 151, 152, 153, 108, 154, 724, 725, 726, 727, 728, 729, 730, 731, 782, 783, 784, 750, 751, 772, 773, 774, 775, 776, 777, 778, 779, 780, 781, 770, 771, 761, 762, 763, 764, 765, 766, 767, 768, 769] (by decide +kernel) (by decide +kernel)
set_option maxRecDepth 20000 in
theorem gL_law_X6_carryOut : GoodIn wsL_law (wsV RL 96 RX6 yX6_carryOut wsX6_carryOut) := goodIn_app (goodIn_of _ (by decide +kernel)) ggL_law_X6_carryOut
set_option maxRecDepth 20000 in
theorem ggL_law_X7_carryOut : GoodIn wsL_law wsX7_carryOut := goodIn_r _ [685, 525, 645, 641, 642, 643, 5, 644, 640, 646, 647, 648, 649, 117, 118, 650, 651, 652, 653, 654, 655, 656, 657, 658, 659, 660, 661, 159, 160, 161, 662, 663, 664, 665, 666, 667, 668, 669, 169, 170, 171, 172, 173, 114, 113, 174, 175, 176, 686, 687, 688, 689, 366, 367, 368, 369, 119, 370, 371, 372, 373, 374, 375, 376, 377, 378, 379, 380, 381, 382, 383, 384, 385, 386, 387, 388, 389, 390, 391, 392, 393, 394, 395, 396, 397, 398, 399, 400, 401, 402, 403, 404, 405, 406, 407, 408, 245, 246, 247, 248, 202, 203, 204, 249, 250, 251, 252, 690, 691, 692, 693, 198, 199, 200, 201, 205, 206, 207, 177, 178, 179, 180, 732, 733, 734, 735, 736, 737, 738, 739, 740, 741, 742, 743, 744, 745, 746, 747, 748, 749] (by decide +kernel) (by decide +kernel)
set_option maxRecDepth 20000 in
theorem gL_law_X7_carryOut : GoodIn wsL_law (wsV RL 99 RX7 yX7_carryOut wsX7_carryOut) := goodIn_app (goodIn_of _ (by decide +kernel)) ggL_law_X7_carryOut
set_option maxRecDepth 20000 in
theorem ggL_law_X6_undo : GoodIn wsL_law wsX6_undo := goodIn_r _ [697, 36, 16, 698, 35, 699, 700, 108, 107, 106, 701, 15, 702, 703, 45, 46, 48, 2, 49, 50, 51, 52, 53, 54, 55, 56, 57, 724, 725, 726, 727, 728, 729, 730, 731, 782, 783, 784, 750, 751] (by decide +kernel) (by decide +kernel)
set_option maxRecDepth 20000 in
theorem gL_law_X6_undo : GoodIn wsL_law (wsV RL 100 RX6 yX6_undo wsX6_undo) := goodIn_app (goodIn_of _ (by decide +kernel)) ggL_law_X6_undo
set_option maxRecDepth 20000 in
theorem ggL_law_X7_undo : GoodIn wsL_law wsX7_undo := goodIn_r _ [707, 173, 114, 113, 174, 175, 5, 176, 732, 733, 734, 735, 736, 737, 738, 739, 740, 741, 742, 743, 744, 745, 746, 747, 748, 749] (by decide +kernel) (by decide +kernel)
set_option maxRecDepth 20000 in
theorem gL_law_X7_undo : GoodIn wsL_law (wsV RL 103 RX7 yX7_undo wsX7_undo) := goodIn_app (goodIn_of _ (by decide +kernel)) ggL_law_X7_undo
set_option maxRecDepth 20000 in
theorem ggL_law_X6_save : GoodIn wsL_law wsX6_save := goodIn_r _ [711, 16, 39, 41, 20, 128, 15, 129, 130, 45, 48, 2, 49, 50, 51, 52, 53, 54, 55, 56, 57, 415, 19, 416, 417, 69, 67, 68, 64, 280, 281, 282, 418, 419, 420, 421, 62, 63, 61, 65, 66, 188, 189, 144, 145, 146, 344, 345, 304, 305, 306, 346, 347, 348, 349, 283, 284, 285, 350, 325, 326, 327, 351, 352, 353, 311, 312, 313, 314, 301, 302, 303, 290, 291, 292, 293, 294, 295, 296, 237, 238, 239, 240, 297, 298, 299, 300, 422, 423, 424, 425, 426, 427, 428, 465, 466, 467, 468, 469, 470, 471, 472, 724, 725, 726, 727, 728, 729, 730, 731, 750, 751, 752, 753, 754, 755, 756, 757, 758, 759, 760] (by decide +kernel) (by decide +kernel)
set_option maxRecDepth 20000 in
theorem gL_law_X6_save : GoodIn wsL_law (wsV RL 104 RX6 yX6_save wsX6_save) := goodIn_app (goodIn_of _ (by decide +kernel)) ggL_law_X6_save
set_option maxRecDepth 20000 in
theorem ggL_law_X7_save : GoodIn wsL_law wsX7_save := goodIn_r _ [715, 113, 115, 116, 159, 160, 5, 161, 174, 175, 176, 500, 501, 502, 503, 504, 379, 380, 381, 382, 383, 384, 385, 386, 387, 388, 505, 506, 507, 508, 389, 390, 391, 392, 393, 394, 395, 396, 397, 398, 399, 400, 446, 447, 448, 449, 732, 733, 734, 735, 736, 737, 738, 739, 740, 741, 742, 743, 744, 745, 746, 747, 748, 749] (by decide +kernel) (by decide +kernel)
set_option maxRecDepth 20000 in
theorem gL_law_X7_save : GoodIn wsL_law (wsV RL 107 RX7 yX7_save wsX7_save) := goodIn_app (goodIn_of _ (by decide +kernel)) ggL_law_X7_save
set_option maxRecDepth 20000 in
theorem ggL_law_X6_restore : GoodIn wsL_law wsX6_restore := goodIn_r _ [719, 41, 36, 16, 39, 20, 125, 35, 126, 127, 107, 106, 128, 15, 129, 130, 45, 48, 2, 49, 50, 51, 52, 53, 54, 55, 56, 57, 701, 702, 703, 46, 415, 19, 416, 417, 69, 67, 68, 64, 280, 281, 282, 418, 419, 420, 421, 62, 63, 61, 65, 66, 188, 189, 144, 145, 146, 344, 345, 304, 305, 306, 346, 347, 348, 349, 283, 284, 285, 350, 325, 326, 327, 351, 352, 353, 311, 312, 313, 314, 301, 302, 303, 290, 291, 292, 293, 294, 295, 296, 237, 238, 239, 240, 297, 298, 299, 300, 422, 423, 424, 425, 426, 427, 428, 465, 466, 467, 468, 469, 470, 471, 472, 151, 152, 153, 108, 154, 724, 725, 726, 727, 728, 729, 730, 731, 782, 783, 784, 750, 751, 752, 753, 754, 755, 756, 757, 758, 759, 760] (by decide +kernel) (by decide +kernel)
set_option maxRecDepth 20000 in
theorem gL_law_X6_restore : GoodIn wsL_law (wsV RL 108 RX6 yX6_restore wsX6_restore) := goodIn_app (goodIn_of _ (by decide +kernel)) ggL_law_X6_restore
set_option maxRecDepth 20000 in
theorem ggL_law_X7_restore : GoodIn wsL_law wsX7_restore := goodIn_r _ [723, 116, 115, 113, 159, 160, 5, 161, 169, 170, 171, 172, 173, 114, 174, 175, 176, 500, 501, 502, 503, 504, 379, 380, 381, 382, 383, 384, 385, 386, 387, 388, 505, 506, 507, 508, 389, 390, 391, 392, 393, 394, 395, 396, 397, 398, 399, 400, 446, 447, 448, 449, 732, 733, 734, 735, 736, 737, 738, 739, 740, 741, 742, 743, 744, 745, 746, 747, 748, 749] (by decide +kernel) (by decide +kernel)
set_option maxRecDepth 20000 in
theorem gL_law_X7_restore : GoodIn wsL_law (wsV RL 111 RX7 yX7_restore wsX7_restore) := goodIn_app (goodIn_of _ (by decide +kernel)) ggL_law_X7_restore

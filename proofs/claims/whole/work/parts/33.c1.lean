set_option maxRecDepth 20000 in
theorem ggL_law_X8_move : GoodIn wsL_law wsX8_move := goodIn_r _ [429, 107, 15, 108, 19, 109, 110, 2, 111, 430, 431, 432, 14, 433, 138, 42, 128, 129, 130, 18, 131, 132, 133, 89, 88, 13, 24, 25, 26, 10, 11, 27, 28, 29, 30, 31, 32, 33, 34, 35, 36, 37, 38, 39, 40, 41, 43, 44, 45, 46, 47, 48, 49, 50, 51, 52, 53, 54, 55, 56, 57, 58, 59, 60, 61, 62, 63, 64, 65, 66, 67, 68, 69, 70, 71, 72, 73, 74, 75, 76, 77, 78, 79, 80, 81, 82, 83, 84, 134, 135, 136, 137, 139, 140, 141, 142, 143, 144, 145, 146, 147, 148, 149, 150, 151, 152, 153, 154, 155, 156, 157, 158, 159, 160, 161, 162, 163, 164, 165, 166, 167, 168, 169, 170, 434, 435, 436, 437, 322, 216, 217, 218, 219, 220, 221, 222, 223, 224, 225, 226, 227, 228, 229, 230, 231, 232, 125, 126, 127, 233, 234, 235, 236, 438, 439, 440, 441, 297, 298, 299, 300, 301, 302, 303, 304, 296, 267, 268, 269, 305, 306, 307, 308, 309, 310, 311, 312, 313, 790, 791, 792, 801, 802, 803, 804, 805, 806, 807, 808, 809, 810, 811, 812, 824, 825, 826, 827, 828, 829, 830, 831, 832, 833, 834, 835, 836] (by decide +kernel) (by decide +kernel)
set_option maxRecDepth 20000 in
theorem gL_law_X8_move : GoodIn wsL_law (wsV RL 23 RX8 yX8_move wsX8_move) := goodIn_app (goodIn_of _ (by decide +kernel)) ggL_law_X8_move
set_option maxRecDepth 20000 in
theorem ggL_law_X9_move : GoodIn wsL_law wsX9_move := goodIn_r _ [445, 183, 99, 184, 185, 186, 5, 187, 188, 189, 190, 191, 192, 100, 370, 371, 372, 373, 354, 355, 356, 357, 358, 359, 360, 361, 362, 363, 364, 365, 398, 399, 400, 401, 394, 395, 396, 397, 402, 403, 404, 405, 793, 794, 795, 796, 797, 798, 799, 800] (by decide +kernel) (by decide +kernel)
set_option maxRecDepth 20000 in
theorem gL_law_X9_move : GoodIn wsL_law (wsV RL 27 RX9 yX9_move wsX9_move) := goodIn_app (goodIn_of _ (by decide +kernel)) ggL_law_X9_move
set_option maxRecDepth 20000 in
theorem ggL_law_X8_paneOf : GoodIn wsL_law wsX8_paneOf := goodIn_r _ [449, 15, 107, 450, 451, 452, 453, 14, 454, 39, 110, 2, 111, 109, 455, 221, 222, 223, 34, 42, 224, 225, 226, 33, 227, 67, 228, 229, 230, 231, 156, 232, 125, 126, 49, 127, 59, 60, 62, 233, 234, 235, 236, 456, 457, 458, 459, 460, 790, 791, 792, 801, 802, 803, 804, 805, 806, 807, 808, 809, 826, 827, 828, 830, 831, 832] (by decide +kernel) (by decide +kernel)
set_option maxRecDepth 20000 in
theorem gL_law_X8_paneOf : GoodIn wsL_law (wsV RL 28 RX8 yX8_paneOf wsX8_paneOf) := goodIn_app (goodIn_of _ (by decide +kernel)) ggL_law_X8_paneOf
set_option maxRecDepth 20000 in
theorem ggL_law_X9_paneOf : GoodIn wsL_law wsX9_paneOf := goodIn_r _ [464, 183, 465, 466, 467, 468, 5, 469, 99, 185, 186, 187, 358, 359, 360, 361, 362, 363, 364, 365, 470, 471, 472, 473, 354, 355, 356, 357, 366, 367, 368, 369, 370, 371, 372, 373, 418, 419, 420, 421, 422, 423, 424, 425, 342, 343, 344, 345, 350, 351, 352, 353, 793, 794, 795, 796, 797, 798, 799, 800] (by decide +kernel) (by decide +kernel)
set_option maxRecDepth 20000 in
theorem gL_law_X9_paneOf : GoodIn wsL_law (wsV RL 31 RX9 yX9_paneOf wsX9_paneOf) := goodIn_app (goodIn_of _ (by decide +kernel)) ggL_law_X9_paneOf
set_option maxRecDepth 20000 in
theorem ggL_law_X8_mean : GoodIn wsL_law wsX8_mean := goodIn_r _ [477, 15, 107, 450, 451, 452, 453, 14, 454, 39, 110, 2, 111, 456, 457, 458, 459, 34, 460, 225, 226, 33, 227, 67, 228, 229, 230, 231, 156, 232, 125, 126, 49, 127, 59, 60, 62, 478, 479, 480, 481, 482, 483, 790, 791, 792, 801, 802, 803, 804, 805, 806, 807, 808, 809, 826, 827, 828, 830, 831, 832] (by decide +kernel) (by decide +kernel)
set_option maxRecDepth 20000 in
theorem gL_law_X8_mean : GoodIn wsL_law (wsV RL 32 RX8 yX8_mean wsX8_mean) := goodIn_app (goodIn_of _ (by decide +kernel)) ggL_law_X8_mean
set_option maxRecDepth 20000 in
theorem ggL_law_X9_mean : GoodIn wsL_law wsX9_mean := goodIn_r _ [487, 183, 465, 466, 467, 468, 5, 469, 99, 185, 186, 187, 418, 419, 420, 421, 422, 423, 424, 425, 342, 343, 344, 345, 350, 351, 352, 353, 488, 489, 490, 491, 492, 793, 794, 795, 796, 797, 798, 799, 800] (by decide +kernel) (by decide +kernel)
set_option maxRecDepth 20000 in
theorem gL_law_X9_mean : GoodIn wsL_law (wsV RL 35 RX9 yX9_mean wsX9_mean) := goodIn_app (goodIn_of _ (by decide +kernel)) ggL_law_X9_mean

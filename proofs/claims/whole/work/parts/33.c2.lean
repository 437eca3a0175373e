set_option maxRecDepth 20000 in
theorem ggL_law_X8_standing : GoodIn wsL_law wsX8_standing := goodIn_r _ [496, 15, 107, 450, 451, 452, 453, 14, 454, 39, 110, 2, 111, 109, 456, 457, 458, 459, 34, 497, 498, 499, 33, 500, 228, 229, 230, 231, 156, 67, 232, 125, 126, 49, 127, 59, 60, 62, 301, 302, 303, 304, 460, 225, 226, 227, 790, 791, 792, 801, 802, 803, 804, 805, 806, 807, 808, 809, 826, 827, 828, 830, 831, 832] (by decide +kernel) (by decide +kernel)
set_option maxRecDepth 20000 in
theorem gL_law_X8_standing : GoodIn wsL_law (wsV RL 36 RX8 yX8_standing wsX8_standing) := goodIn_app (goodIn_of _ (by decide +kernel)) ggL_law_X8_standing
set_option maxRecDepth 20000 in
theorem ggL_law_X9_standing : GoodIn wsL_law wsX9_standing := goodIn_r _ [504, 183, 465, 466, 467, 468, 5, 469, 99, 185, 186, 187, 358, 359, 360, 361, 362, 363, 364, 365, 793, 794, 795, 796, 797, 798, 799, 800] (by decide +kernel) (by decide +kernel)
set_option maxRecDepth 20000 in
theorem gL_law_X9_standing : GoodIn wsL_law (wsV RL 39 RX9 yX9_standing wsX9_standing) := goodIn_app (goodIn_of _ (by decide +kernel)) ggL_law_X9_standing
set_option maxRecDepth 20000 in
theorem ggL_law_X8_nextPane : GoodIn wsL_law wsX8_nextPane := goodIn_r _ [508, 107, 15, 109, 110, 2, 111, 456, 457, 458, 14, 459, 34, 509, 510, 511, 33, 512, 156, 67, 513, 287, 288, 289, 290, 232, 125, 126, 49, 127, 59, 60, 62, 790, 791, 792, 801, 802, 803, 804, 805, 806, 807, 808, 809, 826, 827, 828, 830, 831, 832] (by decide +kernel) (by decide +kernel)
set_option maxRecDepth 20000 in
theorem gL_law_X8_nextPane : GoodIn wsL_law (wsV RL 40 RX8 yX8_nextPane wsX8_nextPane) := goodIn_app (goodIn_of _ (by decide +kernel)) ggL_law_X8_nextPane
set_option maxRecDepth 20000 in
theorem ggL_law_X9_nextPane : GoodIn wsL_law wsX9_nextPane := goodIn_r _ [517, 183, 465, 185, 186, 5, 187, 410, 411, 412, 413, 99, 362, 363, 364, 365, 418, 419, 420, 421, 422, 423, 424, 425, 342, 343, 344, 345, 350, 351, 352, 353, 793, 794, 795, 796, 797, 798, 799, 800] (by decide +kernel) (by decide +kernel)
set_option maxRecDepth 20000 in
theorem gL_law_X9_nextPane : GoodIn wsL_law (wsV RL 43 RX9 yX9_nextPane wsX9_nextPane) := goodIn_app (goodIn_of _ (by decide +kernel)) ggL_law_X9_nextPane
set_option maxRecDepth 20000 in
theorem ggL_law_X8_wordAt : GoodIn wsL_law wsX8_wordAt := goodIn_r _ [521, 107, 15, 109, 110, 2, 111, 456, 457, 458, 14, 459, 34, 522, 523, 524, 33, 525, 71, 526, 527, 528, 70, 529, 162, 77, 530, 531, 125, 126, 49, 127, 59, 60, 62, 790, 791, 792, 801, 802, 803, 804, 805, 806, 807, 808, 809, 826, 827, 828, 833, 834, 835, 836, 830, 831, 832] (by decide +kernel) (by decide +kernel)
set_option maxRecDepth 20000 in
theorem gL_law_X8_wordAt : GoodIn wsL_law (wsV RL 44 RX8 yX8_wordAt wsX8_wordAt) := goodIn_app (goodIn_of _ (by decide +kernel)) ggL_law_X8_wordAt
set_option maxRecDepth 20000 in
theorem ggL_law_X9_wordAt : GoodIn wsL_law wsX9_wordAt := goodIn_r _ [535, 183, 99, 465, 185, 186, 5, 187, 793, 794, 795, 796, 797, 798, 799, 800] (by decide +kernel) (by decide +kernel)
set_option maxRecDepth 20000 in
theorem gL_law_X9_wordAt : GoodIn wsL_law (wsV RL 47 RX9 yX9_wordAt wsX9_wordAt) := goodIn_app (goodIn_of _ (by decide +kernel)) ggL_law_X9_wordAt

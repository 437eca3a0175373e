set_option maxRecDepth 20000 in
theorem ggL_law_X8_eventOf : GoodIn wsL_law wsX8_eventOf := goodIn_r _ [539, 107, 15, 109, 110, 2, 111, 540, 541, 542, 14, 543, 30, 544, 545, 546, 29, 547, 50, 548, 549, 205, 206, 207, 124, 125, 126, 49, 127, 59, 60, 62, 790, 791, 792, 801, 802, 803, 804, 805, 806, 807, 808, 809, 824, 825, 830, 831, 832] (by decide +kernel) (by decide +kernel)
set_option maxRecDepth 20000 in
theorem gL_law_X8_eventOf : GoodIn wsL_law (wsV RL 48 RX8 yX8_eventOf wsX8_eventOf) := goodIn_app (goodIn_of _ (by decide +kernel)) ggL_law_X8_eventOf
set_option maxRecDepth 20000 in
theorem ggL_law_X9_eventOf : GoodIn wsL_law wsX9_eventOf := goodIn_r _ [553, 183, 465, 185, 186, 5, 187, 342, 343, 344, 345, 99, 350, 351, 352, 353, 793, 794, 795, 796, 797, 798, 799, 800] (by decide +kernel) (by decide +kernel)
set_option maxRecDepth 20000 in
theorem gL_law_X9_eventOf : GoodIn wsL_law (wsV RL 51 RX9 yX9_eventOf wsX9_eventOf) := goodIn_app (goodIn_of _ (by decide +kernel)) ggL_law_X9_eventOf
set_option maxRecDepth 20000 in
theorem ggL_law_X8_judge : GoodIn wsL_law wsX8_judge := goodIn_r _ [557, 15, 107, 109, 110, 2, 111, 558, 213, 214, 14, 215, 38, 216, 217, 218, 219, 39, 220, 221, 222, 223, 34, 42, 224, 225, 226, 33, 227, 67, 228, 229, 230, 231, 156, 232, 125, 126, 49, 127, 59, 60, 62, 233, 234, 235, 236, 237, 238, 239, 240, 30, 241, 242, 243, 244, 245, 246, 247, 29, 248, 50, 124, 120, 121, 122, 123, 249, 250, 251, 37, 252, 253, 254, 255, 256, 257, 258, 259, 260, 83, 261, 790, 791, 792, 801, 802, 803, 804, 805, 806, 807, 808, 809, 826, 827, 828, 830, 831, 832, 824, 825, 829] (by decide +kernel) (by decide +kernel)
set_option maxRecDepth 20000 in
theorem gL_law_X8_judge : GoodIn wsL_law (wsV RL 52 RX8 yX8_judge wsX8_judge) := goodIn_app (goodIn_of _ (by decide +kernel)) ggL_law_X8_judge
set_option maxRecDepth 20000 in
theorem ggL_law_X9_judge : GoodIn wsL_law wsX9_judge := goodIn_r _ [562, 183, 335, 336, 5, 337, 185, 186, 187, 346, 347, 348, 349, 350, 351, 352, 353, 99, 354, 355, 356, 357, 358, 359, 360, 361, 362, 363, 364, 365, 366, 367, 368, 369, 370, 371, 372, 373, 374, 375, 376, 377, 378, 379, 380, 381, 342, 343, 344, 345, 382, 383, 384, 385, 386, 387, 388, 389, 793, 794, 795, 796, 797, 798, 799, 800] (by decide +kernel) (by decide +kernel)
set_option maxRecDepth 20000 in
theorem gL_law_X9_judge : GoodIn wsL_law (wsV RL 56 RX9 yX9_judge wsX9_judge) := goodIn_app (goodIn_of _ (by decide +kernel)) ggL_law_X9_judge
set_option maxRecDepth 20000 in
theorem ggL_law_X8_lateness : GoodIn wsL_law wsX8_lateness := goodIn_r _ [566, 107, 15, 450, 109, 110, 2, 111, 567, 217, 218, 14, 219, 39, 455, 221, 222, 223, 34, 42, 224, 225, 226, 33, 227, 67, 228, 229, 230, 231, 156, 232, 125, 126, 49, 127, 59, 60, 62, 233, 234, 235, 236, 568, 242, 243, 244, 790, 791, 792, 801, 802, 803, 804, 805, 806, 807, 808, 809, 826, 827, 828, 830, 831, 832] (by decide +kernel) (by decide +kernel)
set_option maxRecDepth 20000 in
theorem gL_law_X8_lateness : GoodIn wsL_law (wsV RL 57 RX8 yX8_lateness wsX8_lateness) := goodIn_app (goodIn_of _ (by decide +kernel)) ggL_law_X8_lateness
set_option maxRecDepth 20000 in
theorem ggL_law_X9_lateness : GoodIn wsL_law wsX9_lateness := goodIn_r _ [572, 183, 99, 465, 185, 186, 5, 187, 350, 351, 352, 353, 366, 367, 368, 369, 354, 355, 356, 357, 358, 359, 360, 361, 362, 363, 364, 365, 370, 371, 372, 373, 793, 794, 795, 796, 797, 798, 799, 800] (by decide +kernel) (by decide +kernel)
set_option maxRecDepth 20000 in
theorem gL_law_X9_lateness : GoodIn wsL_law (wsV RL 60 RX9 yX9_lateness wsX9_lateness) := goodIn_app (goodIn_of _ (by decide +kernel)) ggL_law_X9_lateness

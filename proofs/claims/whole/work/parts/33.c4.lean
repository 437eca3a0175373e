set_option maxRecDepth 20000 in
theorem ggL_law_X8_latestExcused : GoodIn wsL_law wsX8_latestExcused := goodIn_r _ [576, 107, 15, 109, 110, 2, 111, 577, 578, 579, 14, 580, 42, 581, 216, 217, 218, 219, 39, 220, 221, 222, 223, 34, 224, 225, 226, 33, 227, 67, 228, 229, 230, 231, 156, 232, 125, 126, 49, 127, 59, 60, 62, 233, 234, 235, 236, 582, 583, 584, 585, 322, 56, 57, 58, 237, 238, 239, 240, 30, 241, 242, 243, 244, 245, 246, 247, 29, 248, 50, 124, 120, 121, 122, 123, 790, 791, 792, 801, 802, 803, 804, 805, 806, 807, 808, 809, 826, 827, 828, 830, 831, 832, 824, 825] (by decide +kernel) (by decide +kernel)
set_option maxRecDepth 20000 in
theorem gL_law_X8_latestExcused : GoodIn wsL_law (wsV RL 61 RX8 yX8_latestExcused wsX8_latestExcused) := goodIn_app (goodIn_of _ (by decide +kernel)) ggL_law_X8_latestExcused
set_option maxRecDepth 20000 in
theorem ggL_law_X9_latestExcused : GoodIn wsL_law wsX9_latestExcused := goodIn_r _ [589, 183, 465, 185, 186, 5, 187, 350, 351, 352, 353, 99, 366, 367, 368, 369, 354, 355, 356, 357, 358, 359, 360, 361, 362, 363, 364, 365, 370, 371, 372, 373, 374, 375, 376, 377, 378, 379, 380, 381, 342, 343, 344, 345, 793, 794, 795, 796, 797, 798, 799, 800] (by decide +kernel) (by decide +kernel)
set_option maxRecDepth 20000 in
theorem gL_law_X9_latestExcused : GoodIn wsL_law (wsV RL 64 RX9 yX9_latestExcused wsX9_latestExcused) := goodIn_app (goodIn_of _ (by decide +kernel)) ggL_law_X9_latestExcused
set_option maxRecDepth 20000 in
theorem ggL_law_X8_filed : GoodIn wsL_law wsX8_filed := goodIn_r _ [593, 107, 15, 109, 110, 2, 111, 594, 595, 596, 14, 597, 38, 598, 599, 600, 37, 601, 83, 602, 261, 125, 126, 49, 127, 59, 60, 62, 790, 791, 792, 801, 802, 803, 804, 805, 806, 807, 808, 809, 829, 830, 831, 832] (by decide +kernel) (by decide +kernel)
set_option maxRecDepth 20000 in
theorem gL_law_X8_filed : GoodIn wsL_law (wsV RL 65 RX8 yX8_filed wsX8_filed) := goodIn_app (goodIn_of _ (by decide +kernel)) ggL_law_X8_filed
set_option maxRecDepth 20000 in
theorem ggL_law_X9_filed : GoodIn wsL_law wsX9_filed := goodIn_r _ [606, 183, 99, 465, 185, 186, 5, 187, 793, 794, 795, 796, 797, 798, 799, 800] (by decide +kernel) (by decide +kernel)
set_option maxRecDepth 20000 in
theorem gL_law_X9_filed : GoodIn wsL_law (wsV RL 68 RX9 yX9_filed wsX9_filed) := goodIn_app (goodIn_of _ (by decide +kernel)) ggL_law_X9_filed
set_option maxRecDepth 20000 in
theorem ggL_law_X8_trust : GoodIn wsL_law wsX8_trust := goodIn_r _ [610, 107, 15, 450, 109, 110, 2, 111, 540, 541, 542, 14, 543, 30, 611, 612, 613, 29, 614, 50, 124, 125, 126, 49, 127, 59, 60, 62, 120, 121, 122, 123, 478, 479, 480, 481, 482, 483, 790, 791, 792, 801, 802, 803, 804, 805, 806, 807, 808, 809, 824, 825, 830, 831, 832] (by decide +kernel) (by decide +kernel)
set_option maxRecDepth 20000 in
theorem gL_law_X8_trust : GoodIn wsL_law (wsV RL 69 RX8 yX8_trust wsX8_trust) := goodIn_app (goodIn_of _ (by decide +kernel)) ggL_law_X8_trust
set_option maxRecDepth 20000 in
theorem ggL_law_X9_trust : GoodIn wsL_law wsX9_trust := goodIn_r _ [618, 183, 619, 465, 185, 186, 5, 187, 342, 343, 344, 345, 99, 488, 489, 490, 491, 492, 793, 794, 795, 796, 797, 798, 799, 800] (by decide +kernel) (by decide +kernel)
set_option maxRecDepth 20000 in
theorem gL_law_X9_trust : GoodIn wsL_law (wsV RL 72 RX9 yX9_trust wsX9_trust) := goodIn_app (goodIn_of _ (by decide +kernel)) ggL_law_X9_trust

set_option maxRecDepth 20000 in
theorem ggL_isJudged_X8_eventOf : GoodIn wsL_isJudged wsX8_eventOf := goodIn_r _ [6, 7, 8, 9, 10, 5, 11, 12, 13, 14, 15, 16, 17, 18, 19, 20, 21, 22, 23, 24, 25, 26, 27, 28, 29, 30, 31, 32, 33, 34, 35, 36, 303, 304, 305, 306, 307, 308, 309, 310, 311, 312, 313, 314, 315, 316, 317, 318, 319] (by decide +kernel) (by decide +kernel)
set_option maxRecDepth 20000 in
theorem gL_isJudged_X8_eventOf : GoodIn wsL_isJudged (wsV RL 19 RX8 yX8_eventOf wsX8_eventOf) := goodIn_app (goodIn_of _ (by decide +kernel)) ggL_isJudged_X8_eventOf
set_option maxRecDepth 20000 in
theorem ggL_isJudged_L_up : GoodIn wsL_isJudged wsL_up := goodIn_r _ [40, 41] (by decide +kernel) (by decide +kernel)
set_option maxRecDepth 20000 in
theorem gL_isJudged_L_up : GoodIn wsL_isJudged (va_wsS RL 51 yL_up wsL_up) := goodIn_app (goodIn_of _ (by decide +kernel)) ggL_isJudged_L_up
set_option maxRecDepth 20000 in
theorem ggL_isJudged_X8_judge : GoodIn wsL_isJudged wsX8_judge := goodIn_r _ [45, 8, 7, 9, 10, 5, 11, 46, 47, 48, 15, 49, 50, 51, 52, 53, 54, 55, 56, 57, 58, 59, 60, 61, 62, 63, 64, 65, 66, 67, 68, 69, 70, 71, 72, 73, 30, 31, 32, 33, 34, 35, 36, 74, 75, 76, 77, 78, 79, 80, 81, 17, 82, 83, 84, 85, 86, 87, 88, 21, 89, 23, 29, 90, 91, 92, 93, 94, 95, 96, 97, 98, 99, 100, 101, 102, 103, 104, 105, 106, 107, 108, 303, 304, 305, 306, 307, 308, 309, 310, 311, 312, 313, 314, 320, 321, 322, 317, 318, 319, 315, 316, 323] (by decide +kernel) (by decide +kernel)
set_option maxRecDepth 20000 in
theorem gL_isJudged_X8_judge : GoodIn wsL_isJudged (wsV RL 75 RX8 yX8_judge wsX8_judge) := goodIn_app (goodIn_of _ (by decide +kernel)) ggL_isJudged_X8_judge

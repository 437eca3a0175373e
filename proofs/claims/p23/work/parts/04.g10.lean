set_option maxRecDepth 20000 in
theorem ggL_cases_X8_nextPane : GoodIn wsL_cases wsX8_nextPane := goodIn_r _ [7, 8, 9, 10, 11, 6, 12, 13, 14, 15, 16, 17, 18, 19, 20, 21, 22, 23, 24, 25, 26, 27, 28, 29, 30, 31, 32, 33, 34, 35, 36, 37, 38, 67, 68, 69, 70, 71, 72, 73, 74, 75, 76, 77, 78, 79, 80, 81, 82, 83, 84] (by decide +kernel) (by decide +kernel)
set_option maxRecDepth 20000 in
theorem gL_cases_X8_nextPane : GoodIn wsL_cases (wsV RL 29 RX8 yX8_nextPane wsX8_nextPane) := goodIn_app (goodIn_of _ (by decide +kernel)) ggL_cases_X8_nextPane
set_option maxRecDepth 20000 in
theorem ggL_cases_X8_paneOf : GoodIn wsL_cases wsX8_paneOf := goodIn_r _ [42, 9, 8, 43, 44, 45, 46, 16, 47, 48, 11, 6, 12, 10, 49, 50, 51, 52, 18, 53, 54, 55, 56, 22, 57, 25, 58, 59, 60, 61, 24, 31, 32, 33, 34, 35, 36, 37, 38, 62, 63, 64, 65, 13, 14, 15, 17, 66, 67, 68, 69, 70, 71, 72, 73, 74, 75, 76, 77, 78, 79, 80, 81, 82, 83, 84] (by decide +kernel) (by decide +kernel)
set_option maxRecDepth 20000 in
theorem gL_cases_X8_paneOf : GoodIn wsL_cases (wsV RL 32 RX8 yX8_paneOf wsX8_paneOf) := goodIn_app (goodIn_of _ (by decide +kernel)) ggL_cases_X8_paneOf

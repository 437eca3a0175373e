set_option maxRecDepth 20000 in
theorem ggL_arePanes_X8_nextPane : GoodIn wsL_arePanes wsX8_nextPane := goodIn_r _ [6, 7, 8, 9, 10, 5, 11, 12, 13, 14, 15, 16, 17, 18, 19, 20, 21, 22, 23, 24, 25, 26, 27, 28, 29, 30, 31, 32, 33, 34, 35, 36, 37, 151, 152, 153, 154, 155, 156, 157, 158, 159, 160, 161, 162, 163, 164, 165, 166, 167, 168] (by decide +kernel) (by decide +kernel)
set_option maxRecDepth 20000 in
theorem gL_arePanes_X8_nextPane : GoodIn wsL_arePanes (wsV RL 29 RX8 yX8_nextPane wsX8_nextPane) := goodIn_app (goodIn_of _ (by decide +kernel)) ggL_arePanes_X8_nextPane
set_option maxRecDepth 20000 in
theorem ggL_arePanes_X8_paneOf : GoodIn wsL_arePanes wsX8_paneOf := goodIn_r _ [41, 8, 7, 42, 43, 44, 45, 15, 46, 47, 10, 5, 11, 9, 48, 49, 50, 51, 17, 52, 53, 54, 55, 21, 56, 24, 57, 58, 59, 60, 23, 30, 31, 32, 33, 34, 35, 36, 37, 61, 62, 63, 64, 12, 13, 14, 16, 65, 151, 152, 153, 154, 155, 156, 157, 158, 159, 160, 161, 162, 163, 164, 165, 166, 167, 168] (by decide +kernel) (by decide +kernel)
set_option maxRecDepth 20000 in
theorem gL_arePanes_X8_paneOf : GoodIn wsL_arePanes (wsV RL 32 RX8 yX8_paneOf wsX8_paneOf) := goodIn_app (goodIn_of _ (by decide +kernel)) ggL_arePanes_X8_paneOf
set_option maxRecDepth 20000 in
theorem ggL_arePanes_X8_standing : GoodIn wsL_arePanes wsX8_standing := goodIn_r _ [69, 8, 7, 42, 43, 44, 45, 15, 46, 47, 10, 5, 11, 9, 12, 13, 14, 16, 17, 70, 71, 72, 21, 73, 57, 58, 59, 60, 23, 24, 30, 31, 32, 33, 34, 35, 36, 37, 74, 75, 76, 77, 65, 54, 55, 56, 151, 152, 153, 154, 155, 156, 157, 158, 159, 160, 161, 162, 163, 164, 165, 166, 167, 168] (by decide +kernel) (by decide +kernel)
set_option maxRecDepth 20000 in
theorem gL_arePanes_X8_standing : GoodIn wsL_arePanes (wsV RL 38 RX8 yX8_standing wsX8_standing) := goodIn_app (goodIn_of _ (by decide +kernel)) ggL_arePanes_X8_standing

set_option maxRecDepth 20000 in
theorem ggL_view_X8_filed : GoodIn wsL_view wsX8_filed := goodIn_r _ [132, 104, 8, 11, 12, 6, 13, 133, 134, 135, 17, 136, 137, 138, 139, 140, 141, 142, 143, 144, 145, 56, 57, 58, 59, 60, 61, 62, 207, 208, 209, 210, 211, 212, 213, 214, 215, 216, 217, 218, 245, 226, 227, 228] (by decide +kernel) (by decide +kernel)
set_option maxRecDepth 20000 in
theorem gL_view_X8_filed : GoodIn wsL_view (wsV RL 26 RX8 yX8_filed wsX8_filed) := goodIn_app (goodIn_of _ (by decide +kernel)) ggL_view_X8_filed
set_option maxRecDepth 20000 in
theorem ggL_view_X8_nextPane : GoodIn wsL_view wsX8_nextPane := goodIn_r _ [149, 104, 8, 11, 12, 6, 13, 22, 23, 24, 17, 25, 26, 150, 151, 152, 30, 153, 53, 54, 154, 155, 156, 157, 158, 55, 56, 57, 58, 59, 60, 61, 62, 207, 208, 209, 210, 211, 212, 213, 214, 215, 216, 217, 218, 219, 220, 221, 226, 227, 228] (by decide +kernel) (by decide +kernel)
set_option maxRecDepth 20000 in
theorem gL_view_X8_nextPane : GoodIn wsL_view (wsV RL 29 RX8 yX8_nextPane wsX8_nextPane) := goodIn_app (goodIn_of _ (by decide +kernel)) ggL_view_X8_nextPane
set_option maxRecDepth 20000 in
theorem ggL_view_X8_paneOf : GoodIn wsL_view wsX8_paneOf := goodIn_r _ [162, 8, 104, 163, 164, 165, 166, 17, 167, 19, 12, 6, 13, 11, 168, 169, 170, 171, 26, 80, 172, 173, 174, 30, 175, 54, 176, 177, 178, 179, 53, 55, 56, 57, 58, 59, 60, 61, 62, 180, 181, 182, 183, 22, 23, 24, 25, 184, 207, 208, 209, 210, 211, 212, 213, 214, 215, 216, 217, 218, 219, 220, 221, 226, 227, 228] (by decide +kernel) (by decide +kernel)
set_option maxRecDepth 20000 in
theorem gL_view_X8_paneOf : GoodIn wsL_view (wsV RL 32 RX8 yX8_paneOf wsX8_paneOf) := goodIn_app (goodIn_of _ (by decide +kernel)) ggL_view_X8_paneOf

set_option maxRecDepth 20000 in
theorem ggL_view_X8_mean : GoodIn wsL_view wsX8_mean := goodIn_r _ [188, 8, 104, 163, 164, 165, 166, 17, 167, 19, 12, 6, 13, 22, 23, 24, 25, 26, 184, 173, 174, 30, 175, 54, 176, 177, 178, 179, 53, 55, 56, 57, 58, 59, 60, 61, 62, 189, 190, 191, 192, 193, 194, 207, 208, 209, 210, 211, 212, 213, 214, 215, 216, 217, 218, 219, 220, 221, 226, 227, 228] (by decide +kernel) (by decide +kernel)
set_option maxRecDepth 20000 in
theorem gL_view_X8_mean : GoodIn wsL_view (wsV RL 35 RX8 yX8_mean wsX8_mean) := goodIn_app (goodIn_of _ (by decide +kernel)) ggL_view_X8_mean
set_option maxRecDepth 20000 in
theorem ggL_view_X8_standing : GoodIn wsL_view wsX8_standing := goodIn_r _ [198, 8, 104, 163, 164, 165, 166, 17, 167, 19, 12, 6, 13, 11, 22, 23, 24, 25, 26, 199, 200, 201, 30, 202, 176, 177, 178, 179, 53, 54, 55, 56, 57, 58, 59, 60, 61, 62, 203, 204, 205, 206, 184, 173, 174, 175, 207, 208, 209, 210, 211, 212, 213, 214, 215, 216, 217, 218, 219, 220, 221, 226, 227, 228] (by decide +kernel) (by decide +kernel)
set_option maxRecDepth 20000 in
theorem gL_view_X8_standing : GoodIn wsL_view (wsV RL 38 RX8 yX8_standing wsX8_standing) := goodIn_app (goodIn_of _ (by decide +kernel)) ggL_view_X8_standing

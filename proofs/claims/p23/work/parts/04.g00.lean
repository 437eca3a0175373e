set_option maxRecDepth 20000 in
theorem ggL_view_X8_count : GoodIn wsL_view wsX8_count := goodIn_r _ [7, 8, 9, 10, 11, 12, 6, 13, 14, 15, 16, 17, 18, 19, 20, 21, 22, 23, 24, 25, 26, 27, 28, 29, 30, 31, 32, 33, 34, 35, 36, 37, 38, 39, 40, 41, 42, 43, 44, 45, 46, 47, 48, 49, 50, 51, 52, 53, 54, 55, 56, 57, 58, 59, 60, 61, 62, 63, 64, 65, 66, 67, 68, 69, 70, 71, 72, 73, 74, 75, 76, 77, 78, 79, 80, 81, 82, 83, 84, 85, 86, 87, 88, 89, 90, 91, 92, 93, 94, 95, 96, 97, 98, 99, 207, 208, 209, 210, 211, 212, 213, 214, 215, 216, 217, 218, 219, 220, 221, 222, 223, 224, 225, 226, 227, 228, 229, 230, 231, 232, 233, 234, 235, 236, 237, 238, 239, 240, 241, 242, 243, 244] (by decide +kernel) (by decide +kernel)
set_option maxRecDepth 20000 in
theorem gL_view_X8_count : GoodIn wsL_view (wsV RL 13 RX8 yX8_count wsX8_count) := goodIn_app (goodIn_of _ (by decide +kernel)) ggL_view_X8_count
set_option maxRecDepth 20000 in
theorem ggL_view_X8_eventOf : GoodIn wsL_view wsX8_eventOf := goodIn_r _ [103, 104, 8, 11, 12, 6, 13, 105, 106, 107, 17, 108, 79, 109, 110, 111, 87, 112, 93, 113, 114, 115, 116, 117, 94, 56, 57, 58, 59, 60, 61, 62, 207, 208, 209, 210, 211, 212, 213, 214, 215, 216, 217, 218, 243, 244, 226, 227, 228] (by decide +kernel) (by decide +kernel)
set_option maxRecDepth 20000 in
theorem gL_view_X8_eventOf : GoodIn wsL_view (wsV RL 19 RX8 yX8_eventOf wsX8_eventOf) := goodIn_app (goodIn_of _ (by decide +kernel)) ggL_view_X8_eventOf
set_option maxRecDepth 20000 in
theorem ggL_view_X8_wordAt : GoodIn wsL_view wsX8_wordAt := goodIn_r _ [121, 104, 8, 11, 12, 6, 13, 22, 23, 24, 17, 25, 26, 27, 28, 29, 30, 31, 32, 122, 123, 124, 36, 125, 38, 126, 127, 128, 56, 57, 58, 59, 60, 61, 62, 207, 208, 209, 210, 211, 212, 213, 214, 215, 216, 217, 218, 219, 220, 221, 222, 223, 224, 225, 226, 227, 228] (by decide +kernel) (by decide +kernel)
set_option maxRecDepth 20000 in
theorem gL_view_X8_wordAt : GoodIn wsL_view (wsV RL 23 RX8 yX8_wordAt wsX8_wordAt) := goodIn_app (goodIn_of _ (by decide +kernel)) ggL_view_X8_wordAt

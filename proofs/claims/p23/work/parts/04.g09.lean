set_option maxRecDepth 20000 in
theorem ggL_areEvents_X8_filed : GoodIn wsL_areEvents wsX8_filed := goodIn_r _ [6, 7, 8, 9, 10, 5, 11, 12, 13, 14, 15, 16, 17, 18, 19, 20, 21, 22, 23, 24, 25, 26, 27, 28, 29, 30, 31, 32, 134, 135, 136, 137, 138, 139, 140, 141, 142, 143, 144, 145, 146, 147, 148, 149] (by decide +kernel) (by decide +kernel)
set_option maxRecDepth 20000 in
theorem gL_areEvents_X8_filed : GoodIn wsL_areEvents (wsV RL 26 RX8 yX8_filed wsX8_filed) := goodIn_app (goodIn_of _ (by decide +kernel)) ggL_areEvents_X8_filed
set_option maxRecDepth 20000 in
theorem ggL_areEvents_X8_eventOf : GoodIn wsL_areEvents wsX8_eventOf := goodIn_r _ [36, 7, 8, 9, 10, 5, 11, 37, 38, 39, 15, 40, 41, 42, 43, 44, 45, 46, 47, 48, 49, 50, 51, 52, 53, 26, 27, 28, 29, 30, 31, 32, 134, 135, 136, 137, 138, 139, 140, 141, 142, 143, 144, 145, 150, 151, 147, 148, 149] (by decide +kernel) (by decide +kernel)
set_option maxRecDepth 20000 in
theorem gL_areEvents_X8_eventOf : GoodIn wsL_areEvents (wsV RL 19 RX8 yX8_eventOf wsX8_eventOf) := goodIn_app (goodIn_of _ (by decide +kernel)) ggL_areEvents_X8_eventOf
set_option maxRecDepth 20000 in
theorem ggL_areEvents_X8_count : GoodIn wsL_areEvents wsX8_count := goodIn_r _ [57, 8, 58, 59, 9, 10, 5, 11, 60, 61, 62, 15, 63, 64, 65, 66, 67, 68, 69, 70, 71, 72, 73, 74, 75, 76, 77, 78, 79, 80, 81, 82, 83, 84, 85, 86, 87, 88, 89, 90, 91, 92, 93, 94, 95, 96, 97, 98, 99, 100, 26, 27, 28, 29, 30, 31, 32, 101, 102, 103, 104, 105, 106, 107, 108, 109, 110, 111, 112, 113, 114, 115, 116, 41, 117, 118, 119, 120, 121, 122, 123, 45, 124, 125, 126, 127, 128, 47, 53, 129, 130, 131, 132, 133, 134, 135, 136, 137, 138, 139, 140, 141, 142, 143, 144, 145, 152, 153, 154, 155, 156, 157, 158, 147, 148, 149, 159, 160, 161, 162, 163, 164, 165, 166, 167, 168, 169, 170, 171, 172, 150, 151] (by decide +kernel) (by decide +kernel)
set_option maxRecDepth 20000 in
theorem gL_areEvents_X8_count : GoodIn wsL_areEvents (wsV RL 13 RX8 yX8_count wsX8_count) := goodIn_app (goodIn_of _ (by decide +kernel)) ggL_areEvents_X8_count

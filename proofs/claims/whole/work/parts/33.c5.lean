set_option maxRecDepth 20000 in
theorem ggL_law_X8_count : GoodIn wsL_law wsX8_count := goodIn_r _ [623, 15, 19, 23, 109, 110, 2, 111, 624, 176, 177, 14, 178, 39, 40, 41, 456, 457, 458, 459, 34, 522, 523, 524, 33, 525, 71, 625, 626, 627, 70, 628, 162, 629, 630, 631, 632, 163, 633, 634, 635, 636, 164, 637, 638, 639, 640, 156, 67, 232, 125, 126, 49, 127, 59, 60, 62, 641, 642, 643, 18, 644, 132, 645, 646, 647, 22, 648, 649, 650, 651, 652, 653, 30, 42, 43, 138, 654, 116, 117, 118, 29, 119, 120, 121, 122, 123, 50, 124, 655, 656, 657, 658, 143, 790, 791, 792, 801, 802, 803, 804, 805, 806, 807, 808, 809, 826, 827, 828, 833, 834, 835, 836, 830, 831, 832, 810, 811, 812, 813, 814, 815, 816, 817, 818, 819, 820, 821, 822, 823, 824, 825] (by decide +kernel) (by decide +kernel)
set_option maxRecDepth 20000 in
theorem gL_law_X8_count : GoodIn wsL_law (wsV RL 73 RX8 yX8_count wsX8_count) := goodIn_app (goodIn_of _ (by decide +kernel)) ggL_law_X8_count
set_option maxRecDepth 20000 in
theorem ggL_law_X9_count : GoodIn wsL_law wsX9_count := goodIn_r _ [662, 99, 192, 663, 183, 185, 186, 5, 187, 664, 665, 666, 667, 342, 343, 344, 345, 668, 669, 670, 671, 362, 363, 364, 365, 793, 794, 795, 796, 797, 798, 799, 800] (by decide +kernel) (by decide +kernel)
set_option maxRecDepth 20000 in
theorem gL_law_X9_count : GoodIn wsL_law (wsV RL 76 RX9 yX9_count wsX9_count) := goodIn_app (goodIn_of _ (by decide +kernel)) ggL_law_X9_count
set_option maxRecDepth 20000 in
theorem ggL_law_X8_undo : GoodIn wsL_law wsX8_undo := goodIn_r _ [675, 19, 108, 15, 641, 642, 643, 18, 644, 132, 676, 677, 678, 679, 133, 89, 134, 135, 136, 14, 137, 30, 34, 38, 39, 40, 41, 42, 43, 138, 139, 140, 141, 29, 142, 50, 143, 144, 145, 146, 49, 147, 62, 148, 149, 150, 151, 152, 153, 154, 33, 155, 67, 71, 156, 157, 158, 159, 160, 70, 161, 77, 162, 163, 164, 165, 166, 167, 168, 37, 169, 83, 170, 790, 791, 792, 810, 811, 812, 801, 802, 803, 804, 805, 806, 807, 808, 809, 824, 825, 830, 831, 832, 826, 827, 828, 833, 834, 835, 836, 829] (by decide +kernel) (by decide +kernel)
set_option maxRecDepth 20000 in
theorem gL_law_X8_undo : GoodIn wsL_law (wsV RL 77 RX8 yX8_undo wsX8_undo) := goodIn_app (goodIn_of _ (by decide +kernel)) ggL_law_X8_undo
set_option maxRecDepth 20000 in
theorem ggL_law_X9_undo : GoodIn wsL_law wsX9_undo := goodIn_r _ [683, 192, 184, 99, 100, 793, 794, 795, 796, 797, 798, 799, 800] (by decide +kernel) (by decide +kernel)
set_option maxRecDepth 20000 in
theorem gL_law_X9_undo : GoodIn wsL_law (wsV RL 81 RX9 yX9_undo wsX9_undo) := goodIn_app (goodIn_of _ (by decide +kernel)) ggL_law_X9_undo
set_option maxRecDepth 20000 in
theorem ggL_law_X8_type : GoodIn wsL_law wsX8_type := goodIn_r _ [687, 107, 23, 688, 109, 110, 2, 111, 689, 690, 691, 22, 692, 649, 94, 645, 646, 647, 648, 790, 791, 792, 813, 814, 815, 816, 817, 818, 819, 820, 821, 822, 823] (by decide +kernel) (by decide +kernel)
set_option maxRecDepth 20000 in
theorem gL_law_X8_type : GoodIn wsL_law (wsV RL 82 RX8 yX8_type wsX8_type) := goodIn_app (goodIn_of _ (by decide +kernel)) ggL_law_X8_type
set_option maxRecDepth 20000 in
theorem ggL_law_X9_type : GoodIn wsL_law wsX9_type := goodIn_r _ [696, 183, 663, 697, 101, 185, 186, 5, 187, 793, 794, 795, 796, 797, 798, 799, 800] (by decide +kernel) (by decide +kernel)
set_option maxRecDepth 20000 in
theorem gL_law_X9_type : GoodIn wsL_law (wsV RL 85 RX9 yX9_type wsX9_type) := goodIn_app (goodIn_of _ (by decide +kernel)) ggL_law_X9_type

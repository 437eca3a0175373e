set_option maxRecDepth 20000 in
theorem inr_12 : ∀ w ∈ wsL_law_r12, w ∈ lw_tbl := fun w h => (goodIn_r (big := lw_tbl) wsL_law_r12 [401, 402, 403, 404, 405, 406, 407, 408, 409, 410, 411, 412, 413, 414, 415, 416, 417, 418, 419, 420, 422, 6, 423, 424] (by decide +kernel) (by decide +kernel) w h).1
set_option maxRecDepth 20000 in
theorem inr_13 : ∀ w ∈ wsL_law_r13, w ∈ lw_tbl := fun w h => (goodIn_r (big := lw_tbl) wsL_law_r13 [426, 7, 427, 428, 429, 430, 431, 432, 433, 434, 436, 8, 437, 438, 440, 9, 441, 442, 443, 444, 445, 446, 447, 448] (by decide +kernel) (by decide +kernel) w h).1
set_option maxRecDepth 20000 in
theorem inr_14 : ∀ w ∈ wsL_law_r14, w ∈ lw_tbl := fun w h => (goodIn_r (big := lw_tbl) wsL_law_r14 [449, 450, 451, 452, 453, 454, 455, 457, 10, 458, 459, 460, 461, 462, 463, 465, 467, 11, 468, 755, 756, 757, 758, 759] (by decide +kernel) (by decide +kernel) w h).1
set_option maxRecDepth 20000 in
theorem inr_15 : ∀ w ∈ wsL_law_r15, w ∈ lw_tbl := fun w h => (goodIn_r (big := lw_tbl) wsL_law_r15 [760, 761, 762, 764, 18, 765, 766, 768, 19, 769, 770, 772, 20, 773, 774, 776, 21, 777, 778, 780, 22, 781, 782, 784] (by decide +kernel) (by decide +kernel) w h).1
set_option maxRecDepth 20000 in
theorem inr_16 : ∀ w ∈ wsL_law_r16, w ∈ lw_tbl := fun w h => (goodIn_r (big := lw_tbl) wsL_law_r16 [23, 785, 786, 788, 24, 789, 790, 792, 25, 793, 794, 796, 26, 797, 798, 800, 27, 801, 802, 804, 28, 805, 806, 808] (by decide +kernel) (by decide +kernel) w h).1
set_option maxRecDepth 20000 in
theorem inr_17 : ∀ w ∈ wsL_law_r17, w ∈ lw_tbl := fun w h => (goodIn_r (big := lw_tbl) wsL_law_r17 [29, 809, 810, 812, 30, 813, 814, 816, 31, 817, 818, 820, 32, 821, 822, 824, 33, 825, 826, 828, 34, 829, 830, 832] (by decide +kernel) (by decide +kernel) w h).1
set_option maxRecDepth 20000 in
theorem inr_18 : ∀ w ∈ wsL_law_r18, w ∈ lw_tbl := fun w h => (goodIn_r (big := lw_tbl) wsL_law_r18 [35, 833, 834, 836, 36, 837, 838, 840, 37, 841, 842, 844, 38, 845, 846, 848, 39, 849, 469, 470, 471, 472, 473, 474] (by decide +kernel) (by decide +kernel) w h).1
set_option maxRecDepth 20000 in
theorem inr_19 : ∀ w ∈ wsL_law_r19, w ∈ lw_tbl := fun w h => (goodIn_r (big := lw_tbl) wsL_law_r19 [475, 476, 477, 478, 479, 480, 481, 482, 483, 484, 850, 851, 852, 853, 485, 486, 487, 488, 495, 489, 490, 491, 492, 494] (by decide +kernel) (by decide +kernel) w h).1
set_option maxRecDepth 20000 in
theorem inr_20 : ∀ w ∈ wsL_law_r20, w ∈ lw_tbl := fun w h => (goodIn_r (big := lw_tbl) wsL_law_r20 [496, 497, 498, 499, 500, 854, 855, 856, 857, 866, 858, 860, 40, 861, 862, 864, 41, 865, 501, 502, 503, 504, 505, 506] (by decide +kernel) (by decide +kernel) w h).1
set_option maxRecDepth 20000 in
theorem inr_21 : ∀ w ∈ wsL_law_r21, w ∈ lw_tbl := fun w h => (goodIn_r (big := lw_tbl) wsL_law_r21 [507, 508, 509, 510, 867, 868, 869, 870, 871, 872, 873, 874, 875, 511, 512, 513, 514, 515, 516, 517, 518, 876, 877, 878] (by decide +kernel) (by decide +kernel) w h).1
set_option maxRecDepth 20000 in
theorem inr_22 : ∀ w ∈ wsL_law_r22, w ∈ lw_tbl := fun w h => (goodIn_r (big := lw_tbl) wsL_law_r22 [879, 519, 520, 521, 522, 523, 524, 525, 526, 527, 880, 881, 882, 883, 528, 529, 530, 531, 532, 533, 534, 535, 536, 537] (by decide +kernel) (by decide +kernel) w h).1

set_option maxRecDepth 20000 in
theorem inr_23 : ∀ w ∈ wsL_law_r23, w ∈ lw_tbl := fun w h => (goodIn_r (big := lw_tbl) wsL_law_r23 [538, 539, 541, 540, 884, 885, 886, 887, 542, 543, 544, 545, 546, 547, 548, 549, 550, 551, 552, 553, 555, 554, 888, 889] (by decide +kernel) (by decide +kernel) w h).1
set_option maxRecDepth 20000 in
theorem inr_24 : ∀ w ∈ wsL_law_r24, w ∈ lw_tbl := fun w h => (goodIn_r (big := lw_tbl) wsL_law_r24 [890, 891, 556, 557, 558, 559, 560, 892, 893, 894, 895, 561, 562, 563, 564, 565, 566, 896, 897, 898, 899, 567, 568, 569] (by decide +kernel) (by decide +kernel) w h).1
set_option maxRecDepth 20000 in
theorem inr_25 : ∀ w ∈ wsL_law_r25, w ∈ lw_tbl := fun w h => (goodIn_r (big := lw_tbl) wsL_law_r25 [570, 571, 572, 573, 574, 579, 575, 577, 12, 578, 900, 901, 902, 903, 580, 581, 582, 583, 584, 585, 586, 587, 588, 589] (by decide +kernel) (by decide +kernel) w h).1
set_option maxRecDepth 20000 in
theorem inr_26 : ∀ w ∈ wsL_law_r26, w ∈ lw_tbl := fun w h => (goodIn_r (big := lw_tbl) wsL_law_r26 [590, 591, 592, 904, 905, 906, 907, 593, 594, 595, 596, 597, 598, 599, 600, 908, 909, 910, 911, 912, 601, 602, 603, 604] (by decide +kernel) (by decide +kernel) w h).1
set_option maxRecDepth 20000 in
theorem inr_27 : ∀ w ∈ wsL_law_r27, w ∈ lw_tbl := fun w h => (goodIn_r (big := lw_tbl) wsL_law_r27 [605, 606, 607, 608, 609, 610, 611, 612, 613, 614, 615, 616, 617, 618, 619, 620, 621, 622, 623, 624, 625, 626, 627, 628] (by decide +kernel) (by decide +kernel) w h).1
set_option maxRecDepth 20000 in
theorem inr_28 : ∀ w ∈ wsL_law_r28, w ∈ lw_tbl := fun w h => (goodIn_r (big := lw_tbl) wsL_law_r28 [629, 213, 630, 631, 632, 633, 638, 634, 635, 636, 637, 913, 914, 915, 916, 717, 917, 919, 42, 920, 921, 923, 43, 924] (by decide +kernel) (by decide +kernel) w h).1
set_option maxRecDepth 20000 in
theorem inr_29 : ∀ w ∈ wsL_law_r29, w ∈ lw_tbl := fun w h => (goodIn_r (big := lw_tbl) wsL_law_r29 [639, 640, 641, 642, 643, 644, 645, 646, 738, 739, 740, 741, 647, 648, 649, 650, 655, 651, 652, 653, 654, 925, 926, 927] (by decide +kernel) (by decide +kernel) w h).1
set_option maxRecDepth 20000 in
theorem inr_30 : ∀ w ∈ wsL_law_r30, w ∈ lw_tbl := fun w h => (goodIn_r (big := lw_tbl) wsL_law_r30 [928, 929, 656, 657, 658, 659, 660, 661, 662, 663, 930, 931, 932, 933, 664, 665, 666, 667, 668, 669, 670, 671, 216, 218] (by decide +kernel) (by decide +kernel) w h).1
set_option maxRecDepth 20000 in
theorem inr_31 : ∀ w ∈ wsL_law_r31, w ∈ lw_tbl := fun w h => (goodIn_r (big := lw_tbl) wsL_law_r31 [220, 222, 226, 227, 672, 673, 674, 675, 214, 215, 224, 676, 678, 13, 679, 680, 682, 14, 683, 685, 687, 15, 688, 689] (by decide +kernel) (by decide +kernel) w h).1
set_option maxRecDepth 20000 in
theorem inr_32 : ∀ w ∈ wsL_law_r32, w ∈ lw_tbl := fun w h => (goodIn_r (big := lw_tbl) wsL_law_r32 [691, 16, 692, 694, 695, 696, 697, 698, 699, 700, 701, 934, 935, 936, 937, 938, 940, 44, 941, 718, 942, 944, 45, 945] (by decide +kernel) (by decide +kernel) w h).1
set_option maxRecDepth 20000 in
theorem inr_33 : ∀ w ∈ wsL_law_r33, w ∈ lw_tbl := fun w h => (goodIn_r (big := lw_tbl) wsL_law_r33 [719, 946, 948, 46, 949, 950, 952, 47, 953, 954, 956, 48, 957, 702, 703, 704, 705, 706, 958, 959, 960, 961] (by decide +kernel) (by decide +kernel) w h).1

set_option maxRecDepth 20000 in
theorem inr_1 : ∀ w ∈ wsL_law_r1, w ∈ lw_tbl := fun w h => (goodIn_r (big := lw_tbl) wsL_law_r1 [62, 63, 50, 707, 708, 60, 64, 65, 66, 67, 68, 69, 70, 71, 51, 252, 188, 189, 58, 253, 206, 207, 59, 254] (by decide +kernel) (by decide +kernel) w h).1
set_option maxRecDepth 20000 in
theorem inr_2 : ∀ w ∈ wsL_law_r2, w ∈ lw_tbl := fun w h => (goodIn_r (big := lw_tbl) wsL_law_r2 [73, 74, 75, 76, 77, 52, 160, 109, 110, 55, 161, 148, 149, 57, 162, 163, 164, 165, 166, 167, 79, 80, 81, 82] (by decide +kernel) (by decide +kernel) w h).1
set_option maxRecDepth 20000 in
theorem inr_3 : ∀ w ∈ wsL_law_r3, w ∈ lw_tbl := fun w h => (goodIn_r (big := lw_tbl) wsL_law_r3 [83, 53, 102, 84, 85, 86, 87, 88, 89, 54, 90, 91, 92, 101, 93, 112, 113, 114, 115, 138, 117, 118, 56, 139] (by decide +kernel) (by decide +kernel) w h).1
set_option maxRecDepth 20000 in
theorem inr_4 : ∀ w ∈ wsL_law_r4, w ∈ lw_tbl := fun w h => (goodIn_r (big := lw_tbl) wsL_law_r4 [116, 120, 121, 122, 123, 125, 124, 151, 152, 153, 154, 156, 155, 191, 192, 193, 194, 196, 209, 210, 211, 251, 212, 709] (by decide +kernel) (by decide +kernel) w h).1
set_option maxRecDepth 20000 in
theorem inr_5 : ∀ w ∈ wsL_law_r5, w ∈ lw_tbl := fun w h => (goodIn_r (big := lw_tbl) wsL_law_r5 [710, 711, 712, 713, 714, 716, 720, 262, 263, 264, 265, 269, 286, 266, 267, 268, 270, 271, 272, 273, 274, 275, 276, 277] (by decide +kernel) (by decide +kernel) w h).1
set_option maxRecDepth 20000 in
theorem inr_6 : ∀ w ∈ wsL_law_r6, w ∈ lw_tbl := fun w h => (goodIn_r (big := lw_tbl) wsL_law_r6 [278, 280, 0, 281, 282, 283, 284, 285, 287, 288, 289, 290, 198, 197, 292, 293, 294, 295, 168, 296, 297, 298, 299, 103] (by decide +kernel) (by decide +kernel) w h).1
set_option maxRecDepth 20000 in
theorem inr_7 : ∀ w ∈ wsL_law_r7, w ∈ lw_tbl := fun w h => (goodIn_r (big := lw_tbl) wsL_law_r7 [300, 301, 302, 303, 304, 306, 305, 61, 307, 308, 309, 310, 140, 311, 312, 313, 314, 315, 126, 127, 128, 316, 317, 318] (by decide +kernel) (by decide +kernel) w h).1
set_option maxRecDepth 20000 in
theorem inr_8 : ∀ w ∈ wsL_law_r8, w ∈ lw_tbl := fun w h => (goodIn_r (big := lw_tbl) wsL_law_r8 [319, 320, 321, 322, 323, 324, 325, 326, 327, 328, 329, 743, 744, 745, 746, 750, 742, 747, 748, 749, 751, 753, 17, 754] (by decide +kernel) (by decide +kernel) w h).1
set_option maxRecDepth 20000 in
theorem inr_9 : ∀ w ∈ wsL_law_r9, w ∈ lw_tbl := fun w h => (goodIn_r (big := lw_tbl) wsL_law_r9 [715, 330, 331, 332, 333, 334, 335, 336, 337, 338, 339, 340, 341, 342, 343, 344, 345, 346, 347, 348, 349, 350, 351, 352] (by decide +kernel) (by decide +kernel) w h).1
set_option maxRecDepth 20000 in
theorem inr_10 : ∀ w ∈ wsL_law_r10, w ∈ lw_tbl := fun w h => (goodIn_r (big := lw_tbl) wsL_law_r10 [353, 354, 355, 356, 357, 358, 359, 360, 361, 362, 363, 364, 365, 367, 1, 368, 369, 370, 372, 2, 373, 374, 376, 3] (by decide +kernel) (by decide +kernel) w h).1
set_option maxRecDepth 20000 in
theorem inr_11 : ∀ w ∈ wsL_law_r11, w ∈ lw_tbl := fun w h => (goodIn_r (big := lw_tbl) wsL_law_r11 [377, 378, 379, 380, 381, 382, 383, 384, 385, 386, 387, 388, 389, 390, 392, 4, 393, 394, 396, 5, 397, 398, 399, 400] (by decide +kernel) (by decide +kernel) w h).1

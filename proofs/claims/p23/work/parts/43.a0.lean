set_option maxRecDepth 20000 in
theorem inr_1 : ∀ w ∈ wsL_law_r1, w ∈ lw_tbl := fun w h => (goodIn_r (big := lw_tbl) wsL_law_r1 [24, 25, 13, 26, 27, 28, 29, 30, 31, 32, 33, 14, 200, 150, 151, 21, 201, 168, 169, 22, 202, 35, 36, 37] (by decide +kernel) (by decide +kernel) w h).1
set_option maxRecDepth 20000 in
theorem inr_2 : ∀ w ∈ wsL_law_r2, w ∈ lw_tbl := fun w h => (goodIn_r (big := lw_tbl) wsL_law_r2 [38, 39, 15, 122, 71, 72, 18, 123, 110, 111, 20, 124, 125, 126, 127, 128, 129, 41, 42, 43, 44, 45, 16, 64] (by decide +kernel) (by decide +kernel) w h).1
set_option maxRecDepth 20000 in
theorem inr_3 : ∀ w ∈ wsL_law_r3, w ∈ lw_tbl := fun w h => (goodIn_r (big := lw_tbl) wsL_law_r3 [46, 47, 48, 49, 50, 51, 17, 52, 53, 54, 63, 55, 74, 75, 76, 77, 100, 79, 80, 19, 101, 78, 82, 83] (by decide +kernel) (by decide +kernel) w h).1
set_option maxRecDepth 20000 in
theorem inr_4 : ∀ w ∈ wsL_law_r4, w ∈ lw_tbl := fun w h => (goodIn_r (big := lw_tbl) wsL_law_r4 [84, 85, 87, 86, 113, 114, 115, 116, 118, 117, 153, 154, 155, 156, 158, 171, 172, 173, 199, 174, 275, 276, 12, 277] (by decide +kernel) (by decide +kernel) w h).1
set_option maxRecDepth 20000 in
theorem inr_5 : ∀ w ∈ wsL_law_r5, w ∈ lw_tbl := fun w h => (goodIn_r (big := lw_tbl) wsL_law_r5 [278, 279, 280, 281, 282, 283, 210, 211, 212, 213, 214, 215, 216, 217, 218, 219, 220, 221, 222, 223, 224, 225, 226, 227] (by decide +kernel) (by decide +kernel) w h).1
set_option maxRecDepth 20000 in
theorem inr_6 : ∀ w ∈ wsL_law_r6, w ∈ lw_tbl := fun w h => (goodIn_r (big := lw_tbl) wsL_law_r6 [228, 229, 230, 231, 232, 88, 233, 234, 235, 236, 89, 237, 238, 239, 240, 90, 241, 242, 243, 244, 102, 245, 246, 247] (by decide +kernel) (by decide +kernel) w h).1
set_option maxRecDepth 20000 in
theorem inr_7 : ∀ w ∈ wsL_law_r7, w ∈ lw_tbl := fun w h => (goodIn_r (big := lw_tbl) wsL_law_r7 [248, 249, 250, 251, 252, 160, 253, 254, 255, 256, 175, 257, 258, 259, 260, 130, 274, 261, 262, 263, 264, 265, 267, 0] (by decide +kernel) (by decide +kernel) w h).1
set_option maxRecDepth 20000 in
theorem inr_8 : ∀ w ∈ wsL_law_r8, w ∈ lw_tbl := fun w h => (goodIn_r (big := lw_tbl) wsL_law_r8 [268, 269, 270, 271, 272, 273, 65, 284, 285, 286, 287, 288, 289, 290, 291, 292, 293, 294, 295, 296, 301, 297, 298, 299] (by decide +kernel) (by decide +kernel) w h).1
set_option maxRecDepth 20000 in
theorem inr_9 : ∀ w ∈ wsL_law_r9, w ∈ lw_tbl := fun w h => (goodIn_r (big := lw_tbl) wsL_law_r9 [300, 302, 303, 304, 305, 306, 307, 308, 309, 311, 310, 312, 313, 314, 315, 316, 317, 318, 319, 320, 321, 322, 323, 325] (by decide +kernel) (by decide +kernel) w h).1
set_option maxRecDepth 20000 in
theorem inr_10 : ∀ w ∈ wsL_law_r10, w ∈ lw_tbl := fun w h => (goodIn_r (big := lw_tbl) wsL_law_r10 [324, 326, 327, 328, 329, 330, 331, 332, 333, 338, 334, 336, 1, 337, 339, 340, 341, 342, 364, 343, 344, 345, 346, 348] (by decide +kernel) (by decide +kernel) w h).1
set_option maxRecDepth 20000 in
theorem inr_11 : ∀ w ∈ wsL_law_r11, w ∈ lw_tbl := fun w h => (goodIn_r (big := lw_tbl) wsL_law_r11 [349, 350, 351, 352, 353, 354, 355, 356, 358, 2, 359, 360, 362, 3, 363, 365, 366, 367, 368, 369, 370, 371, 372, 373] (by decide +kernel) (by decide +kernel) w h).1

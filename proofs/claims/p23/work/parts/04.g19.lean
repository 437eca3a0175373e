set_option maxRecDepth 20000 in
theorem g_areEvents_1 : GoodIn wsL_law (.code yL_areEvents cL_areEvents 6 (some .boolean) :: wsL_areEvents_r1) := goodIn_r _ [487, 484, 203, 204, 205, 2, 206, 179, 12, 106, 107, 108, 207, 208, 209, 11, 210, 35, 211, 212, 213, 34, 214, 80, 215] (by decide +kernel) (by decide +kernel)
set_option maxRecDepth 20000 in
theorem g_areEvents_2 : GoodIn wsL_law wsL_areEvents_r2 := goodIn_r _ [216, 142, 143, 46, 144, 56, 57, 59, 175, 176, 177, 178, 180, 181, 182, 183, 27, 184, 185, 186, 26, 187, 47, 188] (by decide +kernel) (by decide +kernel)
set_option maxRecDepth 20000 in
theorem g_areEvents_3 : GoodIn wsL_law wsL_areEvents_r3 := goodIn_r _ [189, 190, 191, 192, 169, 102, 103, 104, 105, 16, 20, 109, 110, 111, 112, 36, 37, 38, 113, 114, 115, 116, 31, 117] (by decide +kernel) (by decide +kernel)
set_option maxRecDepth 20000 in
theorem g_areEvents_4 : GoodIn wsL_law wsL_areEvents_r4 := goodIn_r _ [118, 119, 30, 120, 68, 121, 122, 123, 67, 124, 125, 126, 127, 128, 129, 130, 131, 132, 133, 134, 135, 136, 137, 138] (by decide +kernel) (by decide +kernel)
set_option maxRecDepth 20000 in
theorem g_areEvents_5 : GoodIn wsL_law wsL_areEvents_r5 := goodIn_r _ [139, 140, 64, 141, 145, 146, 147, 15, 148, 149, 150, 151, 152, 19, 153, 154, 155, 156, 157, 158, 39, 40, 159, 160] (by decide +kernel) (by decide +kernel)
set_option maxRecDepth 20000 in
theorem g_areEvents_6 : GoodIn wsL_law wsL_areEvents_r6 := goodIn_r _ [161, 162, 163, 164, 165, 166, 167, 168, 170, 171, 172, 173, 174] (by decide +kernel) (by decide +kernel)
set_option maxRecDepth 20000 in
theorem g_areEvents_x8 : GoodIn wsL_law wsX80 := goodIn_r _ [496, 497, 498] (by decide +kernel) (by decide +kernel)
set_option maxRecDepth 20000 in
theorem g_areEvents_x1 : GoodIn wsL_law wsX10 := goodIn_r _ [499, 500, 501, 502, 503, 504, 505, 506, 507] (by decide +kernel) (by decide +kernel)
set_option maxRecDepth 20000 in
theorem g_areEvents_x0 : GoodIn wsL_law wsX00 := goodIn_r _ [527] (by decide +kernel) (by decide +kernel)
set_option maxRecDepth 20000 in
theorem g_areEvents_x5 : GoodIn wsL_law wsX50 := goodIn_r _ [528, 529, 530] (by decide +kernel) (by decide +kernel)
set_option maxRecDepth 20000 in
theorem g_areEvents_x2 : GoodIn wsL_law wsX20 := goodIn_r _ [522, 523] (by decide +kernel) (by decide +kernel)
set_option maxRecDepth 20000 in
theorem g_areEvents_x4 : GoodIn wsL_law wsX40 := goodIn_r _ [524, 525, 526] (by decide +kernel) (by decide +kernel)
set_option maxRecDepth 20000 in
theorem g_areEvents_x7 : GoodIn wsL_law wsX70 := goodIn_r _ [531, 532, 533, 534] (by decide +kernel) (by decide +kernel)
set_option maxRecDepth 20000 in
theorem g_areEvents_x3 : GoodIn wsL_law wsX30 := goodIn_r _ [508, 509, 510] (by decide +kernel) (by decide +kernel)
set_option maxRecDepth 20000 in
theorem g_areEvents_x6 : GoodIn wsL_law wsX60 := goodIn_r _ [511, 512, 513, 514, 515, 516, 517, 518, 519, 520, 521] (by decide +kernel) (by decide +kernel)
theorem ggL_law_L_areEvents : GoodIn wsL_law wsL_areEvents := goodIn_ca (goodIn_ca (goodIn_ca (goodIn_ca (goodIn_ca (goodIn_ca (goodIn_ca (goodIn_ca (goodIn_ca (goodIn_ca g_areEvents_1 (goodIn_app g_areEvents_2 (goodIn_app g_areEvents_3 (goodIn_app g_areEvents_4 (goodIn_app g_areEvents_5 (g_areEvents_6)))))) g_areEvents_x8) g_areEvents_x1) g_areEvents_x0) g_areEvents_x5) g_areEvents_x2) g_areEvents_x4) g_areEvents_x7) g_areEvents_x3) g_areEvents_x6
set_option maxRecDepth 20000 in
theorem gL_law_L_areEvents : GoodIn wsL_law (va_wsS RL 96 yL_areEvents wsL_areEvents) := goodIn_app (goodIn_of _ (by decide +kernel)) ggL_law_L_areEvents
set_option maxRecDepth 20000 in
theorem g_isJudged_1 : GoodIn wsL_law (.code yL_isJudged cL_isJudged 7 (some .boolean) :: wsL_isJudged_r1) := goodIn_r _ [490, 484, 175, 176, 177, 2, 178, 179, 12, 106, 107, 108, 180, 181, 182, 11, 183, 27, 184, 185, 186, 26, 187, 47, 188] (by decide +kernel) (by decide +kernel)
set_option maxRecDepth 20000 in
theorem g_isJudged_2 : GoodIn wsL_law wsL_isJudged_r2 := goodIn_r _ [189, 190, 191, 192, 169, 142, 143, 46, 144, 56, 57, 59, 284, 285, 94, 286, 287, 491, 492, 493, 494, 495, 397, 398] (by decide +kernel) (by decide +kernel)
set_option maxRecDepth 20000 in
theorem g_isJudged_3 : GoodIn wsL_law wsL_isJudged_r3 := goodIn_r _ [399, 35, 351, 352, 353, 354, 36, 355, 240, 241, 242, 31, 39, 243, 244, 245, 30, 246, 64, 247, 248, 249, 250, 140] (by decide +kernel) (by decide +kernel)
set_option maxRecDepth 20000 in
theorem g_isJudged_4 : GoodIn wsL_law wsL_isJudged_r4 := goodIn_r _ [141, 251, 252, 253, 254, 400, 401, 402, 403, 404, 405, 406, 407, 408, 409, 410, 411, 165, 166, 167, 168, 412, 413, 414] (by decide +kernel) (by decide +kernel)
set_option maxRecDepth 20000 in
theorem g_isJudged_5 : GoodIn wsL_law wsL_isJudged_r5 := goodIn_r _ [34, 415, 416, 417, 418, 419, 420, 421, 422, 423, 80, 216, 380, 381, 382, 383, 16, 384, 385, 386, 297, 298, 299, 15] (by decide +kernel) (by decide +kernel)
set_option maxRecDepth 20000 in
theorem g_isJudged_6 : GoodIn wsL_law wsL_isJudged_r6 := goodIn_r _ [300, 149, 301, 86, 85, 10, 21, 22, 23, 7, 8, 24, 25, 28, 29, 32, 33, 37, 38, 40, 41, 42, 43, 44] (by decide +kernel) (by decide +kernel)
set_option maxRecDepth 20000 in
theorem g_isJudged_7 : GoodIn wsL_law wsL_isJudged_r7 := goodIn_r _ [45, 48, 49, 50, 51, 52, 53, 54, 55, 58, 60, 61, 62, 63, 65, 66, 67, 68, 69, 70, 71, 72, 73, 74] (by decide +kernel) (by decide +kernel)
set_option maxRecDepth 20000 in
theorem g_isJudged_8 : GoodIn wsL_law wsL_isJudged_r8 := goodIn_r _ [75, 76, 77, 78, 79, 81, 302, 303, 304, 305, 159, 306, 307, 308, 309, 174, 310, 311, 312, 313, 314, 315, 316, 317] (by decide +kernel) (by decide +kernel)
set_option maxRecDepth 20000 in
theorem g_isJudged_9 : GoodIn wsL_law wsL_isJudged_r9 := goodIn_r _ [318, 319, 320, 321, 322, 323, 324, 325, 326, 125, 130, 135, 327, 328, 329, 330, 331, 332, 387, 388, 389, 390, 391, 392] (by decide +kernel) (by decide +kernel)
set_option maxRecDepth 20000 in
theorem g_isJudged_10 : GoodIn wsL_law wsL_isJudged_r10 := goodIn_r _ [393, 394, 395, 396, 424, 425, 426, 427, 428, 365, 366, 367, 429, 430, 431, 432, 433, 434, 435, 436, 437, 438, 439, 440] (by decide +kernel) (by decide +kernel)
set_option maxRecDepth 20000 in
theorem g_isJudged_11 : GoodIn wsL_law wsL_isJudged_r11 := goodIn_r _ [441, 442, 443, 444, 445, 226, 227, 228, 229, 446, 447, 448, 449, 450, 364, 360, 361, 362, 363, 274, 275, 276, 277, 368] (by decide +kernel) (by decide +kernel)
set_option maxRecDepth 20000 in
theorem g_isJudged_12 : GoodIn wsL_law wsL_isJudged_r12 := goodIn_r _ [369, 370, 371, 372, 373, 374, 375, 376, 451, 452, 453, 454, 455, 456, 457, 458, 350, 459, 460, 461, 462, 463, 464, 465] (by decide +kernel) (by decide +kernel)
set_option maxRecDepth 20000 in
theorem g_isJudged_13 : GoodIn wsL_law wsL_isJudged_r13 := goodIn_r _ [466, 473, 474, 475, 476, 292, 145, 146, 147, 148, 477, 478, 479, 480] (by decide +kernel) (by decide +kernel)
set_option maxRecDepth 20000 in
theorem g_isJudged_x8 : GoodIn wsL_law wsX80 := goodIn_r _ [496, 497, 498] (by decide +kernel) (by decide +kernel)
set_option maxRecDepth 20000 in
theorem g_isJudged_x1 : GoodIn wsL_law wsX10 := goodIn_r _ [499, 500, 501, 502, 503, 504, 505, 506, 507] (by decide +kernel) (by decide +kernel)
set_option maxRecDepth 20000 in
theorem g_isJudged_x2 : GoodIn wsL_law wsX20 := goodIn_r _ [522, 523] (by decide +kernel) (by decide +kernel)
set_option maxRecDepth 20000 in
theorem g_isJudged_x5 : GoodIn wsL_law wsX50 := goodIn_r _ [528, 529, 530] (by decide +kernel) (by decide +kernel)
set_option maxRecDepth 20000 in
theorem g_isJudged_x4 : GoodIn wsL_law wsX40 := goodIn_r _ [524, 525, 526] (by decide +kernel) (by decide +kernel)
set_option maxRecDepth 20000 in
theorem g_isJudged_x0 : GoodIn wsL_law wsX00 := goodIn_r _ [527] (by decide +kernel) (by decide +kernel)
set_option maxRecDepth 20000 in
theorem g_isJudged_x3 : GoodIn wsL_law wsX30 := goodIn_r _ [508, 509, 510] (by decide +kernel) (by decide +kernel)
set_option maxRecDepth 20000 in
theorem g_isJudged_x7 : GoodIn wsL_law wsX70 := goodIn_r _ [531, 532, 533, 534] (by decide +kernel) (by decide +kernel)
theorem ggL_law_L_isJudged : GoodIn wsL_law wsL_isJudged := goodIn_ca (goodIn_ca (goodIn_ca (goodIn_ca (goodIn_ca (goodIn_ca (goodIn_ca (goodIn_ca (goodIn_ca g_isJudged_1 (goodIn_app g_isJudged_2 (goodIn_app g_isJudged_3 (goodIn_app g_isJudged_4 (goodIn_app g_isJudged_5 (goodIn_app g_isJudged_6 (goodIn_app g_isJudged_7 (goodIn_app g_isJudged_8 (goodIn_app g_isJudged_9 (goodIn_app g_isJudged_10 (goodIn_app g_isJudged_11 (goodIn_app g_isJudged_12 (g_isJudged_13))))))))))))) g_isJudged_x8) g_isJudged_x1) g_isJudged_x2) g_isJudged_x5) g_isJudged_x4) g_isJudged_x0) g_isJudged_x3) g_isJudged_x7
set_option maxRecDepth 20000 in
theorem gL_law_L_isJudged : GoodIn wsL_law (va_wsS RL 99 yL_isJudged wsL_isJudged) := goodIn_app (goodIn_of _ (by decide +kernel)) ggL_law_L_isJudged

set_option maxRecDepth 20000 in
theorem g_isUndone_1 : GoodIn wsL_law (.code yL_isUndone cL_isUndone 10 (some .boolean) :: wsL_isUndone_r1) := goodIn_r _ [472, 97, 98, 94, 99, 100, 101, 102, 103, 104, 2, 105, 12, 16, 20, 106, 107, 108, 109, 110, 111, 11, 112, 36, 37] (by decide +kernel) (by decide +kernel)
set_option maxRecDepth 20000 in
theorem g_isUndone_2 : GoodIn wsL_law wsL_isUndone_r2 := goodIn_r _ [38, 113, 114, 115, 116, 31, 117, 118, 119, 30, 120, 68, 121, 122, 123, 67, 124, 125, 126, 127, 128, 129, 130, 131] (by decide +kernel) (by decide +kernel)
set_option maxRecDepth 20000 in
theorem g_isUndone_3 : GoodIn wsL_law wsL_isUndone_r3 := goodIn_r _ [132, 133, 134, 135, 136, 137, 138, 139, 140, 64, 141, 142, 143, 46, 144, 56, 57, 59, 145, 146, 147, 15, 148, 149] (by decide +kernel) (by decide +kernel)
set_option maxRecDepth 20000 in
theorem g_isUndone_4 : GoodIn wsL_law wsL_isUndone_r4 := goodIn_r _ [150, 151, 152, 19, 153, 154, 155, 156, 157, 158, 27, 39, 40, 159, 160, 161, 162, 163, 26, 164, 165, 166, 167, 168] (by decide +kernel) (by decide +kernel)
set_option maxRecDepth 20000 in
theorem g_isUndone_5 : GoodIn wsL_law wsL_isUndone_r5 := goodIn_r _ [47, 169, 170, 171, 172, 173, 174, 175, 176, 177, 178, 179, 180, 181, 182, 183, 184, 185, 186, 187, 188, 189, 190, 191] (by decide +kernel) (by decide +kernel)
set_option maxRecDepth 20000 in
theorem g_isUndone_6 : GoodIn wsL_law wsL_isUndone_r6 := goodIn_r _ [192, 193, 194, 195, 196, 197, 198, 199, 200, 74, 201, 202, 203, 204, 205, 206, 207, 208, 209, 210, 35, 211, 212, 213] (by decide +kernel) (by decide +kernel)
set_option maxRecDepth 20000 in
theorem g_isUndone_7 : GoodIn wsL_law wsL_isUndone_r7 := goodIn_r _ [34, 214, 80, 215, 216, 217, 218, 219, 220, 221, 222, 223, 224, 225, 226, 227, 228, 229, 230, 231, 232, 233, 234, 235] (by decide +kernel) (by decide +kernel)
set_option maxRecDepth 20000 in
theorem g_isUndone_8 : GoodIn wsL_law wsL_isUndone_r8 := goodIn_r _ [236, 237, 238, 239, 240, 241, 242, 243, 244, 245, 246, 247, 248, 249, 250, 251, 252, 253, 254, 255, 256, 257, 258, 259] (by decide +kernel) (by decide +kernel)
set_option maxRecDepth 20000 in
theorem g_isUndone_9 : GoodIn wsL_law wsL_isUndone_r9 := goodIn_r _ [260, 261, 262, 263, 264, 265, 266, 267, 268, 269, 270, 271, 272, 273, 274, 275, 276, 277, 473, 474, 475, 476, 292, 477] (by decide +kernel) (by decide +kernel)
set_option maxRecDepth 20000 in
theorem g_isUndone_10 : GoodIn wsL_law wsL_isUndone_r10 := goodIn_r _ [478, 479, 480, 301, 86, 302, 303, 304, 305, 306, 307, 308, 309, 310, 311, 312, 313, 314, 315, 316, 317, 318, 319, 320] (by decide +kernel) (by decide +kernel)
set_option maxRecDepth 20000 in
theorem g_isUndone_11 : GoodIn wsL_law wsL_isUndone_r11 := goodIn_r _ [321, 322, 323, 324, 325, 326, 327, 328, 329, 330, 331, 332, 281, 282, 283, 284, 285, 286, 287, 288, 289, 290, 291, 293] (by decide +kernel) (by decide +kernel)
set_option maxRecDepth 20000 in
theorem g_isUndone_12 : GoodIn wsL_law wsL_isUndone_r12 := goodIn_r _ [294, 295, 296, 297, 298, 299, 300, 85, 10, 21, 22, 23, 7, 8, 24, 25, 28, 29, 32, 33, 41, 42, 43, 44] (by decide +kernel) (by decide +kernel)
set_option maxRecDepth 20000 in
theorem g_isUndone_13 : GoodIn wsL_law wsL_isUndone_r13 := goodIn_r _ [45, 48, 49, 50, 51, 52, 53, 54, 55, 58, 60, 61, 62, 63, 65, 66, 69, 70, 71, 72, 73, 75, 76, 77] (by decide +kernel) (by decide +kernel)
set_option maxRecDepth 20000 in
theorem g_isUndone_14 : GoodIn wsL_law wsL_isUndone_r14 := goodIn_r _ [78, 79, 81, 333, 334, 335, 336, 337, 338, 339, 340, 341, 342, 343, 344, 345, 346, 347, 348, 349, 350, 351, 352, 353] (by decide +kernel) (by decide +kernel)
set_option maxRecDepth 20000 in
theorem g_isUndone_15 : GoodIn wsL_law wsL_isUndone_r15 := goodIn_r _ [354, 355, 356, 357, 358, 359, 360, 361, 362, 363, 364, 365, 366, 367, 368, 369, 370, 371, 372, 373, 374, 375, 376, 377] (by decide +kernel) (by decide +kernel)
set_option maxRecDepth 20000 in
theorem g_isUndone_16 : GoodIn wsL_law wsL_isUndone_r16 := goodIn_r _ [378, 379, 380, 381, 382, 383, 384, 385, 386, 387, 388, 389, 390, 391, 392, 393, 394, 395, 396, 397, 398, 399, 400, 401] (by decide +kernel) (by decide +kernel)
set_option maxRecDepth 20000 in
theorem g_isUndone_17 : GoodIn wsL_law wsL_isUndone_r17 := goodIn_r _ [402, 403, 404, 405, 406, 407, 408, 409, 410, 411, 412, 413, 414, 415, 416, 417, 418, 419, 420, 421, 422, 423, 424, 425] (by decide +kernel) (by decide +kernel)
set_option maxRecDepth 20000 in
theorem g_isUndone_18 : GoodIn wsL_law wsL_isUndone_r18 := goodIn_r _ [426, 427, 428, 429, 430, 431, 432, 433, 434, 435, 436, 437, 438, 439, 440, 441, 442, 443, 444, 445, 446, 447, 448, 449] (by decide +kernel) (by decide +kernel)
set_option maxRecDepth 20000 in
theorem g_isUndone_19 : GoodIn wsL_law wsL_isUndone_r19 := goodIn_r _ [450, 451, 452, 453, 454, 455, 456, 457, 458, 459, 460, 461, 462, 463, 464, 465, 466, 467, 468, 469] (by decide +kernel) (by decide +kernel)
set_option maxRecDepth 20000 in
theorem g_isUndone_x8 : GoodIn wsL_law wsX80 := goodIn_r _ [496, 497, 498] (by decide +kernel) (by decide +kernel)
set_option maxRecDepth 20000 in
theorem g_isUndone_x1 : GoodIn wsL_law wsX10 := goodIn_r _ [499, 500, 501, 502, 503, 504, 505, 506, 507] (by decide +kernel) (by decide +kernel)
set_option maxRecDepth 20000 in
theorem g_isUndone_x4 : GoodIn wsL_law wsX40 := goodIn_r _ [524, 525, 526] (by decide +kernel) (by decide +kernel)
set_option maxRecDepth 20000 in
theorem g_isUndone_x7 : GoodIn wsL_law wsX70 := goodIn_r _ [531, 532, 533, 534] (by decide +kernel) (by decide +kernel)
set_option maxRecDepth 20000 in
theorem g_isUndone_x5 : GoodIn wsL_law wsX50 := goodIn_r _ [528, 529, 530] (by decide +kernel) (by decide +kernel)
set_option maxRecDepth 20000 in
theorem g_isUndone_x3 : GoodIn wsL_law wsX30 := goodIn_r _ [508, 509, 510] (by decide +kernel) (by decide +kernel)
set_option maxRecDepth 20000 in
theorem g_isUndone_x6 : GoodIn wsL_law wsX60 := goodIn_r _ [511, 512, 513, 514, 515, 516, 517, 518, 519, 520, 521] (by decide +kernel) (by decide +kernel)
set_option maxRecDepth 20000 in
theorem g_isUndone_x2 : GoodIn wsL_law wsX20 := goodIn_r _ [522, 523] (by decide +kernel) (by decide +kernel)
set_option maxRecDepth 20000 in
theorem g_isUndone_x0 : GoodIn wsL_law wsX00 := goodIn_r _ [527] (by decide +kernel) (by decide +kernel)
theorem ggL_law_L_isUndone : GoodIn wsL_law wsL_isUndone := goodIn_ca (goodIn_ca (goodIn_ca (goodIn_ca (goodIn_ca (goodIn_ca (goodIn_ca (goodIn_ca (goodIn_ca (goodIn_ca g_isUndone_1 (goodIn_app g_isUndone_2 (goodIn_app g_isUndone_3 (goodIn_app g_isUndone_4 (goodIn_app g_isUndone_5 (goodIn_app g_isUndone_6 (goodIn_app g_isUndone_7 (goodIn_app g_isUndone_8 (goodIn_app g_isUndone_9 (goodIn_app g_isUndone_10 (goodIn_app g_isUndone_11 (goodIn_app g_isUndone_12 (goodIn_app g_isUndone_13 (goodIn_app g_isUndone_14 (goodIn_app g_isUndone_15 (goodIn_app g_isUndone_16 (goodIn_app g_isUndone_17 (goodIn_app g_isUndone_18 (g_isUndone_19))))))))))))))))))) g_isUndone_x8) g_isUndone_x1) g_isUndone_x4) g_isUndone_x7) g_isUndone_x5) g_isUndone_x3) g_isUndone_x6) g_isUndone_x2) g_isUndone_x0
set_option maxRecDepth 20000 in
theorem gL_law_L_isUndone : GoodIn wsL_law (va_wsS RL 88 yL_isUndone wsL_isUndone) := goodIn_app (goodIn_of _ (by decide +kernel)) ggL_law_L_isUndone
set_option maxRecDepth 20000 in
theorem g_arePanes_1 : GoodIn wsL_law (.code yL_arePanes cL_arePanes 10 (some .boolean) :: wsL_arePanes_r1) := goodIn_r _ [483, 484, 217, 218, 219, 2, 220, 179, 12, 106, 107, 108, 113, 114, 115, 11, 116, 31, 221, 222, 223, 30, 224, 140, 64] (by decide +kernel) (by decide +kernel)
set_option maxRecDepth 20000 in
theorem g_arePanes_2 : GoodIn wsL_law wsL_arePanes_r2 := goodIn_r _ [225, 226, 227, 228, 229, 141, 142, 143, 46, 144, 56, 57, 59, 230, 231, 232, 233, 234, 235, 236, 237, 238, 36, 239] (by decide +kernel) (by decide +kernel)
set_option maxRecDepth 20000 in
theorem g_arePanes_3 : GoodIn wsL_law wsL_arePanes_r3 := goodIn_r _ [240, 241, 242, 39, 243, 244, 245, 246, 247, 248, 249, 250, 251, 252, 253, 254, 255, 266, 267, 268, 269, 270, 271, 272] (by decide +kernel) (by decide +kernel)
set_option maxRecDepth 20000 in
theorem g_arePanes_4 : GoodIn wsL_law wsL_arePanes_r4 := goodIn_r _ [273, 274, 275, 276, 277, 102, 103, 104, 105, 16, 20, 109, 110, 111, 112, 37, 38, 117, 118, 119, 120, 68, 121, 122] (by decide +kernel) (by decide +kernel)
set_option maxRecDepth 20000 in
theorem g_arePanes_5 : GoodIn wsL_law wsL_arePanes_r5 := goodIn_r _ [123, 67, 124, 125, 126, 127, 128, 129, 130, 131, 132, 133, 134, 135, 136, 137, 138, 139, 145, 146, 147, 15, 148, 149] (by decide +kernel) (by decide +kernel)
set_option maxRecDepth 20000 in
theorem g_arePanes_6 : GoodIn wsL_law wsL_arePanes_r6 := goodIn_r _ [150, 151, 152, 19, 153, 154, 155, 156, 157, 158, 27, 40, 159, 160, 161, 162, 163, 26, 164, 165, 166, 167, 168, 47] (by decide +kernel) (by decide +kernel)
set_option maxRecDepth 20000 in
theorem g_arePanes_7 : GoodIn wsL_law wsL_arePanes_r7 := goodIn_r _ [169, 170, 171, 172, 173, 174] (by decide +kernel) (by decide +kernel)
set_option maxRecDepth 20000 in
theorem g_arePanes_x8 : GoodIn wsL_law wsX80 := goodIn_r _ [496, 497, 498] (by decide +kernel) (by decide +kernel)
set_option maxRecDepth 20000 in
theorem g_arePanes_x1 : GoodIn wsL_law wsX10 := goodIn_r _ [499, 500, 501, 502, 503, 504, 505, 506, 507] (by decide +kernel) (by decide +kernel)
set_option maxRecDepth 20000 in
theorem g_arePanes_x4 : GoodIn wsL_law wsX40 := goodIn_r _ [524, 525, 526] (by decide +kernel) (by decide +kernel)
set_option maxRecDepth 20000 in
theorem g_arePanes_x5 : GoodIn wsL_law wsX50 := goodIn_r _ [528, 529, 530] (by decide +kernel) (by decide +kernel)
set_option maxRecDepth 20000 in
theorem g_arePanes_x7 : GoodIn wsL_law wsX70 := goodIn_r _ [531, 532, 533, 534] (by decide +kernel) (by decide +kernel)
set_option maxRecDepth 20000 in
theorem g_arePanes_x3 : GoodIn wsL_law wsX30 := goodIn_r _ [508, 509, 510] (by decide +kernel) (by decide +kernel)
set_option maxRecDepth 20000 in
theorem g_arePanes_x6 : GoodIn wsL_law wsX60 := goodIn_r _ [511, 512, 513, 514, 515, 516, 517, 518, 519, 520, 521] (by decide +kernel) (by decide +kernel)
set_option maxRecDepth 20000 in
theorem g_arePanes_x2 : GoodIn wsL_law wsX20 := goodIn_r _ [522, 523] (by decide +kernel) (by decide +kernel)
theorem ggL_law_L_arePanes : GoodIn wsL_law wsL_arePanes := goodIn_ca (goodIn_ca (goodIn_ca (goodIn_ca (goodIn_ca (goodIn_ca (goodIn_ca (goodIn_ca (goodIn_ca g_arePanes_1 (goodIn_app g_arePanes_2 (goodIn_app g_arePanes_3 (goodIn_app g_arePanes_4 (goodIn_app g_arePanes_5 (goodIn_app g_arePanes_6 (g_arePanes_7))))))) g_arePanes_x8) g_arePanes_x1) g_arePanes_x4) g_arePanes_x5) g_arePanes_x7) g_arePanes_x3) g_arePanes_x6) g_arePanes_x2
set_option maxRecDepth 20000 in
theorem gL_law_L_arePanes : GoodIn wsL_law (va_wsS RL 92 yL_arePanes wsL_arePanes) := goodIn_app (goodIn_of _ (by decide +kernel)) ggL_law_L_arePanes

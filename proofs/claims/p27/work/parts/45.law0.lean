/-! the law: the words of its calls, each by its place in the tables -/
set_option maxRecDepth 20000 in
theorem lwi_1 : GoodIn lw_tbl wsL_law_r1 := goodIn_r _ [21, 22, 9, 23, 24, 25, 26, 27, 28, 29, 30, 10, 230, 138, 139, 14, 231, 173, 174, 15, 232, 194, 36, 11] (by decide +kernel) (by decide +kernel)
set_option maxRecDepth 20000 in
theorem lwi_2 : GoodIn lw_tbl wsL_law_r2 := goodIn_r _ [233, 196, 197, 16, 234, 214, 215, 17, 235, 236, 31, 32, 33, 34, 35, 113, 115, 118, 54, 120, 56, 57, 12, 124] (by decide +kernel) (by decide +kernel)
set_option maxRecDepth 20000 in
theorem lwi_3 : GoodIn lw_tbl wsL_law_r3 := goodIn_r _ [86, 13, 37, 38, 39, 40, 53, 41, 59, 60, 61, 82, 83, 84, 85, 42, 88, 89, 90, 93, 91, 96, 100, 102] (by decide +kernel) (by decide +kernel)
set_option maxRecDepth 20000 in
theorem lwi_4 : GoodIn lw_tbl wsL_law_r4 := goodIn_r _ [92, 141, 142, 143, 144, 146, 148, 156, 157, 145, 176, 177, 178, 195, 199, 200, 201, 202, 204, 203, 217, 218, 219, 220] (by decide +kernel) (by decide +kernel)
set_option maxRecDepth 20000 in
theorem lwi_5 : GoodIn lw_tbl wsL_law_r5 := goodIn_r _ [222, 252, 253, 254, 255, 117, 47, 123, 114, 151, 153, 224, 256, 257, 258, 259, 122, 260, 261, 262, 263, 67, 264, 265] (by decide +kernel) (by decide +kernel)
set_option maxRecDepth 20000 in
theorem lwi_6 : GoodIn lw_tbl wsL_law_r6 := goodIn_r _ [266, 267, 268, 269, 270, 271, 272, 273, 274, 275, 276, 277, 278, 279, 62, 65, 68, 71, 44, 280, 281, 282, 283, 285] (by decide +kernel) (by decide +kernel)
set_option maxRecDepth 20000 in
theorem lwi_7 : GoodIn lw_tbl wsL_law_r7 := goodIn_r _ [286, 287, 288, 289, 290, 64, 291, 292, 293, 294, 46, 295, 296, 297, 298, 299, 300, 301, 302, 303, 304, 121, 69, 116] (by decide +kernel) (by decide +kernel)
set_option maxRecDepth 20000 in
theorem lwi_8 : GoodIn lw_tbl wsL_law_r8 := goodIn_r _ [45, 305, 307, 0, 308, 150, 152, 154, 309, 310, 311, 312, 313, 314, 315, 316, 317, 319, 1, 320, 329, 330, 18, 331] (by decide +kernel) (by decide +kernel)
set_option maxRecDepth 20000 in
theorem lwi_9 : GoodIn lw_tbl wsL_law_r9 := goodIn_r _ [321, 322, 323, 324, 325, 326, 327, 328, 399, 400, 8, 401, 402, 403, 404, 405, 406, 407, 408, 409, 410, 411, 412, 413] (by decide +kernel) (by decide +kernel)
set_option maxRecDepth 20000 in
theorem lwi_10 : GoodIn lw_tbl wsL_law_r10 := goodIn_r _ [414, 415, 416, 417, 223, 418, 419, 420, 421, 422, 423, 424, 425, 426, 427, 428, 429, 430, 432, 431, 19, 433, 434, 435] (by decide +kernel) (by decide +kernel)
set_option maxRecDepth 20000 in
theorem lwi_11 : GoodIn lw_tbl wsL_law_r11 := goodIn_r _ [436, 437, 438, 439, 440, 441, 442, 443, 444, 445, 446, 447, 448, 449, 450, 452, 2, 453, 454, 455, 456, 457, 458, 459] (by decide +kernel) (by decide +kernel)
set_option maxRecDepth 20000 in
theorem lwi_12 : GoodIn lw_tbl wsL_law_r12 := goodIn_r _ [460, 461, 462, 463, 464, 465, 466, 468, 3, 469, 470, 471, 472, 473, 474, 475, 357, 20, 358, 359, 360, 361, 476, 477] (by decide +kernel) (by decide +kernel)
set_option maxRecDepth 20000 in
theorem lwi_13 : GoodIn lw_tbl wsL_law_r13 := goodIn_r _ [478, 479, 480, 481, 482, 483, 484, 485, 486, 487, 488, 490, 4, 491, 492, 494, 5, 495, 496, 497, 498, 499, 500, 501] (by decide +kernel) (by decide +kernel)
set_option maxRecDepth 20000 in
theorem lwi_14 : GoodIn lw_tbl wsL_law_r14 := goodIn_r _ [502, 503, 504, 505, 507, 6, 508, 509, 510, 511, 512, 513, 514, 515, 516, 517, 375, 518, 519, 520, 521, 522, 523, 524] (by decide +kernel) (by decide +kernel)
set_option maxRecDepth 20000 in
theorem lwi_15 : GoodIn lw_tbl wsL_law_r15 := goodIn_r _ [525, 526, 527, 528, 529, 530, 531, 532, 533, 534, 535, 536, 537, 538, 539, 540, 541, 352, 353, 354, 95, 542, 544, 7] (by decide +kernel) (by decide +kernel)
set_option maxRecDepth 20000 in
theorem lwi_16 : GoodIn lw_tbl wsL_law_r16 := goodIn_r _ [545, 546, 547, 548, 549, 550, 551, 552, 553, 554, 555, 556, 557, 558, 559, 560, 561, 562, 563, 564, 565, 566, 567, 568] (by decide +kernel) (by decide +kernel)
set_option maxRecDepth 20000 in
theorem lwi_17 : GoodIn lw_tbl wsL_law_r17 := goodIn_r _ [569, 570, 571, 572, 573, 574, 575, 185, 180, 99, 576, 368, 369, 370, 179, 182, 184, 97, 43, 101, 103, 371, 372, 373] (by decide +kernel) (by decide +kernel)
set_option maxRecDepth 20000 in
theorem lwi_18 : GoodIn lw_tbl wsL_law_r18 := goodIn_r _ [374, 332, 333, 334, 335, 336, 337, 338, 70, 72, 98, 66, 63, 94, 339, 340, 341, 342, 343, 344, 345, 346, 347, 348] (by decide +kernel) (by decide +kernel)
set_option maxRecDepth 20000 in
theorem lwi_19 : GoodIn lw_tbl wsL_law_r19 := goodIn_r _ [349, 350, 351, 356, 362, 363, 364, 365, 366, 186, 181, 183, 367, 376, 377, 378, 379, 119, 380, 381, 382, 383, 147, 149] (by decide +kernel) (by decide +kernel)
set_option maxRecDepth 20000 in
theorem lwi_20 : GoodIn lw_tbl wsL_law_r20 := goodIn_r _ [384, 385, 386, 387, 388, 389, 390, 391, 392, 393, 394, 395, 396, 397, 398, 155] (by decide +kernel) (by decide +kernel)
set_option maxRecDepth 20000 in
theorem lwi_X8 : GoodIn lw_tbl wsX80 := goodIn_r _ [237, 239, 241, 243, 245, 247, 249] (by decide +kernel) (by decide +kernel)
set_option maxRecDepth 20000 in
theorem lwi_X4 : GoodIn lw_tbl wsX40 := goodIn_r _ [125, 127, 129, 131, 133, 135] (by decide +kernel) (by decide +kernel)
set_option maxRecDepth 20000 in
theorem lwi_X1 : GoodIn lw_tbl wsX10 := goodIn_r _ [158, 160, 162, 164, 166, 168, 170] (by decide +kernel) (by decide +kernel)
set_option maxRecDepth 20000 in
theorem lwi_X7 : GoodIn lw_tbl wsX70 := goodIn_r _ [187, 189, 191] (by decide +kernel) (by decide +kernel)
set_option maxRecDepth 20000 in
theorem lwi_X6 : GoodIn lw_tbl wsX60 := goodIn_r _ [48, 50] (by decide +kernel) (by decide +kernel)
set_option maxRecDepth 20000 in
theorem lwi_X3 : GoodIn lw_tbl wsX30 := goodIn_r _ [205, 207, 209, 211] (by decide +kernel) (by decide +kernel)
set_option maxRecDepth 20000 in
theorem lwi_X0 : GoodIn lw_tbl wsX00 := goodIn_r _ [225, 227] (by decide +kernel) (by decide +kernel)
set_option maxRecDepth 20000 in
theorem lwi_X5 : GoodIn lw_tbl wsX50 := goodIn_r _ [73, 75, 77, 79] (by decide +kernel) (by decide +kernel)
set_option maxRecDepth 20000 in
theorem lwi_X2 : GoodIn lw_tbl wsX20 := goodIn_r _ [104, 106, 108, 110] (by decide +kernel) (by decide +kernel)
theorem lwi_all : GoodIn lw_tbl wsL_law := (goodIn_app (goodIn_app (goodIn_app (goodIn_app (goodIn_app (goodIn_app (goodIn_app (goodIn_app (goodIn_app (goodIn_app (goodIn_app lwi_1 (goodIn_app lwi_2 (goodIn_app lwi_3 (goodIn_app lwi_4 (goodIn_app lwi_5 (goodIn_app lwi_6 (goodIn_app lwi_7 (goodIn_app lwi_8 (goodIn_app lwi_9 (goodIn_app lwi_10 (goodIn_app lwi_11 (goodIn_app lwi_12 (goodIn_app lwi_13 (goodIn_app lwi_14 (goodIn_app lwi_15 (goodIn_app lwi_16 (goodIn_app lwi_17 (goodIn_app lwi_18 (goodIn_app lwi_19 lwi_20))))))))))))))))))) lwi_X8) lwi_X4) lwi_X1) lwi_X7) lwi_X6) lwi_X3) lwi_X0) lwi_X5) lwi_X2) (fun w h => by cases h))
theorem wsL_law_in : ∀ w ∈ wsL_law, w ∈ lw_tbl := fun w h => (lwi_all w h).1
theorem inX0 : ∀ w ∈ wsX00, w ∈ lw_tbl := fun w h => (lwi_X0 w h).1
theorem inX1 : ∀ w ∈ wsX10, w ∈ lw_tbl := fun w h => (lwi_X1 w h).1
theorem inX2 : ∀ w ∈ wsX20, w ∈ lw_tbl := fun w h => (lwi_X2 w h).1
theorem inX3 : ∀ w ∈ wsX30, w ∈ lw_tbl := fun w h => (lwi_X3 w h).1
theorem inX4 : ∀ w ∈ wsX40, w ∈ lw_tbl := fun w h => (lwi_X4 w h).1
theorem inX5 : ∀ w ∈ wsX50, w ∈ lw_tbl := fun w h => (lwi_X5 w h).1
theorem inX6 : ∀ w ∈ wsX60, w ∈ lw_tbl := fun w h => (lwi_X6 w h).1
theorem inX7 : ∀ w ∈ wsX70, w ∈ lw_tbl := fun w h => (lwi_X7 w h).1
theorem inX8 : ∀ w ∈ wsX80, w ∈ lw_tbl := fun w h => (lwi_X8 w h).1
-- X9

/-! the law: the words of its calls, each by its place in the tables -/
set_option maxRecDepth 20000 in
theorem lwi_1 : GoodIn lw_tbl wsL_law_r1 := goodIn_r _ [21, 22, 9, 23, 24, 25, 26, 27, 28, 29, 30, 10, 230, 138, 139, 14, 231, 173, 174, 15, 232, 194, 36, 11] (by decide +kernel) (by decide +kernel)
set_option maxRecDepth 20000 in
theorem lwi_2 : GoodIn lw_tbl wsL_law_r2 := goodIn_r _ [233, 196, 197, 16, 234, 214, 215, 17, 235, 236, 31, 32, 33, 34, 35, 113, 115, 118, 54, 120, 56, 57, 12, 124] (by decide +kernel) (by decide +kernel)
set_option maxRecDepth 20000 in
theorem lwi_3 : GoodIn lw_tbl wsL_law_r3 := goodIn_r _ [86, 13, 37, 38, 39, 40, 53, 41, 59, 60, 61, 82, 83, 84, 85, 42, 88, 89, 90, 93, 91, 96, 100, 102] (by decide +kernel) (by decide +kernel)
set_option maxRecDepth 20000 in
theorem lwi_4 : GoodIn lw_tbl wsL_law_r4 := goodIn_r _ [92, 141, 142, 143, 144, 146, 148, 156, 157, 145, 176, 177, 178, 195, 199, 200, 201, 202, 204, 203, 217, 218, 219, 220] (by decide +kernel) (by decide +kernel)
set_option maxRecDepth 20000 in
theorem lwi_5 : GoodIn lw_tbl wsL_law_r5 := goodIn_r _ [222, 252, 253, 254, 255, 117, 47, 123, 114, 151, 153, 224, 256, 257, 258, 259, 122, 260, 261, 262, 263, 67, 264, 265] (by decide +kernel) (by decide +kernel)
set_option maxRecDepth 20000 in
theorem lwi_6 : GoodIn lw_tbl wsL_law_r6 := goodIn_r _ [266, 267, 268, 269, 270, 271, 272, 273, 274, 275, 276, 277, 278, 279, 62, 65, 68, 71, 44, 280, 281, 282, 283, 285] (by decide +kernel) (by decide +kernel)
set_option maxRecDepth 20000 in
theorem lwi_7 : GoodIn lw_tbl wsL_law_r7 := goodIn_r _ [286, 287, 288, 289, 290, 64, 291, 292, 293, 294, 46, 295, 296, 297, 298, 299, 300, 301, 302, 303, 304, 121, 69, 116] (by decide +kernel) (by decide +kernel)
set_option maxRecDepth 20000 in
theorem lwi_8 : GoodIn lw_tbl wsL_law_r8 := goodIn_r _ [45, 305, 307, 0, 308, 150, 152, 154, 309, 310, 311, 312, 313, 314, 315, 316, 317, 319, 1, 320, 329, 330, 18, 331] (by decide +kernel) (by decide +kernel)

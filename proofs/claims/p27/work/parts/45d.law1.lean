set_option maxRecDepth 20000 in
theorem ggL_law_X8_init : GoodIn wsL_law wsX8_init := goodIn_r _ [5, 6, 7, 8, 9, 10, 11, 12, 13, 14, 15, 16, 17, 18, 19, 20, 21, 22, 23, 24, 25, 26, 27, 28, 29, 30, 31, 32, 33, 34, 35, 36, 37, 38, 39, 40, 41, 42, 43, 44, 45, 46, 47, 48, 49, 50, 51, 52, 53, 54, 55, 56, 57, 58, 59, 60, 61, 62, 63, 64, 65, 66, 67, 68, 69, 70, 71, 72, 73, 74, 75, 76, 77, 78, 79, 80, 81, 82, 83, 84, 85, 86, 87, 88, 89, 90, 91, 92, 93, 94, 95, 96, 479, 480, 481, 482, 483, 484, 472, 473, 474, 475, 476, 477, 478, 485, 486, 487, 488, 489, 490, 491, 492, 493, 494, 495, 496, 497, 498, 499, 500, 501, 502, 503, 504, 505, 506, 507, 508, 509, 510] (by decide +kernel) (by decide +kernel)
set_option maxRecDepth 20000 in
theorem gL_law_X8_init : GoodIn wsL_law (wsX8_init) := ggL_law_X8_init
set_option maxRecDepth 20000 in
theorem ggL_law_X8_count : GoodIn wsL_law wsX8_count := goodIn_r _ [100, 12, 101, 102, 103, 16, 104, 105, 106, 24, 32, 107, 108, 109, 110, 11, 111, 112, 113, 114, 115, 116, 117, 118, 119, 120, 121, 43, 122, 123, 124, 49, 125, 67, 126, 127, 128, 129, 47, 41, 130, 131, 132, 46, 133, 134, 135, 136, 137, 138, 139, 140, 141, 23, 142, 63, 55, 143, 2, 144, 145, 146, 147, 148, 149, 150, 151, 152, 153, 40, 154, 155, 156, 157, 158, 39, 159, 160, 161, 162, 163, 15, 164, 165, 79, 166, 77, 78, 167, 168, 169, 170, 171, 172, 80, 173, 174, 175, 176, 177, 178, 179, 180, 60, 61, 62, 181, 182, 183, 184, 185, 186, 187, 188, 189, 190, 191, 192, 193, 194, 195, 196, 197, 198, 199, 472, 473, 474, 475, 476, 477, 478, 479, 480, 481, 482, 483, 484, 495, 496, 485, 486, 487, 488, 489, 490, 491, 501, 502, 503, 504, 505, 506, 507, 508, 509, 510] (by decide +kernel) (by decide +kernel)
set_option maxRecDepth 20000 in
theorem gL_law_X8_count : GoodIn wsL_law (wsV RL 9 RX8 yX8_count wsX8_count) := goodIn_app (goodIn_of _ (by decide +kernel)) ggL_law_X8_count
set_option maxRecDepth 20000 in
theorem ggL_law_L_act_r1 : GoodIn wsL_law wsL_act_r1 := goodIn_r _ [204, 205, 202, 206, 207, 97, 98, 99, 2, 100, 12, 101, 102, 103, 16, 104, 105, 106, 24, 32, 107, 108, 109, 110] (by decide +kernel) (by decide +kernel)
set_option maxRecDepth 20000 in
theorem ggL_law_L_act_r2 : GoodIn wsL_law wsL_act_r2 := goodIn_r _ [11, 111, 112, 113, 114, 115, 116, 117, 118, 119, 120, 121, 43, 122, 123, 124, 49, 125, 67, 126, 127, 128, 129, 47] (by decide +kernel) (by decide +kernel)
set_option maxRecDepth 20000 in
theorem ggL_law_L_act_r3 : GoodIn wsL_law wsL_act_r3 := goodIn_r _ [41, 130, 131, 132, 46, 133, 134, 135, 136, 137, 138, 139, 140, 141, 23, 142, 63, 55, 143, 144, 145, 146, 147, 148] (by decide +kernel) (by decide +kernel)
set_option maxRecDepth 20000 in
theorem ggL_law_L_act_r4 : GoodIn wsL_law wsL_act_r4 := goodIn_r _ [149, 150, 151, 152, 153, 40, 154, 155, 156, 157, 158, 39, 159, 160, 161, 162, 163, 15, 164, 165, 79, 166, 77, 78] (by decide +kernel) (by decide +kernel)
set_option maxRecDepth 20000 in
theorem ggL_law_L_act_r5 : GoodIn wsL_law wsL_act_r5 := goodIn_r _ [167, 168, 169, 170, 171, 172, 80, 173, 174, 175, 176, 177, 178, 179, 180, 60, 61, 62, 181, 182, 183, 184, 185, 186] (by decide +kernel) (by decide +kernel)
set_option maxRecDepth 20000 in
theorem ggL_law_L_act_r6 : GoodIn wsL_law wsL_act_r6 := goodIn_r _ [187, 188, 189, 190, 191, 192, 193, 194, 195, 196, 197, 198, 199, 208, 209, 210, 211, 212, 213, 214, 215, 216, 217, 218] (by decide +kernel) (by decide +kernel)
set_option maxRecDepth 20000 in
theorem ggL_law_L_act_r7 : GoodIn wsL_law wsL_act_r7 := goodIn_r _ [31, 219, 220, 96, 95, 10, 221, 35, 36, 37, 7, 8, 38, 22, 42, 44, 45, 48, 50, 51, 52, 53, 54, 56] (by decide +kernel) (by decide +kernel)
set_option maxRecDepth 20000 in
theorem ggL_law_L_act_r8 : GoodIn wsL_law wsL_act_r8 := goodIn_r _ [57, 58, 59, 64, 65, 66, 68, 69, 70, 71, 72, 222, 223, 224, 225, 226, 227, 228, 229, 230, 231, 232, 233, 234] (by decide +kernel) (by decide +kernel)
set_option maxRecDepth 20000 in
theorem ggL_law_L_act_r9 : GoodIn wsL_law wsL_act_r9 := goodIn_r _ [235, 236, 237, 238, 239, 240, 241, 242, 243, 244, 245, 246, 247, 248, 249, 250, 251, 252, 253, 254, 255, 256, 257, 258] (by decide +kernel) (by decide +kernel)
set_option maxRecDepth 20000 in
theorem ggL_law_L_act_r10 : GoodIn wsL_law wsL_act_r10 := goodIn_r _ [259, 260, 261, 262, 263, 264, 265, 266, 267, 268, 269, 270, 271, 272, 273, 274, 275, 276, 277, 278, 279, 280, 281, 282] (by decide +kernel) (by decide +kernel)
set_option maxRecDepth 20000 in
theorem ggL_law_L_act_r11 : GoodIn wsL_law wsL_act_r11 := goodIn_r _ [283, 284, 285, 286, 287, 288, 289, 290, 291, 292, 293, 294, 295, 296, 297, 298, 299, 300, 301, 302, 303, 304, 305, 306] (by decide +kernel) (by decide +kernel)
set_option maxRecDepth 20000 in
theorem ggL_law_L_act_r12 : GoodIn wsL_law wsL_act_r12 := goodIn_r _ [307, 308, 309, 310, 311, 312, 313, 314, 315, 316, 317, 318, 319, 320, 321, 322, 323, 324, 325, 326, 327, 328, 329, 330] (by decide +kernel) (by decide +kernel)
set_option maxRecDepth 20000 in
theorem ggL_law_L_act_r13 : GoodIn wsL_law wsL_act_r13 := goodIn_r _ [331, 332, 333, 334, 335, 336, 337, 338, 339, 340, 341, 342, 343, 344, 345, 346, 347, 348, 349, 350, 351, 352, 353, 354] (by decide +kernel) (by decide +kernel)
set_option maxRecDepth 20000 in
theorem ggL_law_L_act_r14 : GoodIn wsL_law wsL_act_r14 := goodIn_r _ [355, 356, 357, 358, 359, 360, 361, 362, 363, 364, 365, 366, 367, 368, 369, 370, 371, 372, 373, 374, 375, 376, 377, 378] (by decide +kernel) (by decide +kernel)
set_option maxRecDepth 20000 in
theorem ggL_law_L_act_r15 : GoodIn wsL_law wsL_act_r15 := goodIn_r _ [379, 380, 381, 382, 383, 384, 385, 386, 20, 387, 388, 389, 390, 391, 392, 393, 394, 395, 396, 19, 397, 398, 399, 400] (by decide +kernel) (by decide +kernel)
set_option maxRecDepth 20000 in
theorem ggL_law_L_act_r16 : GoodIn wsL_law wsL_act_r16 := goodIn_r _ [401, 402, 403, 404, 405, 406, 407, 408] (by decide +kernel) (by decide +kernel)
set_option maxRecDepth 20000 in
theorem ggL_law_L_act_X8 : GoodIn wsL_law wsX80 := goodIn_r _ [472, 473, 474, 475, 476, 477, 478] (by decide +kernel) (by decide +kernel)
set_option maxRecDepth 20000 in
theorem ggL_law_L_act_X4 : GoodIn wsL_law wsX40 := goodIn_r _ [479, 480, 481, 482, 483, 484] (by decide +kernel) (by decide +kernel)
set_option maxRecDepth 20000 in
theorem ggL_law_L_act_X6 : GoodIn wsL_law wsX60 := goodIn_r _ [495, 496] (by decide +kernel) (by decide +kernel)
set_option maxRecDepth 20000 in
theorem ggL_law_L_act_X1 : GoodIn wsL_law wsX10 := goodIn_r _ [485, 486, 487, 488, 489, 490, 491] (by decide +kernel) (by decide +kernel)
set_option maxRecDepth 20000 in
theorem ggL_law_L_act_X0 : GoodIn wsL_law wsX00 := goodIn_r _ [501, 502] (by decide +kernel) (by decide +kernel)
set_option maxRecDepth 20000 in
theorem ggL_law_L_act_X5 : GoodIn wsL_law wsX50 := goodIn_r _ [503, 504, 505, 506] (by decide +kernel) (by decide +kernel)
set_option maxRecDepth 20000 in
theorem ggL_law_L_act_X2 : GoodIn wsL_law wsX20 := goodIn_r _ [507, 508, 509, 510] (by decide +kernel) (by decide +kernel)
set_option maxRecDepth 20000 in
theorem ggL_law_L_act_X7 : GoodIn wsL_law wsX70 := goodIn_r _ [492, 493, 494] (by decide +kernel) (by decide +kernel)
set_option maxRecDepth 20000 in
theorem ggL_law_L_act_h : GoodIn wsL_law [.code yL_act cL_act 8 (some .int)] := goodIn_r _ [203] rfl (by decide +kernel)
theorem ggL_law_L_act : GoodIn wsL_law wsL_act := goodIn_app ggL_law_L_act_h (goodIn_app (goodIn_app (goodIn_app (goodIn_app (goodIn_app (goodIn_app (goodIn_app (goodIn_app (goodIn_app ggL_law_L_act_r1 (goodIn_app ggL_law_L_act_r2 (goodIn_app ggL_law_L_act_r3 (goodIn_app ggL_law_L_act_r4 (goodIn_app ggL_law_L_act_r5 (goodIn_app ggL_law_L_act_r6 (goodIn_app ggL_law_L_act_r7 (goodIn_app ggL_law_L_act_r8 (goodIn_app ggL_law_L_act_r9 (goodIn_app ggL_law_L_act_r10 (goodIn_app ggL_law_L_act_r11 (goodIn_app ggL_law_L_act_r12 (goodIn_app ggL_law_L_act_r13 (goodIn_app ggL_law_L_act_r14 (goodIn_app ggL_law_L_act_r15 ggL_law_L_act_r16))))))))))))))) ggL_law_L_act_X8) ggL_law_L_act_X4) ggL_law_L_act_X6) ggL_law_L_act_X1) ggL_law_L_act_X0) ggL_law_L_act_X5) ggL_law_L_act_X2) ggL_law_L_act_X7)
set_option maxRecDepth 20000 in
theorem gL_law_L_act : GoodIn wsL_law (va_wsS RL 76 yL_act wsL_act) := goodIn_app (goodIn_of _ (by decide +kernel)) ggL_law_L_act
set_option maxRecDepth 20000 in
theorem ggL_law_L_notes_r1 : GoodIn wsL_law wsL_notes_r1 := goodIn_r _ [97, 98, 99, 2, 100, 12, 101, 102, 103, 16, 104, 105, 106, 24, 32, 107, 108, 109, 110, 11, 111, 112, 113, 114] (by decide +kernel) (by decide +kernel)
set_option maxRecDepth 20000 in
theorem ggL_law_L_notes_r2 : GoodIn wsL_law wsL_notes_r2 := goodIn_r _ [115, 116, 117, 118, 119, 120, 121, 43, 122, 123, 124, 49, 125, 67, 126, 127, 128, 129, 47, 41, 130, 131, 132, 46] (by decide +kernel) (by decide +kernel)
set_option maxRecDepth 20000 in
theorem ggL_law_L_notes_r3 : GoodIn wsL_law wsL_notes_r3 := goodIn_r _ [133, 134, 135, 136, 137, 138, 139, 140, 141, 23, 142, 63, 55, 143, 144, 145, 146, 147, 148, 149, 150, 151, 152, 153] (by decide +kernel) (by decide +kernel)
set_option maxRecDepth 20000 in
theorem ggL_law_L_notes_r4 : GoodIn wsL_law wsL_notes_r4 := goodIn_r _ [40, 154, 155, 156, 157, 158, 39, 159, 160, 161, 162, 163, 15, 164, 165, 79, 166, 77, 78, 167, 168, 169, 170, 171] (by decide +kernel) (by decide +kernel)
set_option maxRecDepth 20000 in
theorem ggL_law_L_notes_r5 : GoodIn wsL_law wsL_notes_r5 := goodIn_r _ [172, 80, 173, 174, 175, 176, 177, 178, 179, 180, 60, 61, 62, 181, 182, 183, 184, 185, 186, 187, 188, 189, 190, 191] (by decide +kernel) (by decide +kernel)
set_option maxRecDepth 20000 in
theorem ggL_law_L_notes_r6 : GoodIn wsL_law wsL_notes_r6 := goodIn_r _ [192, 193, 194, 195, 196, 197, 198, 199, 412, 413, 414, 415, 416, 417, 418, 419, 420, 421, 422, 423, 424, 425, 426, 427] (by decide +kernel) (by decide +kernel)
set_option maxRecDepth 20000 in
theorem ggL_law_L_notes_r7 : GoodIn wsL_law wsL_notes_r7 := goodIn_r _ [356, 428, 429, 430, 431, 432, 433, 434, 353, 354, 355, 435, 280, 281, 282, 283, 284, 285, 436, 437, 438, 439, 440, 20] (by decide +kernel) (by decide +kernel)
set_option maxRecDepth 20000 in
theorem ggL_law_L_notes_r8 : GoodIn wsL_law wsL_notes_r8 := goodIn_r _ [441, 442, 443, 444, 395, 396, 19, 397, 398, 399, 400, 401, 402, 403, 404, 405, 406, 407, 408, 328, 445, 446, 447, 448] (by decide +kernel) (by decide +kernel)
set_option maxRecDepth 20000 in
theorem ggL_law_L_notes_r9 : GoodIn wsL_law wsL_notes_r9 := goodIn_r _ [449, 450, 451, 452, 453, 454, 455, 456, 457, 458, 459, 460, 461, 462, 463] (by decide +kernel) (by decide +kernel)
set_option maxRecDepth 20000 in
theorem ggL_law_L_notes_X8 : GoodIn wsL_law wsX80 := goodIn_r _ [472, 473, 474, 475, 476, 477, 478] (by decide +kernel) (by decide +kernel)
set_option maxRecDepth 20000 in
theorem ggL_law_L_notes_X4 : GoodIn wsL_law wsX40 := goodIn_r _ [479, 480, 481, 482, 483, 484] (by decide +kernel) (by decide +kernel)
set_option maxRecDepth 20000 in
theorem ggL_law_L_notes_X6 : GoodIn wsL_law wsX60 := goodIn_r _ [495, 496] (by decide +kernel) (by decide +kernel)
set_option maxRecDepth 20000 in
theorem ggL_law_L_notes_X1 : GoodIn wsL_law wsX10 := goodIn_r _ [485, 486, 487, 488, 489, 490, 491] (by decide +kernel) (by decide +kernel)
set_option maxRecDepth 20000 in
theorem ggL_law_L_notes_X0 : GoodIn wsL_law wsX00 := goodIn_r _ [501, 502] (by decide +kernel) (by decide +kernel)
set_option maxRecDepth 20000 in
theorem ggL_law_L_notes_X5 : GoodIn wsL_law wsX50 := goodIn_r _ [503, 504, 505, 506] (by decide +kernel) (by decide +kernel)
set_option maxRecDepth 20000 in
theorem ggL_law_L_notes_X2 : GoodIn wsL_law wsX20 := goodIn_r _ [507, 508, 509, 510] (by decide +kernel) (by decide +kernel)
set_option maxRecDepth 20000 in
theorem ggL_law_L_notes_X7 : GoodIn wsL_law wsX70 := goodIn_r _ [492, 493, 494] (by decide +kernel) (by decide +kernel)
set_option maxRecDepth 20000 in
theorem ggL_law_L_notes_h : GoodIn wsL_law [.code yL_notes cL_notes 11 (some .boolean)] := goodIn_r _ [411] rfl (by decide +kernel)
theorem ggL_law_L_notes : GoodIn wsL_law wsL_notes := goodIn_app ggL_law_L_notes_h (goodIn_app (goodIn_app (goodIn_app (goodIn_app (goodIn_app (goodIn_app (goodIn_app (goodIn_app (goodIn_app ggL_law_L_notes_r1 (goodIn_app ggL_law_L_notes_r2 (goodIn_app ggL_law_L_notes_r3 (goodIn_app ggL_law_L_notes_r4 (goodIn_app ggL_law_L_notes_r5 (goodIn_app ggL_law_L_notes_r6 (goodIn_app ggL_law_L_notes_r7 (goodIn_app ggL_law_L_notes_r8 ggL_law_L_notes_r9)))))))) ggL_law_L_notes_X8) ggL_law_L_notes_X4) ggL_law_L_notes_X6) ggL_law_L_notes_X1) ggL_law_L_notes_X0) ggL_law_L_notes_X5) ggL_law_L_notes_X2) ggL_law_L_notes_X7)
set_option maxRecDepth 20000 in
theorem gL_law_L_notes : GoodIn wsL_law (va_wsS RL 80 yL_notes wsL_notes) := goodIn_app (goodIn_of _ (by decide +kernel)) ggL_law_L_notes
set_option maxRecDepth 20000 in
theorem ggL_law_L_margin_r1 : GoodIn wsL_law wsL_margin_r1 := goodIn_r _ [54, 97, 98, 99, 2, 100, 12, 101, 102, 103, 16, 104, 105, 106, 24, 32, 107, 108, 109, 110, 11, 111, 112, 113] (by decide +kernel) (by decide +kernel)
set_option maxRecDepth 20000 in
theorem ggL_law_L_margin_r2 : GoodIn wsL_law wsL_margin_r2 := goodIn_r _ [114, 115, 116, 117, 118, 119, 120, 121, 43, 122, 123, 124, 49, 125, 67, 126, 127, 128, 129, 47, 41, 130, 131, 132] (by decide +kernel) (by decide +kernel)
set_option maxRecDepth 20000 in
theorem ggL_law_L_margin_r3 : GoodIn wsL_law wsL_margin_r3 := goodIn_r _ [46, 133, 134, 135, 136, 137, 138, 139, 140, 141, 23, 142, 63, 55, 143, 144, 145, 146, 147, 148, 149, 150, 151, 152] (by decide +kernel) (by decide +kernel)
set_option maxRecDepth 20000 in
theorem ggL_law_L_margin_r4 : GoodIn wsL_law wsL_margin_r4 := goodIn_r _ [153, 40, 154, 155, 156, 157, 158, 39, 159, 160, 161, 162, 163, 15, 164, 165, 79, 166, 77, 78, 167, 168, 169, 170] (by decide +kernel) (by decide +kernel)
set_option maxRecDepth 20000 in
theorem ggL_law_L_margin_r5 : GoodIn wsL_law wsL_margin_r5 := goodIn_r _ [171, 172, 80, 173, 174, 175, 176, 177, 178, 179, 180, 60, 61, 62, 181, 182, 183, 184, 185, 186, 187, 188, 189, 190] (by decide +kernel) (by decide +kernel)
set_option maxRecDepth 20000 in
theorem ggL_law_L_margin_r6 : GoodIn wsL_law wsL_margin_r6 := goodIn_r _ [191, 192, 193, 194, 195, 196, 197, 198, 199, 450, 451, 452, 453, 454, 455, 422, 467, 468, 469, 470, 471] (by decide +kernel) (by decide +kernel)
set_option maxRecDepth 20000 in
theorem ggL_law_L_margin_X8 : GoodIn wsL_law wsX80 := goodIn_r _ [472, 473, 474, 475, 476, 477, 478] (by decide +kernel) (by decide +kernel)
set_option maxRecDepth 20000 in
theorem ggL_law_L_margin_X4 : GoodIn wsL_law wsX40 := goodIn_r _ [479, 480, 481, 482, 483, 484] (by decide +kernel) (by decide +kernel)
set_option maxRecDepth 20000 in
theorem ggL_law_L_margin_X6 : GoodIn wsL_law wsX60 := goodIn_r _ [495, 496] (by decide +kernel) (by decide +kernel)
set_option maxRecDepth 20000 in
theorem ggL_law_L_margin_X1 : GoodIn wsL_law wsX10 := goodIn_r _ [485, 486, 487, 488, 489, 490, 491] (by decide +kernel) (by decide +kernel)
set_option maxRecDepth 20000 in
theorem ggL_law_L_margin_X0 : GoodIn wsL_law wsX00 := goodIn_r _ [501, 502] (by decide +kernel) (by decide +kernel)
set_option maxRecDepth 20000 in
theorem ggL_law_L_margin_X5 : GoodIn wsL_law wsX50 := goodIn_r _ [503, 504, 505, 506] (by decide +kernel) (by decide +kernel)
set_option maxRecDepth 20000 in
theorem ggL_law_L_margin_X2 : GoodIn wsL_law wsX20 := goodIn_r _ [507, 508, 509, 510] (by decide +kernel) (by decide +kernel)
set_option maxRecDepth 20000 in
theorem ggL_law_L_margin_h : GoodIn wsL_law [.code yL_margin cL_margin 12 (some .boolean)] := goodIn_r _ [466] rfl (by decide +kernel)
theorem ggL_law_L_margin : GoodIn wsL_law wsL_margin := goodIn_app ggL_law_L_margin_h (goodIn_app (goodIn_app (goodIn_app (goodIn_app (goodIn_app (goodIn_app (goodIn_app (goodIn_app ggL_law_L_margin_r1 (goodIn_app ggL_law_L_margin_r2 (goodIn_app ggL_law_L_margin_r3 (goodIn_app ggL_law_L_margin_r4 (goodIn_app ggL_law_L_margin_r5 ggL_law_L_margin_r6))))) ggL_law_L_margin_X8) ggL_law_L_margin_X4) ggL_law_L_margin_X6) ggL_law_L_margin_X1) ggL_law_L_margin_X0) ggL_law_L_margin_X5) ggL_law_L_margin_X2)
set_option maxRecDepth 20000 in
theorem gL_law_L_margin : GoodIn wsL_law (va_wsS RL 84 yL_margin wsL_margin) := goodIn_app (goodIn_of _ (by decide +kernel)) ggL_law_L_margin

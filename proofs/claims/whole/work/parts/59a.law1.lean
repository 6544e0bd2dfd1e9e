set_option maxRecDepth 20000 in
theorem ggL_law_X8_init : GoodIn wsL_law wsX8_init := goodIn_r _ [9, 10, 11, 12, 13, 14, 15, 16, 17, 18, 19, 20, 21, 22, 23, 24, 25, 26, 27, 28, 29, 30, 31, 32, 33, 34, 35, 36, 37, 38, 39, 40, 41, 42, 43, 44, 45, 46, 47, 48, 49, 50, 51, 52, 53, 54, 55, 56, 57, 58, 59, 60, 61, 62, 63, 64, 65, 66, 67, 68, 69, 70, 71, 72, 73, 74, 75, 76, 77, 78, 79, 80, 81, 82, 83, 84, 85, 86, 87, 88, 89, 90, 91, 92, 93, 94, 95, 96, 97, 98, 99, 100, 900, 901, 902, 903, 904, 905, 876, 877, 878, 879, 880, 881, 882, 906, 907, 908, 909, 910, 911, 912, 913, 914, 915, 916, 917, 918, 919, 920, 921, 922, 923, 924, 925, 926, 927, 928, 929, 930, 931] (by decide +kernel) (by decide +kernel)
set_option maxRecDepth 20000 in
theorem gL_law_X8_init : GoodIn wsL_law (wsX8_init) := ggL_law_X8_init
set_option maxRecDepth 20000 in
theorem ggL_law_X9_init : GoodIn wsL_law wsX9_init := goodIn_r _ [103, 104, 11, 12, 58, 105, 106, 107, 108, 109, 110, 111, 112, 113, 114, 115, 883, 884, 885, 886, 887, 888, 889, 890, 891, 892, 893, 894, 895, 896, 897, 898, 899] (by decide +kernel) (by decide +kernel)
set_option maxRecDepth 20000 in
theorem gL_law_X9_init : GoodIn wsL_law (wsX9_init) := ggL_law_X9_init
set_option maxRecDepth 20000 in
theorem ggL_law_X8_set : GoodIn wsL_law wsX8_set := goodIn_r _ [119, 36, 16, 120, 121, 122, 35, 123, 124, 100, 99, 14, 15, 125, 39, 40, 41, 11, 12, 42, 26, 27, 43, 44, 45, 46, 47, 48, 49, 50, 51, 52, 53, 54, 55, 56, 57, 58, 59, 60, 61, 62, 63, 64, 65, 66, 67, 68, 69, 70, 71, 72, 73, 74, 75, 76, 126, 127, 128, 129, 130, 131, 132, 133, 134, 135, 136, 137, 138, 139, 140, 141, 142, 143, 144, 145, 146, 147, 148, 149, 150, 151, 152, 153, 154, 155, 156, 157, 158, 159, 160, 161, 162, 163, 164, 165, 166, 167, 168, 169, 170, 171, 172, 173, 174, 175, 176, 177, 178, 179, 180, 181, 182, 876, 877, 878, 879, 880, 881, 882, 922, 923, 900, 901, 902, 903, 904, 905, 916, 917, 924, 925, 926, 927, 928, 929, 930, 931] (by decide +kernel) (by decide +kernel)
set_option maxRecDepth 20000 in
theorem gL_law_X8_set : GoodIn wsL_law (wsV RL 13 RX8 yX8_set wsX8_set) := goodIn_app (goodIn_of _ (by decide +kernel)) ggL_law_X8_set
set_option maxRecDepth 20000 in
theorem ggL_law_X9_set : GoodIn wsL_law wsX9_set := goodIn_r _ [186, 105, 187, 188, 5, 189, 190, 191, 192, 193, 194, 195, 196, 197, 106, 198, 199, 200, 883, 884, 885, 886, 887, 888, 889, 890, 891, 892, 893, 894, 895, 896, 897, 898, 899] (by decide +kernel) (by decide +kernel)
set_option maxRecDepth 20000 in
theorem gL_law_X9_set : GoodIn wsL_law (wsV RL 17 RX9 yX9_set wsX9_set) := goodIn_app (goodIn_of _ (by decide +kernel)) ggL_law_X9_set
set_option maxRecDepth 20000 in
theorem ggL_law_X8_write : GoodIn wsL_law wsX8_write := goodIn_r _ [204, 36, 16, 120, 121, 122, 35, 123, 124, 100, 99, 14, 15, 125, 39, 40, 41, 11, 12, 42, 26, 27, 43, 44, 45, 46, 47, 48, 49, 50, 51, 52, 53, 54, 55, 56, 57, 58, 59, 60, 61, 62, 63, 64, 65, 66, 67, 68, 69, 70, 71, 72, 73, 74, 75, 76, 126, 127, 128, 129, 130, 131, 132, 133, 134, 135, 136, 137, 138, 139, 140, 141, 142, 143, 144, 145, 146, 147, 148, 149, 150, 151, 205, 206, 207, 208, 209, 210, 211, 212, 213, 175, 176, 177, 178, 179, 180, 181, 182, 876, 877, 878, 879, 880, 881, 882, 922, 923, 900, 901, 902, 903, 904, 905, 916, 917, 924, 925, 926, 927, 928, 929, 930, 931] (by decide +kernel) (by decide +kernel)
set_option maxRecDepth 20000 in
theorem gL_law_X8_write : GoodIn wsL_law (wsV RL 18 RX8 yX8_write wsX8_write) := goodIn_app (goodIn_of _ (by decide +kernel)) ggL_law_X8_write
set_option maxRecDepth 20000 in
theorem ggL_law_X9_write : GoodIn wsL_law wsX9_write := goodIn_r _ [217, 105, 218, 219, 220, 5, 221, 187, 188, 189, 193, 194, 195, 196, 197, 106, 198, 199, 200, 222, 223, 224, 225, 883, 884, 885, 886, 887, 888, 889, 890, 891, 892, 893, 894, 895, 896, 897, 898, 899] (by decide +kernel) (by decide +kernel)
set_option maxRecDepth 20000 in
theorem gL_law_X9_write : GoodIn wsL_law (wsV RL 21 RX9 yX9_write wsX9_write) := goodIn_app (goodIn_of _ (by decide +kernel)) ggL_law_X9_write
set_option maxRecDepth 20000 in
theorem ggL_law_X8_erase : GoodIn wsL_law wsX8_erase := goodIn_r _ [229, 36, 16, 120, 121, 122, 35, 123, 124, 100, 99, 14, 15, 125, 39, 40, 41, 11, 12, 42, 26, 27, 43, 44, 45, 46, 47, 48, 49, 50, 51, 52, 53, 54, 55, 56, 57, 58, 59, 60, 61, 62, 63, 64, 65, 66, 67, 68, 69, 70, 71, 72, 73, 74, 75, 76, 126, 127, 128, 129, 130, 131, 132, 133, 134, 135, 136, 137, 138, 139, 140, 141, 142, 143, 144, 145, 146, 147, 148, 149, 150, 151, 230, 231, 232, 233, 234, 235, 236, 237, 209, 238, 239, 240, 241, 156, 157, 158, 159, 166, 167, 168, 169, 242, 243, 244, 245, 174, 246, 247, 248, 249, 250, 251, 252, 175, 176, 177, 178, 179, 180, 181, 182, 876, 877, 878, 879, 880, 881, 882, 922, 923, 900, 901, 902, 903, 904, 905, 916, 917, 924, 925, 926, 927, 928, 929, 930, 931] (by decide +kernel) (by decide +kernel)
set_option maxRecDepth 20000 in
theorem gL_law_X8_erase : GoodIn wsL_law (wsV RL 22 RX8 yX8_erase wsX8_erase) := goodIn_app (goodIn_of _ (by decide +kernel)) ggL_law_X8_erase
set_option maxRecDepth 20000 in
theorem ggL_law_X9_erase : GoodIn wsL_law wsX9_erase := goodIn_r _ [256, 257, 258, 259, 5, 260, 261, 262, 263, 264, 105, 187, 188, 189, 193, 194, 195, 196, 197, 106, 198, 199, 200, 265, 266, 267, 268, 269, 270, 271, 272, 273, 274, 275, 276, 277, 278, 279, 280, 281, 282, 283, 284, 285, 286, 287, 288, 289, 290, 291, 292, 293, 294, 295, 296, 883, 884, 885, 886, 887, 888, 889, 890, 891, 892, 893, 894, 895, 896, 897, 898, 899] (by decide +kernel) (by decide +kernel)
set_option maxRecDepth 20000 in
theorem gL_law_X9_erase : GoodIn wsL_law (wsV RL 25 RX9 yX9_erase wsX9_erase) := goodIn_app (goodIn_of _ (by decide +kernel)) ggL_law_X9_erase
set_option maxRecDepth 20000 in
theorem ggL_law_X8_move : GoodIn wsL_law wsX8_move := goodIn_r _ [300, 36, 16, 120, 121, 122, 35, 123, 124, 100, 99, 14, 15, 125, 39, 40, 41, 11, 12, 42, 26, 27, 43, 44, 45, 46, 47, 48, 49, 50, 51, 52, 53, 54, 55, 56, 57, 58, 59, 60, 61, 62, 63, 64, 65, 66, 67, 68, 69, 70, 71, 72, 73, 74, 75, 76, 126, 127, 128, 129, 130, 131, 132, 133, 134, 135, 136, 137, 138, 139, 140, 141, 142, 143, 144, 145, 146, 147, 148, 149, 150, 151, 301, 302, 303, 304, 209, 238, 239, 240, 241, 156, 157, 158, 159, 305, 306, 307, 308, 309, 310, 311, 312, 313, 314, 315, 316, 174, 317, 318, 319, 320, 321, 322, 323, 324, 325, 326, 327, 328, 329, 330, 331, 332, 333, 334, 335, 167, 168, 169, 336, 2, 337, 175, 176, 177, 178, 179, 180, 181, 182, 876, 877, 878, 879, 880, 881, 882, 922, 923, 900, 901, 902, 903, 904, 905, 916, 917, 924, 925, 926, 927, 928, 929, 930, 931] (by decide +kernel) (by decide +kernel)
set_option maxRecDepth 20000 in
theorem gL_law_X8_move : GoodIn wsL_law (wsV RL 26 RX8 yX8_move wsX8_move) := goodIn_app (goodIn_of _ (by decide +kernel)) ggL_law_X8_move
set_option maxRecDepth 20000 in
theorem ggL_law_X9_move : GoodIn wsL_law wsX9_move := goodIn_r _ [341, 342, 343, 344, 5, 345, 105, 257, 258, 259, 260, 261, 262, 263, 264, 187, 188, 189, 193, 194, 195, 196, 197, 106, 198, 199, 200, 346, 347, 348, 349, 115, 293, 294, 295, 296, 222, 223, 224, 225, 350, 351, 352, 353, 354, 355, 356, 357, 358, 359, 360, 289, 290, 291, 292, 883, 884, 885, 886, 887, 888, 889, 890, 891, 892, 893, 894, 895, 896, 897, 898, 899] (by decide +kernel) (by decide +kernel)
set_option maxRecDepth 20000 in
theorem gL_law_X9_move : GoodIn wsL_law (wsV RL 30 RX9 yX9_move wsX9_move) := goodIn_app (goodIn_of _ (by decide +kernel)) ggL_law_X9_move
set_option maxRecDepth 20000 in
theorem ggL_law_X8_note : GoodIn wsL_law wsX8_note := goodIn_r _ [364, 36, 16, 120, 121, 122, 35, 123, 124, 100, 99, 14, 15, 125, 39, 40, 41, 11, 12, 42, 26, 27, 43, 44, 45, 46, 47, 48, 49, 50, 51, 52, 53, 54, 55, 56, 57, 58, 59, 60, 61, 62, 63, 64, 65, 66, 67, 68, 69, 70, 71, 72, 73, 74, 75, 76, 126, 127, 128, 129, 130, 131, 132, 133, 134, 135, 136, 137, 138, 139, 140, 141, 142, 143, 144, 145, 146, 147, 148, 149, 150, 151, 365, 366, 367, 368, 238, 239, 240, 241, 156, 157, 158, 159, 369, 370, 371, 372, 209, 166, 167, 168, 169, 373, 374, 375, 376, 377, 378, 379, 380, 381, 382, 383, 384, 174, 385, 386, 170, 171, 172, 173, 175, 176, 177, 178, 179, 180, 181, 182, 876, 877, 878, 879, 880, 881, 882, 922, 923, 900, 901, 902, 903, 904, 905, 916, 917, 924, 925, 926, 927, 928, 929, 930, 931] (by decide +kernel) (by decide +kernel)
set_option maxRecDepth 20000 in
theorem gL_law_X8_note : GoodIn wsL_law (wsV RL 31 RX8 yX8_note wsX8_note) := goodIn_app (goodIn_of _ (by decide +kernel)) ggL_law_X8_note
set_option maxRecDepth 20000 in
theorem ggL_law_X9_note : GoodIn wsL_law wsX9_note := goodIn_r _ [390, 391, 392, 393, 5, 394, 105, 257, 258, 259, 260, 261, 262, 263, 264, 187, 188, 189, 193, 194, 195, 196, 197, 106, 198, 199, 200, 395, 396, 397, 398, 399, 400, 401, 402, 403, 404, 405, 406, 883, 884, 885, 886, 887, 888, 889, 890, 891, 892, 893, 894, 895, 896, 897, 898, 899] (by decide +kernel) (by decide +kernel)
set_option maxRecDepth 20000 in
theorem gL_law_X9_note : GoodIn wsL_law (wsV RL 34 RX9 yX9_note wsX9_note) := goodIn_app (goodIn_of _ (by decide +kernel)) ggL_law_X9_note
set_option maxRecDepth 20000 in
theorem ggL_law_X8_reply : GoodIn wsL_law wsX8_reply := goodIn_r _ [410, 36, 16, 120, 121, 122, 35, 123, 124, 100, 99, 14, 15, 125, 39, 40, 41, 11, 12, 42, 26, 27, 43, 44, 45, 46, 47, 48, 49, 50, 51, 52, 53, 54, 55, 56, 57, 58, 59, 60, 61, 62, 63, 64, 65, 66, 67, 68, 69, 70, 71, 72, 73, 74, 75, 76, 126, 127, 128, 129, 130, 131, 132, 133, 134, 135, 136, 137, 138, 139, 140, 141, 142, 143, 144, 145, 146, 147, 148, 149, 150, 151, 411, 412, 413, 414, 415, 416, 417, 418, 419, 382, 383, 384, 175, 176, 177, 178, 179, 180, 181, 182, 876, 877, 878, 879, 880, 881, 882, 922, 923, 900, 901, 902, 903, 904, 905, 916, 917, 924, 925, 926, 927, 928, 929, 930, 931] (by decide +kernel) (by decide +kernel)
set_option maxRecDepth 20000 in
theorem gL_law_X8_reply : GoodIn wsL_law (wsV RL 35 RX8 yX8_reply wsX8_reply) := goodIn_app (goodIn_of _ (by decide +kernel)) ggL_law_X8_reply
set_option maxRecDepth 20000 in
theorem ggL_law_X9_reply : GoodIn wsL_law wsX9_reply := goodIn_r _ [423, 424, 425, 426, 5, 427, 105, 428, 429, 430, 431, 187, 188, 189, 193, 194, 195, 196, 197, 106, 198, 199, 200, 432, 433, 434, 435, 883, 884, 885, 886, 887, 888, 889, 890, 891, 892, 893, 894, 895, 896, 897, 898, 899] (by decide +kernel) (by decide +kernel)
set_option maxRecDepth 20000 in
theorem gL_law_X9_reply : GoodIn wsL_law (wsV RL 39 RX9 yX9_reply wsX9_reply) := goodIn_app (goodIn_of _ (by decide +kernel)) ggL_law_X9_reply
set_option maxRecDepth 20000 in
theorem ggL_law_X8_drop : GoodIn wsL_law wsX8_drop := goodIn_r _ [439, 36, 16, 120, 121, 122, 35, 123, 124, 100, 99, 14, 15, 125, 39, 40, 41, 11, 12, 42, 26, 27, 43, 44, 45, 46, 47, 48, 49, 50, 51, 52, 53, 54, 55, 56, 57, 58, 59, 60, 61, 62, 63, 64, 65, 66, 67, 68, 69, 70, 71, 72, 73, 74, 75, 76, 126, 127, 128, 129, 130, 131, 132, 133, 134, 135, 136, 137, 138, 139, 140, 141, 142, 143, 144, 145, 146, 147, 148, 149, 150, 151, 440, 441, 442, 443, 444, 445, 446, 447, 448, 336, 2, 337, 449, 450, 451, 452, 209, 166, 167, 168, 169, 170, 171, 172, 173, 174, 157, 158, 159, 246, 247, 248, 249, 250, 251, 252, 175, 176, 177, 178, 179, 180, 181, 182, 876, 877, 878, 879, 880, 881, 882, 922, 923, 900, 901, 902, 903, 904, 905, 916, 917, 924, 925, 926, 927, 928, 929, 930, 931] (by decide +kernel) (by decide +kernel)
set_option maxRecDepth 20000 in
theorem gL_law_X8_drop : GoodIn wsL_law (wsV RL 40 RX8 yX8_drop wsX8_drop) := goodIn_app (goodIn_of _ (by decide +kernel)) ggL_law_X8_drop
set_option maxRecDepth 20000 in
theorem ggL_law_X9_drop : GoodIn wsL_law wsX9_drop := goodIn_r _ [456, 428, 429, 430, 5, 431, 105, 187, 188, 189, 193, 194, 195, 196, 197, 106, 198, 199, 200, 457, 458, 459, 460, 461, 462, 463, 464, 277, 278, 279, 280, 281, 282, 283, 284, 465, 466, 467, 468, 883, 884, 885, 886, 887, 888, 889, 890, 891, 892, 893, 894, 895, 896, 897, 898, 899] (by decide +kernel) (by decide +kernel)
set_option maxRecDepth 20000 in
theorem gL_law_X9_drop : GoodIn wsL_law (wsV RL 43 RX9 yX9_drop wsX9_drop) := goodIn_app (goodIn_of _ (by decide +kernel)) ggL_law_X9_drop
set_option maxRecDepth 20000 in
theorem ggL_law_X8_reclaim : GoodIn wsL_law wsX8_reclaim := goodIn_r _ [472, 36, 16, 24, 120, 121, 122, 35, 123, 124, 100, 99, 14, 15, 125, 39, 40, 41, 11, 12, 42, 26, 27, 43, 44, 45, 46, 47, 48, 49, 50, 51, 52, 53, 54, 55, 56, 57, 58, 59, 60, 61, 62, 63, 64, 65, 66, 67, 68, 69, 70, 71, 72, 73, 74, 75, 76, 126, 127, 128, 129, 130, 131, 132, 133, 134, 135, 136, 137, 138, 139, 140, 141, 142, 143, 144, 145, 146, 147, 148, 149, 150, 151, 473, 474, 475, 476, 477, 478, 479, 209, 480, 481, 482, 483, 484, 485, 486, 487, 488, 322, 323, 324, 325, 326, 327, 328, 329, 330, 331, 332, 333, 334, 335, 167, 168, 169, 336, 2, 337, 489, 490, 491, 23, 492, 493, 494, 495, 496, 497, 498, 499, 500, 501, 502, 503, 385, 369, 370, 371, 372, 166, 373, 374, 375, 376, 377, 378, 379, 380, 381, 382, 383, 384, 174, 157, 158, 159, 386, 170, 171, 172, 173, 175, 176, 177, 178, 179, 180, 181, 182, 876, 877, 878, 879, 880, 881, 882, 922, 923, 900, 901, 902, 903, 904, 905, 916, 917, 924, 925, 926, 927, 928, 929, 930, 931, 913, 914, 915] (by decide +kernel) (by decide +kernel)
set_option maxRecDepth 20000 in
theorem gL_law_X8_reclaim : GoodIn wsL_law (wsV RL 44 RX8 yX8_reclaim wsX8_reclaim) := goodIn_app (goodIn_of _ (by decide +kernel)) ggL_law_X8_reclaim
set_option maxRecDepth 20000 in
theorem ggL_law_X9_reclaim : GoodIn wsL_law wsX9_reclaim := goodIn_r _ [507, 508, 509, 510, 5, 511, 428, 429, 430, 431, 105, 187, 188, 189, 273, 274, 275, 276, 277, 278, 279, 280, 281, 282, 283, 284, 285, 286, 287, 288, 289, 290, 291, 292, 512, 513, 514, 515, 516, 517, 518, 519, 520, 521, 522, 523, 193, 194, 195, 196, 197, 106, 198, 199, 200, 524, 525, 526, 527, 399, 400, 401, 402, 403, 404, 405, 406, 883, 884, 885, 886, 887, 888, 889, 890, 891, 892, 893, 894, 895, 896, 897, 898, 899] (by decide +kernel) (by decide +kernel)
set_option maxRecDepth 20000 in
theorem gL_law_X9_reclaim : GoodIn wsL_law (wsV RL 47 RX9 yX9_reclaim wsX9_reclaim) := goodIn_app (goodIn_of _ (by decide +kernel)) ggL_law_X9_reclaim
set_option maxRecDepth 20000 in
theorem ggL_law_X8_letter : GoodIn wsL_law wsX8_letter := goodIn_r _ [531, 16, 532, 533, 167, 168, 27, 169, 67, 59, 876, 877, 878, 879, 880, 881, 882, 900, 901, 902, 903, 904, 905, 916, 917] (by decide +kernel) (by decide +kernel)
set_option maxRecDepth 20000 in
theorem gL_law_X8_letter : GoodIn wsL_law (wsV RL 48 RX8 yX8_letter wsX8_letter) := goodIn_app (goodIn_of _ (by decide +kernel)) ggL_law_X8_letter
set_option maxRecDepth 20000 in
theorem ggL_law_X9_letter : GoodIn wsL_law wsX9_letter := goodIn_r _ [537, 105, 261, 262, 263, 5, 264, 187, 188, 189, 883, 884, 885, 886, 887, 888, 889, 890, 891, 892, 893, 894, 895, 896, 897, 898, 899] (by decide +kernel) (by decide +kernel)
set_option maxRecDepth 20000 in
theorem gL_law_X9_letter : GoodIn wsL_law (wsV RL 51 RX9 yX9_letter wsX9_letter) := goodIn_app (goodIn_of _ (by decide +kernel)) ggL_law_X9_letter
set_option maxRecDepth 20000 in
theorem ggL_law_X8_of : GoodIn wsL_law wsX8_of := goodIn_r _ [541, 16, 542, 543, 544, 545, 546, 547, 548, 549, 144, 145, 15, 146, 130, 47, 550, 481, 482, 483, 484, 143, 485, 486, 487, 53, 488, 71, 322, 323, 324, 325, 51, 45, 326, 327, 328, 50, 329, 330, 331, 332, 333, 334, 335, 167, 168, 27, 169, 67, 59, 336, 2, 337, 551, 552, 553, 554, 448, 555, 556, 557, 558, 559, 560, 561, 445, 446, 447, 562, 247, 248, 249, 250, 251, 252, 563, 876, 877, 878, 879, 880, 881, 882, 924, 925, 926, 927, 928, 929, 930, 931, 916, 917, 900, 901, 902, 903, 904, 905] (by decide +kernel) (by decide +kernel)
set_option maxRecDepth 20000 in
theorem gL_law_X8_of : GoodIn wsL_law (wsV RL 52 RX8 yX8_of wsX8_of) := goodIn_app (goodIn_of _ (by decide +kernel)) ggL_law_X8_of
set_option maxRecDepth 20000 in
theorem ggL_law_X9_of : GoodIn wsL_law wsX9_of := goodIn_r _ [567, 428, 429, 430, 5, 431, 105, 187, 188, 189, 568, 569, 570, 571, 359, 360, 354, 277, 278, 279, 280, 281, 282, 283, 284, 273, 274, 275, 276, 285, 286, 287, 288, 289, 290, 291, 292, 572, 573, 574, 575, 355, 356, 357, 358, 576, 577, 578, 579, 461, 462, 463, 464, 883, 884, 885, 886, 887, 888, 889, 890, 891, 892, 893, 894, 895, 896, 897, 898, 899] (by decide +kernel) (by decide +kernel)
set_option maxRecDepth 20000 in
theorem gL_law_X9_of : GoodIn wsL_law (wsV RL 55 RX9 yX9_of wsX9_of) := goodIn_app (goodIn_of _ (by decide +kernel)) ggL_law_X9_of
set_option maxRecDepth 20000 in
theorem ggL_law_X8_word : GoodIn wsL_law wsX8_word := goodIn_r _ [583, 16, 544, 549, 144, 145, 15, 146, 130, 47, 560, 486, 487, 53, 488, 71, 533, 167, 168, 27, 169, 67, 59, 876, 877, 878, 879, 880, 881, 882, 928, 929, 930, 931, 900, 901, 902, 903, 904, 905, 916, 917] (by decide +kernel) (by decide +kernel)
set_option maxRecDepth 20000 in
theorem gL_law_X8_word : GoodIn wsL_law (wsV RL 56 RX8 yX8_word wsX8_word) := goodIn_app (goodIn_of _ (by decide +kernel)) ggL_law_X8_word
set_option maxRecDepth 20000 in
theorem ggL_law_X9_word : GoodIn wsL_law wsX9_word := goodIn_r _ [587, 428, 429, 430, 5, 431, 105, 187, 188, 189, 277, 278, 279, 280, 281, 282, 283, 284, 883, 884, 885, 886, 887, 888, 889, 890, 891, 892, 893, 894, 895, 896, 897, 898, 899] (by decide +kernel) (by decide +kernel)
set_option maxRecDepth 20000 in
theorem gL_law_X9_word : GoodIn wsL_law (wsV RL 59 RX9 yX9_word wsX9_word) := goodIn_app (goodIn_of _ (by decide +kernel)) ggL_law_X9_word
set_option maxRecDepth 20000 in
theorem ggL_law_X8_at : GoodIn wsL_law wsX8_at := goodIn_r _ [591, 16, 592, 533, 167, 168, 27, 169, 67, 59, 876, 877, 878, 879, 880, 881, 882, 900, 901, 902, 903, 904, 905, 916, 917] (by decide +kernel) (by decide +kernel)
set_option maxRecDepth 20000 in
theorem gL_law_X8_at : GoodIn wsL_law (wsV RL 60 RX8 yX8_at wsX8_at) := goodIn_app (goodIn_of _ (by decide +kernel)) ggL_law_X8_at
set_option maxRecDepth 20000 in
theorem ggL_law_X9_at : GoodIn wsL_law wsX9_at := goodIn_r _ [596, 105, 261, 262, 263, 5, 264, 187, 188, 189, 883, 884, 885, 886, 887, 888, 889, 890, 891, 892, 893, 894, 895, 896, 897, 898, 899] (by decide +kernel) (by decide +kernel)
set_option maxRecDepth 20000 in
theorem gL_law_X9_at : GoodIn wsL_law (wsV RL 63 RX9 yX9_at wsX9_at) := goodIn_app (goodIn_of _ (by decide +kernel)) ggL_law_X9_at
set_option maxRecDepth 20000 in
theorem ggL_law_X8_printed : GoodIn wsL_law wsX8_printed := goodIn_r _ [600, 16, 20, 601, 602, 603, 549, 144, 145, 15, 146, 130, 47, 533, 167, 168, 27, 169, 67, 59, 604, 605, 606, 19, 607, 608, 83, 609, 81, 82, 610, 611, 612, 613, 614, 615, 84, 616, 617, 618, 619, 382, 383, 384, 620, 64, 65, 66, 621, 323, 324, 325, 51, 45, 326, 327, 328, 50, 329, 330, 331, 332, 333, 334, 335, 336, 2, 337, 622, 623, 624, 625, 626, 43, 166, 627, 628, 629, 630, 631, 632, 137, 633, 634, 171, 172, 173, 174, 157, 158, 159, 876, 877, 878, 879, 880, 881, 882, 900, 901, 902, 903, 904, 905, 906, 907, 908, 909, 910, 911, 912, 916, 917, 924, 925, 926, 927] (by decide +kernel) (by decide +kernel)
set_option maxRecDepth 20000 in
theorem gL_law_X8_printed : GoodIn wsL_law (wsV RL 64 RX8 yX8_printed wsX8_printed) := goodIn_app (goodIn_of _ (by decide +kernel)) ggL_law_X8_printed
set_option maxRecDepth 20000 in
theorem ggL_law_X9_printed : GoodIn wsL_law wsX9_printed := goodIn_r _ [638, 105, 112, 113, 428, 429, 430, 5, 431, 187, 188, 189, 639, 640, 641, 642, 114, 359, 355, 356, 357, 358, 354, 360, 289, 290, 291, 292, 883, 884, 885, 886, 887, 888, 889, 890, 891, 892, 893, 894, 895, 896, 897, 898, 899] (by decide +kernel) (by decide +kernel)
set_option maxRecDepth 20000 in
theorem gL_law_X9_printed : GoodIn wsL_law (wsV RL 67 RX9 yX9_printed wsX9_printed) := goodIn_app (goodIn_of _ (by decide +kernel)) ggL_law_X9_printed
set_option maxRecDepth 20000 in
theorem ggL_law_X8_count : GoodIn wsL_law wsX8_count := goodIn_r _ [646, 16, 532, 545, 647, 20, 601, 648, 649, 28, 36, 650, 651, 652, 653, 15, 654, 130, 480, 481, 482, 483, 484, 143, 144, 145, 146, 47, 485, 486, 487, 53, 488, 71, 322, 323, 324, 325, 51, 45, 326, 327, 328, 50, 329, 330, 331, 332, 333, 334, 335, 167, 168, 27, 169, 67, 59, 336, 2, 337, 655, 318, 319, 320, 321, 656, 657, 658, 659, 44, 209, 660, 624, 625, 626, 43, 166, 533, 604, 605, 606, 19, 607, 608, 83, 609, 81, 82, 610, 611, 612, 613, 614, 615, 84, 616, 617, 618, 619, 382, 383, 384, 620, 64, 65, 66, 621, 622, 623, 627, 628, 629, 630, 631, 632, 137, 633, 634, 171, 172, 173, 174, 157, 158, 159, 876, 877, 878, 879, 880, 881, 882, 900, 901, 902, 903, 904, 905, 916, 917, 906, 907, 908, 909, 910, 911, 912, 922, 923, 924, 925, 926, 927, 928, 929, 930, 931] (by decide +kernel) (by decide +kernel)
set_option maxRecDepth 20000 in
theorem gL_law_X8_count : GoodIn wsL_law (wsV RL 68 RX8 yX8_count wsX8_count) := goodIn_app (goodIn_of _ (by decide +kernel)) ggL_law_X8_count
set_option maxRecDepth 20000 in
theorem ggL_law_X9_count : GoodIn wsL_law wsX9_count := goodIn_r _ [664, 105, 665, 197, 187, 188, 5, 189, 269, 270, 271, 272, 273, 274, 275, 276, 277, 278, 279, 280, 281, 282, 283, 284, 285, 286, 287, 288, 289, 290, 291, 292, 666, 667, 668, 669, 639, 640, 641, 642, 114, 112, 359, 113, 355, 356, 357, 358, 354, 360, 350, 351, 352, 353, 670, 671, 672, 673, 674, 675, 676, 677, 883, 884, 885, 886, 887, 888, 889, 890, 891, 892, 893, 894, 895, 896, 897, 898, 899] (by decide +kernel) (by decide +kernel)
set_option maxRecDepth 20000 in
theorem gL_law_X9_count : GoodIn wsL_law (wsV RL 71 RX9 yX9_count wsX9_count) := goodIn_app (goodIn_of _ (by decide +kernel)) ggL_law_X9_count
set_option maxRecDepth 20000 in
theorem ggL_law_X8_orphansIf : GoodIn wsL_law wsX8_orphansIf := goodIn_r _ [681, 16, 682, 235, 236, 15, 237, 45, 209, 238, 239, 240, 241, 44, 156, 157, 158, 27, 159, 67, 59, 166, 167, 168, 169, 876, 877, 878, 879, 880, 881, 882, 900, 901, 902, 903, 904, 905, 916, 917] (by decide +kernel) (by decide +kernel)
set_option maxRecDepth 20000 in
theorem gL_law_X8_orphansIf : GoodIn wsL_law (wsV RL 72 RX8 yX8_orphansIf wsX8_orphansIf) := goodIn_app (goodIn_of _ (by decide +kernel)) ggL_law_X8_orphansIf
set_option maxRecDepth 20000 in
theorem ggL_law_X9_orphansIf : GoodIn wsL_law wsX9_orphansIf := goodIn_r _ [686, 105, 257, 258, 259, 5, 260, 261, 262, 263, 264, 187, 188, 189, 883, 884, 885, 886, 887, 888, 889, 890, 891, 892, 893, 894, 895, 896, 897, 898, 899] (by decide +kernel) (by decide +kernel)
set_option maxRecDepth 20000 in
theorem gL_law_X9_orphansIf : GoodIn wsL_law (wsV RL 75 RX9 yX9_orphansIf wsX9_orphansIf) := goodIn_app (goodIn_of _ (by decide +kernel)) ggL_law_X9_orphansIf
set_option maxRecDepth 20000 in
theorem ggL_law_X8_could : GoodIn wsL_law wsX8_could := goodIn_r _ [690, 16, 24, 532, 691, 692, 693, 549, 144, 145, 15, 146, 130, 47, 550, 481, 482, 483, 484, 143, 485, 486, 487, 53, 488, 71, 322, 323, 324, 325, 51, 45, 326, 327, 328, 50, 329, 330, 331, 332, 333, 334, 335, 167, 168, 27, 169, 67, 59, 336, 2, 337, 694, 490, 491, 23, 492, 493, 494, 495, 496, 497, 498, 499, 500, 501, 502, 503, 385, 876, 877, 878, 879, 880, 881, 882, 900, 901, 902, 903, 904, 905, 913, 914, 915, 924, 925, 926, 927, 928, 929, 930, 931, 916, 917] (by decide +kernel) (by decide +kernel)

set_option maxRecDepth 20000 in
theorem gL_law_X8_could : GoodIn wsL_law (wsV RL 76 RX8 yX8_could wsX8_could) := goodIn_app (goodIn_of _ (by decide +kernel)) ggL_law_X8_could
set_option maxRecDepth 20000 in
theorem ggL_law_X9_could : GoodIn wsL_law wsX9_could := goodIn_r _ [698, 428, 429, 430, 5, 431, 105, 187, 188, 189, 273, 274, 275, 276, 277, 278, 279, 280, 281, 282, 283, 284, 285, 286, 287, 288, 289, 290, 291, 292, 512, 513, 514, 515, 516, 517, 518, 519, 520, 521, 522, 523, 883, 884, 885, 886, 887, 888, 889, 890, 891, 892, 893, 894, 895, 896, 897, 898, 899] (by decide +kernel) (by decide +kernel)
set_option maxRecDepth 20000 in
theorem gL_law_X9_could : GoodIn wsL_law (wsV RL 79 RX9 yX9_could wsX9_could) := goodIn_app (goodIn_of _ (by decide +kernel)) ggL_law_X9_could
set_option maxRecDepth 20000 in
theorem ggL_law_X8_leastRoom : GoodIn wsL_law wsX8_leastRoom := goodIn_r _ [702, 20, 16, 703, 604, 605, 606, 19, 607, 608, 83, 609, 81, 82, 610, 611, 612, 613, 614, 615, 84, 616, 617, 618, 619, 382, 383, 27, 384, 67, 620, 64, 65, 66, 59, 621, 323, 324, 15, 325, 51, 45, 326, 327, 328, 50, 329, 330, 331, 332, 333, 334, 335, 167, 168, 169, 336, 2, 337, 622, 623, 624, 625, 626, 43, 166, 627, 628, 629, 630, 631, 632, 137, 633, 634, 171, 172, 173, 174, 157, 158, 159, 876, 877, 878, 879, 880, 881, 882, 906, 907, 908, 909, 910, 911, 912, 900, 901, 902, 903, 904, 905, 924, 925, 926, 927, 916, 917] (by decide +kernel) (by decide +kernel)
set_option maxRecDepth 20000 in
theorem gL_law_X8_leastRoom : GoodIn wsL_law (wsV RL 80 RX8 yX8_leastRoom wsX8_leastRoom) := goodIn_app (goodIn_of _ (by decide +kernel)) ggL_law_X8_leastRoom
set_option maxRecDepth 20000 in
theorem ggL_law_X9_leastRoom : GoodIn wsL_law wsX9_leastRoom := goodIn_r _ [707, 187, 188, 5, 189, 639, 640, 641, 642, 114, 105, 112, 359, 113, 355, 356, 357, 358, 354, 360, 289, 290, 291, 292, 674, 675, 676, 677, 883, 884, 885, 886, 887, 888, 889, 890, 891, 892, 893, 894, 895, 896, 897, 898, 899] (by decide +kernel) (by decide +kernel)
set_option maxRecDepth 20000 in
theorem gL_law_X9_leastRoom : GoodIn wsL_law (wsV RL 83 RX9 yX9_leastRoom wsX9_leastRoom) := goodIn_app (goodIn_of _ (by decide +kernel)) ggL_law_X9_leastRoom
set_option maxRecDepth 20000 in
theorem ggL_law_X8_put : GoodIn wsL_law wsX8_put := goodIn_r _ [711, 28, 545, 712, 713, 714, 2, 715, 716, 64, 65, 27, 66, 67, 59, 876, 877, 878, 879, 880, 881, 882, 916, 917] (by decide +kernel) (by decide +kernel)
set_option maxRecDepth 20000 in
theorem gL_law_X8_put : GoodIn wsL_law (wsV RL 86 RX8 yX8_put wsX8_put) := goodIn_app (goodIn_of _ (by decide +kernel)) ggL_law_X8_put
set_option maxRecDepth 20000 in
theorem ggL_law_X9_put : GoodIn wsL_law wsX9_put := goodIn_r _ [720, 665, 110, 721, 722, 5, 723, 724, 725, 726, 727, 187, 188, 189, 883, 884, 885, 886, 887, 888, 889, 890, 891, 892, 893, 894, 895, 896, 897, 898, 899] (by decide +kernel) (by decide +kernel)
set_option maxRecDepth 20000 in
theorem gL_law_X9_put : GoodIn wsL_law (wsV RL 90 RX9 yX9_put wsX9_put) := goodIn_app (goodIn_of _ (by decide +kernel)) ggL_law_X9_put
set_option maxRecDepth 20000 in
theorem ggL_law_X8_wipe : GoodIn wsL_law wsX8_wipe := goodIn_r _ [731, 28, 545, 732, 382, 383, 27, 384, 67, 876, 877, 878, 879, 880, 881, 882, 916, 917] (by decide +kernel) (by decide +kernel)
set_option maxRecDepth 20000 in
theorem gL_law_X8_wipe : GoodIn wsL_law (wsV RL 91 RX8 yX8_wipe wsX8_wipe) := goodIn_app (goodIn_of _ (by decide +kernel)) ggL_law_X8_wipe
set_option maxRecDepth 20000 in
theorem ggL_law_X9_wipe : GoodIn wsL_law wsX9_wipe := goodIn_r _ [736, 665, 883, 884, 885, 886, 887, 888, 889, 890, 891, 892, 893, 894, 895, 896, 897, 898, 899] (by decide +kernel) (by decide +kernel)
set_option maxRecDepth 20000 in
theorem gL_law_X9_wipe : GoodIn wsL_law (wsV RL 95 RX9 yX9_wipe wsX9_wipe) := goodIn_app (goodIn_of _ (by decide +kernel)) ggL_law_X9_wipe
set_option maxRecDepth 20000 in
theorem ggL_law_X8_fault : GoodIn wsL_law wsX8_fault := goodIn_r _ [740, 32, 28, 741, 742, 743, 31, 744, 745, 746, 747, 748, 749, 750, 751, 752, 753, 754, 755, 94, 756, 167, 168, 27, 169, 67, 59, 757, 382, 383, 384, 758, 759, 760, 761, 762, 763, 764, 765, 64, 65, 66, 766, 767, 768, 769, 770, 771, 772, 773, 774, 775, 776, 777, 876, 877, 878, 879, 880, 881, 882, 918, 919, 920, 921, 916, 917] (by decide +kernel) (by decide +kernel)
set_option maxRecDepth 20000 in
theorem gL_law_X8_fault : GoodIn wsL_law (wsV RL 96 RX8 yX8_fault wsX8_fault) := goodIn_app (goodIn_of _ (by decide +kernel)) ggL_law_X8_fault
set_option maxRecDepth 20000 in
theorem ggL_law_X9_fault : GoodIn wsL_law wsX9_fault := goodIn_r _ [781, 782, 783, 784, 785, 5, 786, 787, 665, 788, 789, 790, 791, 110, 111, 792, 793, 794, 795, 796, 797, 798, 799, 187, 188, 189, 800, 801, 802, 803, 804, 805, 806, 807, 808, 809, 810, 811, 883, 884, 885, 886, 887, 888, 889, 890, 891, 892, 893, 894, 895, 896, 897, 898, 899] (by decide +kernel) (by decide +kernel)
set_option maxRecDepth 20000 in
theorem gL_law_X9_fault : GoodIn wsL_law (wsV RL 99 RX9 yX9_fault wsX9_fault) := goodIn_app (goodIn_of _ (by decide +kernel)) ggL_law_X9_fault
set_option maxRecDepth 20000 in
theorem ggL_law_X8_carryOut_r1 : GoodIn wsL_law wsX8_carryOut_r1 := goodIn_r _ [32, 28, 36, 16, 741, 742, 743, 31, 744, 745, 746, 747, 748, 749, 750, 751, 752, 753, 754, 755, 94, 756, 167, 168] (by decide +kernel) (by decide +kernel)
set_option maxRecDepth 20000 in
theorem ggL_law_X8_carryOut_r2 : GoodIn wsL_law wsX8_carryOut_r2 := goodIn_r _ [27, 169, 67, 59, 757, 382, 383, 384, 758, 759, 760, 761, 762, 763, 764, 765, 64, 65, 66, 766, 767, 768, 769, 770] (by decide +kernel) (by decide +kernel)
set_option maxRecDepth 20000 in
theorem ggL_law_X8_carryOut_r3 : GoodIn wsL_law wsX8_carryOut_r3 := goodIn_r _ [771, 772, 773, 774, 775, 776, 777, 120, 121, 122, 35, 123, 124, 100, 99, 14, 15, 125, 39, 40, 41, 11, 12, 42] (by decide +kernel) (by decide +kernel)
set_option maxRecDepth 20000 in
theorem ggL_law_X8_carryOut_r4 : GoodIn wsL_law wsX8_carryOut_r4 := goodIn_r _ [26, 43, 44, 45, 46, 47, 48, 49, 50, 51, 52, 53, 54, 55, 56, 57, 58, 60, 61, 62, 63, 68, 69, 70] (by decide +kernel) (by decide +kernel)
set_option maxRecDepth 20000 in
theorem ggL_law_X8_carryOut_r5 : GoodIn wsL_law wsX8_carryOut_r5 := goodIn_r _ [71, 72, 73, 74, 75, 76, 126, 127, 128, 129, 130, 131, 132, 133, 134, 135, 136, 137, 138, 139, 140, 141, 142, 143] (by decide +kernel) (by decide +kernel)
set_option maxRecDepth 20000 in
theorem ggL_law_X8_carryOut_r6 : GoodIn wsL_law wsX8_carryOut_r6 := goodIn_r _ [144, 145, 146, 147, 148, 149, 150, 151, 816, 817, 818, 819, 820, 2, 821, 822, 823, 24, 533, 824, 825, 826, 827, 828] (by decide +kernel) (by decide +kernel)
set_option maxRecDepth 20000 in
theorem ggL_law_X8_carryOut_r7 : GoodIn wsL_law wsX8_carryOut_r7 := goodIn_r _ [829, 205, 206, 207, 208, 209, 210, 211, 212, 213, 230, 231, 232, 233, 234, 235, 236, 237, 238, 239, 240, 241, 156, 157] (by decide +kernel) (by decide +kernel)
set_option maxRecDepth 20000 in
theorem ggL_law_X8_carryOut_r8 : GoodIn wsL_law wsX8_carryOut_r8 := goodIn_r _ [158, 159, 166, 242, 243, 244, 245, 174, 246, 247, 248, 249, 250, 251, 252, 301, 302, 303, 304, 305, 306, 307, 308, 309] (by decide +kernel) (by decide +kernel)
set_option maxRecDepth 20000 in
theorem ggL_law_X8_carryOut_r9 : GoodIn wsL_law wsX8_carryOut_r9 := goodIn_r _ [310, 311, 312, 313, 314, 315, 316, 317, 318, 319, 320, 321, 322, 323, 324, 325, 326, 327, 328, 329, 330, 331, 332, 333] (by decide +kernel) (by decide +kernel)
set_option maxRecDepth 20000 in
theorem ggL_law_X8_carryOut_r10 : GoodIn wsL_law wsX8_carryOut_r10 := goodIn_r _ [334, 335, 336, 337, 365, 366, 367, 368, 369, 370, 371, 372, 373, 374, 375, 376, 377, 378, 379, 380, 381, 385, 386, 170] (by decide +kernel) (by decide +kernel)
set_option maxRecDepth 20000 in
theorem ggL_law_X8_carryOut_r11 : GoodIn wsL_law wsX8_carryOut_r11 := goodIn_r _ [171, 172, 173, 411, 412, 413, 414, 415, 416, 417, 418, 419, 440, 441, 442, 443, 444, 445, 446, 447, 448, 449, 450, 451] (by decide +kernel) (by decide +kernel)
set_option maxRecDepth 20000 in
theorem ggL_law_X8_carryOut_r12 : GoodIn wsL_law wsX8_carryOut_r12 := goodIn_r _ [452, 473, 474, 475, 476, 477, 478, 479, 480, 481, 482, 483, 484, 485, 486, 487, 488, 489, 490, 491, 23, 492, 493, 494] (by decide +kernel) (by decide +kernel)
set_option maxRecDepth 20000 in
theorem ggL_law_X8_carryOut_r13 : GoodIn wsL_law wsX8_carryOut_r13 := goodIn_r _ [495, 496, 497, 498, 499, 500, 501, 502, 503, 830, 732, 175, 176, 177, 178, 179, 180, 181, 182] (by decide +kernel) (by decide +kernel)
set_option maxRecDepth 20000 in
theorem ggL_law_X8_carryOut_X8 : GoodIn wsL_law wsX80 := goodIn_r _ [876, 877, 878, 879, 880, 881, 882] (by decide +kernel) (by decide +kernel)
set_option maxRecDepth 20000 in
theorem ggL_law_X8_carryOut_X3 : GoodIn wsL_law wsX30 := goodIn_r _ [918, 919, 920, 921] (by decide +kernel) (by decide +kernel)
set_option maxRecDepth 20000 in
theorem ggL_law_X8_carryOut_X6 : GoodIn wsL_law wsX60 := goodIn_r _ [916, 917] (by decide +kernel) (by decide +kernel)
set_option maxRecDepth 20000 in
theorem ggL_law_X8_carryOut_X0 : GoodIn wsL_law wsX00 := goodIn_r _ [922, 923] (by decide +kernel) (by decide +kernel)
set_option maxRecDepth 20000 in
theorem ggL_law_X8_carryOut_X4 : GoodIn wsL_law wsX40 := goodIn_r _ [900, 901, 902, 903, 904, 905] (by decide +kernel) (by decide +kernel)
set_option maxRecDepth 20000 in
theorem ggL_law_X8_carryOut_X5 : GoodIn wsL_law wsX50 := goodIn_r _ [924, 925, 926, 927] (by decide +kernel) (by decide +kernel)
set_option maxRecDepth 20000 in
theorem ggL_law_X8_carryOut_X2 : GoodIn wsL_law wsX20 := goodIn_r _ [928, 929, 930, 931] (by decide +kernel) (by decide +kernel)
set_option maxRecDepth 20000 in
theorem ggL_law_X8_carryOut_X7 : GoodIn wsL_law wsX70 := goodIn_r _ [913, 914, 915] (by decide +kernel) (by decide +kernel)
set_option maxRecDepth 20000 in
theorem ggL_law_X8_carryOut_h : GoodIn wsL_law [.code yX8_carryOut cX8_carryOut 2 (some .int)] := goodIn_r _ [815] (by decide +kernel) (by decide +kernel)
theorem ggL_law_X8_carryOut : GoodIn wsL_law wsX8_carryOut := goodIn_app ggL_law_X8_carryOut_h (goodIn_app (goodIn_app (goodIn_app (goodIn_app (goodIn_app (goodIn_app (goodIn_app (goodIn_app (goodIn_app ggL_law_X8_carryOut_r1 (goodIn_app ggL_law_X8_carryOut_r2 (goodIn_app ggL_law_X8_carryOut_r3 (goodIn_app ggL_law_X8_carryOut_r4 (goodIn_app ggL_law_X8_carryOut_r5 (goodIn_app ggL_law_X8_carryOut_r6 (goodIn_app ggL_law_X8_carryOut_r7 (goodIn_app ggL_law_X8_carryOut_r8 (goodIn_app ggL_law_X8_carryOut_r9 (goodIn_app ggL_law_X8_carryOut_r10 (goodIn_app ggL_law_X8_carryOut_r11 (goodIn_app ggL_law_X8_carryOut_r12 ggL_law_X8_carryOut_r13)))))))))))) ggL_law_X8_carryOut_X8) ggL_law_X8_carryOut_X3) ggL_law_X8_carryOut_X6) ggL_law_X8_carryOut_X0) ggL_law_X8_carryOut_X4) ggL_law_X8_carryOut_X5) ggL_law_X8_carryOut_X2) ggL_law_X8_carryOut_X7)
set_option maxRecDepth 20000 in
theorem gL_law_X8_carryOut : GoodIn wsL_law (wsV RL 100 RX8 yX8_carryOut wsX8_carryOut) := goodIn_app (goodIn_of _ (by decide +kernel)) ggL_law_X8_carryOut
set_option maxRecDepth 20000 in
theorem ggL_law_X9_carryOut_r1 : GoodIn wsL_law wsX9_carryOut_r1 := goodIn_r _ [665, 787, 783, 784, 785, 5, 786, 782, 788, 789, 790, 791, 110, 111, 792, 793, 794, 795, 796, 797, 798, 799, 187, 188] (by decide +kernel) (by decide +kernel)
set_option maxRecDepth 20000 in
theorem ggL_law_X9_carryOut_r2 : GoodIn wsL_law wsX9_carryOut_r2 := goodIn_r _ [189, 800, 801, 802, 803, 804, 805, 806, 807, 808, 809, 810, 811, 193, 194, 195, 196, 197, 106, 105, 198, 199, 200, 835] (by decide +kernel) (by decide +kernel)
set_option maxRecDepth 20000 in
theorem ggL_law_X9_carryOut_r3 : GoodIn wsL_law wsX9_carryOut_r3 := goodIn_r _ [836, 837, 838, 839, 840, 841, 842, 218, 219, 220, 221, 222, 223, 224, 225, 843, 844, 845, 846, 257, 258, 259, 260, 261] (by decide +kernel) (by decide +kernel)
set_option maxRecDepth 20000 in
theorem ggL_law_X9_carryOut_r4 : GoodIn wsL_law wsX9_carryOut_r4 := goodIn_r _ [262, 263, 264, 342, 343, 344, 345, 391, 392, 393, 394, 424, 425, 426, 427, 428, 429, 430, 431, 508, 509, 510, 511, 273] (by decide +kernel) (by decide +kernel)
set_option maxRecDepth 20000 in
theorem ggL_law_X9_carryOut_r5 : GoodIn wsL_law wsX9_carryOut_r5 := goodIn_r _ [274, 275, 276, 277, 278, 279, 280, 281, 282, 283, 284, 285, 286, 287, 288, 289, 290, 291, 292, 512, 513, 514, 515, 516] (by decide +kernel) (by decide +kernel)
set_option maxRecDepth 20000 in
theorem ggL_law_X9_carryOut_r6 : GoodIn wsL_law wsX9_carryOut_r6 := goodIn_r _ [517, 518, 519, 520, 521, 522, 523, 293, 294, 295, 296, 346, 347, 348, 349, 115, 395, 396, 397, 398, 399, 400, 401, 402] (by decide +kernel) (by decide +kernel)
set_option maxRecDepth 20000 in
theorem ggL_law_X9_carryOut_r7 : GoodIn wsL_law wsX9_carryOut_r7 := goodIn_r _ [403, 404, 405, 406, 432, 433, 434, 435, 457, 458, 459, 460, 461, 462, 463, 464, 465, 466, 467, 468, 524, 525, 526, 527] (by decide +kernel) (by decide +kernel)
set_option maxRecDepth 20000 in
theorem ggL_law_X9_carryOut_X9 : GoodIn wsL_law wsX90 := goodIn_r _ [883, 884, 885, 886, 887, 888, 889, 890, 891, 892, 893, 894, 895, 896, 897, 898, 899] (by decide +kernel) (by decide +kernel)
set_option maxRecDepth 20000 in
theorem ggL_law_X9_carryOut_h : GoodIn wsL_law [.code yX9_carryOut cX9_carryOut 2 (some .int)] := goodIn_r _ [834] (by decide +kernel) (by decide +kernel)
theorem ggL_law_X9_carryOut : GoodIn wsL_law wsX9_carryOut := goodIn_app ggL_law_X9_carryOut_h (goodIn_app (goodIn_app ggL_law_X9_carryOut_r1 (goodIn_app ggL_law_X9_carryOut_r2 (goodIn_app ggL_law_X9_carryOut_r3 (goodIn_app ggL_law_X9_carryOut_r4 (goodIn_app ggL_law_X9_carryOut_r5 (goodIn_app ggL_law_X9_carryOut_r6 ggL_law_X9_carryOut_r7)))))) ggL_law_X9_carryOut_X9)
set_option maxRecDepth 20000 in
theorem gL_law_X9_carryOut : GoodIn wsL_law (wsV RL 103 RX9 yX9_carryOut wsX9_carryOut) := goodIn_app (goodIn_of _ (by decide +kernel)) ggL_law_X9_carryOut
set_option maxRecDepth 20000 in
theorem ggL_law_X8_undo : GoodIn wsL_law wsX8_undo := goodIn_r _ [850, 36, 16, 650, 851, 852, 853, 35, 854, 124, 100, 126, 127, 128, 15, 129, 43, 44, 45, 130, 131, 132, 133, 27, 134, 67, 59, 135, 136, 137, 138, 139, 140, 141, 142, 143, 144, 145, 146, 47, 147, 148, 149, 53, 150, 71, 73, 74, 75, 151, 876, 877, 878, 879, 880, 881, 882, 922, 923, 900, 901, 902, 903, 904, 905, 916, 917, 928, 929, 930, 931] (by decide +kernel) (by decide +kernel)
set_option maxRecDepth 20000 in
theorem gL_law_X8_undo : GoodIn wsL_law (wsV RL 104 RX8 yX8_undo wsX8_undo) := goodIn_app (goodIn_of _ (by decide +kernel)) ggL_law_X8_undo
set_option maxRecDepth 20000 in
theorem ggL_law_X9_undo : GoodIn wsL_law wsX9_undo := goodIn_r _ [858, 197, 106, 105, 198, 199, 5, 200, 883, 884, 885, 886, 887, 888, 889, 890, 891, 892, 893, 894, 895, 896, 897, 898, 899] (by decide +kernel) (by decide +kernel)
set_option maxRecDepth 20000 in
theorem gL_law_X9_undo : GoodIn wsL_law (wsV RL 107 RX9 yX9_undo wsX9_undo) := goodIn_app (goodIn_of _ (by decide +kernel)) ggL_law_X9_undo
set_option maxRecDepth 20000 in
theorem ggL_law_X8_save : GoodIn wsL_law wsX8_save := goodIn_r _ [862, 37, 13, 14, 15, 16, 532, 545, 38, 39, 40, 41, 11, 12, 42, 26, 27, 43, 44, 45, 46, 47, 48, 49, 50, 51, 52, 53, 54, 55, 56, 57, 58, 59, 60, 61, 62, 63, 64, 65, 66, 67, 68, 69, 70, 71, 72, 73, 74, 75, 76, 863, 127, 128, 129, 130, 131, 132, 133, 134, 135, 136, 137, 138, 139, 140, 141, 142, 143, 144, 145, 146, 147, 148, 149, 150, 151, 876, 877, 878, 879, 880, 881, 882, 900, 901, 902, 903, 904, 905, 916, 917, 924, 925, 926, 927, 928, 929, 930, 931] (by decide +kernel) (by decide +kernel)
set_option maxRecDepth 20000 in
theorem gL_law_X8_save : GoodIn wsL_law (wsV RL 108 RX8 yX8_save wsX8_save) := goodIn_app (goodIn_of _ (by decide +kernel)) ggL_law_X8_save
set_option maxRecDepth 20000 in
theorem ggL_law_X9_save : GoodIn wsL_law wsX9_save := goodIn_r _ [867, 105, 107, 109, 187, 188, 5, 189, 198, 199, 200, 883, 884, 885, 886, 887, 888, 889, 890, 891, 892, 893, 894, 895, 896, 897, 898, 899] (by decide +kernel) (by decide +kernel)
set_option maxRecDepth 20000 in
theorem gL_law_X9_save : GoodIn wsL_law (wsV RL 111 RX9 yX9_save wsX9_save) := goodIn_app (goodIn_of _ (by decide +kernel)) ggL_law_X9_save
set_option maxRecDepth 20000 in
theorem ggL_law_X8_restore : GoodIn wsL_law wsX8_restore := goodIn_r _ [871, 37, 36, 16, 532, 545, 120, 121, 122, 35, 123, 124, 100, 99, 14, 15, 125, 39, 40, 41, 11, 12, 42, 26, 27, 43, 44, 45, 46, 47, 48, 49, 50, 51, 52, 53, 54, 55, 56, 57, 58, 59, 60, 61, 62, 63, 64, 65, 66, 67, 68, 69, 70, 71, 72, 73, 74, 75, 76, 126, 127, 128, 129, 130, 131, 132, 133, 134, 135, 136, 137, 138, 139, 140, 141, 142, 143, 144, 145, 146, 147, 148, 149, 150, 151, 863, 175, 176, 177, 178, 179, 180, 181, 182, 876, 877, 878, 879, 880, 881, 882, 900, 901, 902, 903, 904, 905, 916, 917, 922, 923, 924, 925, 926, 927, 928, 929, 930, 931] (by decide +kernel) (by decide +kernel)
set_option maxRecDepth 20000 in
theorem gL_law_X8_restore : GoodIn wsL_law (wsV RL 112 RX8 yX8_restore wsX8_restore) := goodIn_app (goodIn_of _ (by decide +kernel)) ggL_law_X8_restore
set_option maxRecDepth 20000 in
theorem ggL_law_X9_restore : GoodIn wsL_law wsX9_restore := goodIn_r _ [875, 109, 107, 105, 187, 188, 5, 189, 193, 194, 195, 196, 197, 106, 198, 199, 200, 883, 884, 885, 886, 887, 888, 889, 890, 891, 892, 893, 894, 895, 896, 897, 898, 899] (by decide +kernel) (by decide +kernel)
set_option maxRecDepth 20000 in
theorem gL_law_X9_restore : GoodIn wsL_law (wsV RL 115 RX9 yX9_restore wsX9_restore) := goodIn_app (goodIn_of _ (by decide +kernel)) ggL_law_X9_restore

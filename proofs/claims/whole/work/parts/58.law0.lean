/-! the law: the words of its calls, each by its place in the tables -/
set_option maxRecDepth 20000 in
theorem lwi_1 : GoodIn lw_tbl wsL_law_r1 := goodIn_r _ [75, 76, 62, 702, 703, 71, 1069, 77, 78, 79, 80, 81, 82, 83, 84, 63, 292, 193, 194, 67, 293, 228, 229, 68] (by decide +kernel) (by decide +kernel)
set_option maxRecDepth 20000 in
theorem lwi_2 : GoodIn lw_tbl wsL_law_r2 := goodIn_r _ [294, 249, 90, 64, 295, 251, 252, 69, 296, 276, 277, 70, 297, 298, 85, 86, 87, 88, 89, 168, 170, 173, 109, 175] (by decide +kernel) (by decide +kernel)
set_option maxRecDepth 20000 in
theorem lwi_3 : GoodIn lw_tbl wsL_law_r3 := goodIn_r _ [111, 112, 65, 179, 141, 66, 91, 92, 93, 94, 108, 95, 114, 115, 116, 137, 138, 139, 140, 96, 143, 144, 145, 148] (by decide +kernel) (by decide +kernel)
set_option maxRecDepth 20000 in
theorem lwi_4 : GoodIn lw_tbl wsL_law_r4 := goodIn_r _ [146, 151, 155, 157, 147, 196, 197, 198, 199, 201, 203, 211, 212, 200, 231, 232, 233, 250, 254, 255, 256, 257, 265, 258] (by decide +kernel) (by decide +kernel)
set_option maxRecDepth 20000 in
theorem lwi_5 : GoodIn lw_tbl wsL_law_r5 := goodIn_r _ [279, 280, 281, 282, 284, 704, 705, 706, 707, 708, 709, 711, 760, 712, 713, 716, 721, 722, 723, 724, 314, 315, 316, 317] (by decide +kernel) (by decide +kernel)
set_option maxRecDepth 20000 in
theorem lwi_6 : GoodIn lw_tbl wsL_law_r6 := goodIn_r _ [318, 319, 320, 321, 285, 322, 323, 324, 325, 326, 177, 327, 328, 329, 330, 331, 332, 72, 333, 334, 336, 335, 73, 337] (by decide +kernel) (by decide +kernel)
set_option maxRecDepth 20000 in
theorem lwi_7 : GoodIn lw_tbl wsL_law_r7 := goodIn_r _ [338, 339, 340, 341, 342, 343, 344, 345, 346, 347, 348, 349, 350, 351, 352, 353, 354, 355, 356, 357, 358, 359, 360, 361] (by decide +kernel) (by decide +kernel)
set_option maxRecDepth 20000 in
theorem lwi_8 : GoodIn lw_tbl wsL_law_r8 := goodIn_r _ [362, 363, 364, 365, 366, 367, 368, 369, 370, 371, 372, 373, 375, 0, 376, 783, 784, 785, 786, 772, 773, 774, 787, 788] (by decide +kernel) (by decide +kernel)
set_option maxRecDepth 20000 in
theorem lwi_9 : GoodIn lw_tbl wsL_law_r9 := goodIn_r _ [789, 779, 781, 12, 782, 710, 765, 766, 767, 377, 378, 379, 380, 381, 382, 383, 384, 101, 385, 386, 387, 388, 790, 791] (by decide +kernel) (by decide +kernel)
set_option maxRecDepth 20000 in
theorem lwi_10 : GoodIn lw_tbl wsL_law_r10 := goodIn_r _ [792, 793, 794, 796, 13, 797, 798, 800, 14, 801, 389, 390, 391, 392, 393, 394, 395, 396, 397, 398, 399, 400, 401, 403] (by decide +kernel) (by decide +kernel)
set_option maxRecDepth 20000 in
theorem lwi_11 : GoodIn lw_tbl wsL_law_r11 := goodIn_r _ [1, 404, 405, 406, 407, 408, 409, 410, 74, 411, 412, 413, 414, 802, 803, 804, 805, 806, 808, 15, 809, 810, 812, 16] (by decide +kernel) (by decide +kernel)
set_option maxRecDepth 20000 in
theorem lwi_12 : GoodIn lw_tbl wsL_law_r12 := goodIn_r _ [813, 814, 816, 17, 817, 818, 820, 18, 821, 822, 824, 19, 825, 826, 828, 20, 829, 830, 832, 21, 833, 834, 836, 22] (by decide +kernel) (by decide +kernel)
set_option maxRecDepth 20000 in
theorem lwi_13 : GoodIn lw_tbl wsL_law_r13 := goodIn_r _ [837, 838, 840, 23, 841, 842, 844, 24, 845, 415, 416, 417, 418, 419, 420, 421, 422, 423, 424, 425, 426, 427, 429, 2] (by decide +kernel) (by decide +kernel)
set_option maxRecDepth 20000 in
theorem lwi_14 : GoodIn lw_tbl wsL_law_r14 := goodIn_r _ [430, 431, 433, 3, 434, 435, 436, 437, 438, 119, 439, 440, 441, 442, 443, 444, 445, 446, 117, 120, 123, 126, 98, 447] (by decide +kernel) (by decide +kernel)
set_option maxRecDepth 20000 in
theorem lwi_15 : GoodIn lw_tbl wsL_law_r15 := goodIn_r _ [449, 450, 846, 847, 848, 849, 850, 852, 25, 853, 854, 856, 26, 857, 858, 860, 27, 861, 720, 862, 864, 28, 865, 718] (by decide +kernel) (by decide +kernel)
set_option maxRecDepth 20000 in
theorem lwi_16 : GoodIn lw_tbl wsL_law_r16 := goodIn_r _ [719, 451, 452, 453, 454, 455, 456, 457, 458, 459, 461, 4, 462, 463, 464, 465, 466, 467, 468, 469, 470, 471, 472, 473] (by decide +kernel) (by decide +kernel)
set_option maxRecDepth 20000 in
theorem lwi_17 : GoodIn lw_tbl wsL_law_r17 := goodIn_r _ [474, 475, 476, 866, 867, 868, 869, 870, 872, 29, 873, 874, 876, 30, 877, 878, 880, 31, 881, 882, 884, 32, 885, 477] (by decide +kernel) (by decide +kernel)
set_option maxRecDepth 20000 in
theorem lwi_18 : GoodIn lw_tbl wsL_law_r18 := goodIn_r _ [478, 479, 480, 481, 482, 483, 484, 485, 486, 487, 488, 489, 886, 887, 888, 889, 890, 892, 33, 893, 894, 896, 34, 897] (by decide +kernel) (by decide +kernel)
set_option maxRecDepth 20000 in
theorem lwi_19 : GoodIn lw_tbl wsL_law_r19 := goodIn_r _ [898, 900, 35, 901, 490, 491, 492, 493, 494, 495, 496, 497, 498, 499, 500, 501, 150, 503, 505, 5, 506, 902, 903, 904] (by decide +kernel) (by decide +kernel)
set_option maxRecDepth 20000 in
theorem lwi_20 : GoodIn lw_tbl wsL_law_r20 := goodIn_r _ [905, 906, 908, 36, 909, 910, 912, 37, 913, 914, 916, 38, 917, 507, 508, 509, 510, 511, 512, 513, 514, 240, 235, 154] (by decide +kernel) (by decide +kernel)
set_option maxRecDepth 20000 in
theorem lwi_21 : GoodIn lw_tbl wsL_law_r21 := goodIn_r _ [515, 516, 517, 518, 122, 519, 520, 521, 522, 523, 524, 525, 526, 234, 237, 239, 152, 97, 156, 158, 527, 528, 529, 530] (by decide +kernel) (by decide +kernel)
set_option maxRecDepth 20000 in
theorem lwi_22 : GoodIn lw_tbl wsL_law_r22 := goodIn_r _ [918, 919, 920, 921, 922, 924, 39, 925, 926, 928, 40, 929, 930, 932, 41, 933, 934, 936, 42, 937, 938, 940, 43, 941] (by decide +kernel) (by decide +kernel)
set_option maxRecDepth 20000 in
theorem lwi_23 : GoodIn lw_tbl wsL_law_r23 := goodIn_r _ [531, 532, 533, 534, 172, 535, 942, 943, 944, 945, 536, 537, 538, 539, 125, 127, 153, 102, 121, 118, 149, 540, 541, 542] (by decide +kernel) (by decide +kernel)
set_option maxRecDepth 20000 in
theorem lwi_24 : GoodIn lw_tbl wsL_law_r24 := goodIn_r _ [543, 544, 545, 546, 547, 548, 549, 550, 551, 552, 553, 554, 946, 947, 948, 949, 950, 952, 44, 953, 954, 956, 45, 957] (by decide +kernel) (by decide +kernel)
set_option maxRecDepth 20000 in
theorem lwi_25 : GoodIn lw_tbl wsL_law_r25 := goodIn_r _ [958, 960, 46, 961, 555, 556, 557, 558, 962, 963, 964, 965, 559, 560, 561, 562, 174, 966, 967, 968, 969, 563, 564, 565] (by decide +kernel) (by decide +kernel)
set_option maxRecDepth 20000 in
theorem lwi_26 : GoodIn lw_tbl wsL_law_r26 := goodIn_r _ [566, 169, 202, 204, 567, 568, 569, 570, 176, 124, 171, 99, 571, 573, 6, 574, 205, 207, 209, 575, 576, 577, 578, 579] (by decide +kernel) (by decide +kernel)
set_option maxRecDepth 20000 in
theorem lwi_27 : GoodIn lw_tbl wsL_law_r27 := goodIn_r _ [580, 581, 582, 583, 585, 7, 586, 588, 589, 590, 587, 970, 971, 972, 973, 974, 976, 47, 977, 591, 592, 593, 594, 178] (by decide +kernel) (by decide +kernel)
set_option maxRecDepth 20000 in
theorem lwi_28 : GoodIn lw_tbl wsL_law_r28 := goodIn_r _ [206, 208, 286, 595, 596, 597, 598, 599, 600, 601, 602, 603, 604, 978, 979, 980, 981, 714, 982, 984, 48, 985, 986, 988] (by decide +kernel) (by decide +kernel)
set_option maxRecDepth 20000 in
theorem lwi_29 : GoodIn lw_tbl wsL_law_r29 := goodIn_r _ [49, 989, 990, 992, 50, 993, 605, 606, 607, 608, 609, 994, 995, 996, 997, 610, 611, 612, 613, 241, 236, 238, 614, 998] (by decide +kernel) (by decide +kernel)
set_option maxRecDepth 20000 in
theorem lwi_30 : GoodIn lw_tbl wsL_law_r30 := goodIn_r _ [999, 1000, 1001, 615, 616, 617, 618, 210, 1002, 1003, 1004, 1005, 619, 620, 621, 622, 626, 623, 624, 625, 627, 1006, 1007, 1008] (by decide +kernel) (by decide +kernel)
set_option maxRecDepth 20000 in
theorem lwi_31 : GoodIn lw_tbl wsL_law_r31 := goodIn_r _ [1009, 1010, 1011, 1012, 1013, 1014, 1015, 1016, 628, 629, 630, 631, 632, 1017, 1018, 1019, 1020, 633, 634, 635, 636, 637, 638, 639] (by decide +kernel) (by decide +kernel)
set_option maxRecDepth 20000 in
theorem lwi_32 : GoodIn lw_tbl wsL_law_r32 := goodIn_r _ [640, 259, 100, 641, 642, 643, 644, 645, 646, 647, 648, 261, 649, 650, 651, 653, 8, 654, 655, 656, 657, 658, 659, 660] (by decide +kernel) (by decide +kernel)
set_option maxRecDepth 20000 in
theorem lwi_33 : GoodIn lw_tbl wsL_law_r33 := goodIn_r _ [661, 662, 663, 665, 9, 666, 263, 667, 668, 669, 1021, 1022, 1023, 1024, 715, 1025, 1027, 51, 1028, 717, 1029, 1031, 52, 1032] (by decide +kernel) (by decide +kernel)
set_option maxRecDepth 20000 in
theorem lwi_34 : GoodIn lw_tbl wsL_law_r34 := goodIn_r _ [1033, 1035, 53, 1036, 1037, 1039, 54, 1040, 1041, 1043, 55, 1044, 1045, 1047, 56, 1048, 1049, 1051, 57, 1052, 670, 671, 672, 673] (by decide +kernel) (by decide +kernel)
set_option maxRecDepth 20000 in
theorem lwi_35 : GoodIn lw_tbl wsL_law_r35 := goodIn_r _ [674, 675, 676, 678, 10, 679, 266, 262, 680, 682, 11, 683, 264, 260, 684, 1053, 1054, 1055, 1056, 1057, 1059, 58, 1060, 1061] (by decide +kernel) (by decide +kernel)
set_option maxRecDepth 20000 in
theorem lwi_36 : GoodIn lw_tbl wsL_law_r36 := goodIn_r _ [1063, 59, 1064, 1065, 1067, 60, 1068, 685, 686, 687, 688, 689, 690, 691, 692, 761, 762, 763, 764, 693, 694, 695, 696, 697] (by decide +kernel) (by decide +kernel)
set_option maxRecDepth 20000 in
theorem lwi_37 : GoodIn lw_tbl wsL_law_r37 := goodIn_r _ [768, 769, 770, 771, 698, 699, 700, 701, 775, 776, 777, 778] (by decide +kernel) (by decide +kernel)
set_option maxRecDepth 20000 in
theorem lwi_X8 : GoodIn lw_tbl wsX80 := goodIn_r _ [299, 301, 303, 305, 307, 309, 311] (by decide +kernel) (by decide +kernel)
set_option maxRecDepth 20000 in
theorem lwi_X9 : GoodIn lw_tbl wsX90 := goodIn_r _ [725, 727, 729, 731, 733, 735, 737, 739, 741, 743, 745, 747, 749, 751, 753, 755, 757] (by decide +kernel) (by decide +kernel)
set_option maxRecDepth 20000 in
theorem lwi_X4 : GoodIn lw_tbl wsX40 := goodIn_r _ [180, 182, 184, 186, 188, 190] (by decide +kernel) (by decide +kernel)
set_option maxRecDepth 20000 in
theorem lwi_X1 : GoodIn lw_tbl wsX10 := goodIn_r _ [213, 215, 217, 219, 221, 223, 225] (by decide +kernel) (by decide +kernel)
set_option maxRecDepth 20000 in
theorem lwi_X7 : GoodIn lw_tbl wsX70 := goodIn_r _ [242, 244, 246] (by decide +kernel) (by decide +kernel)
set_option maxRecDepth 20000 in
theorem lwi_X6 : GoodIn lw_tbl wsX60 := goodIn_r _ [103, 105] (by decide +kernel) (by decide +kernel)
set_option maxRecDepth 20000 in
theorem lwi_X3 : GoodIn lw_tbl wsX30 := goodIn_r _ [267, 269, 271, 273] (by decide +kernel) (by decide +kernel)
set_option maxRecDepth 20000 in
theorem lwi_X0 : GoodIn lw_tbl wsX00 := goodIn_r _ [287, 289] (by decide +kernel) (by decide +kernel)
set_option maxRecDepth 20000 in
theorem lwi_X5 : GoodIn lw_tbl wsX50 := goodIn_r _ [128, 130, 132, 134] (by decide +kernel) (by decide +kernel)
set_option maxRecDepth 20000 in
theorem lwi_X2 : GoodIn lw_tbl wsX20 := goodIn_r _ [159, 161, 163, 165] (by decide +kernel) (by decide +kernel)
theorem lwi_all : GoodIn lw_tbl wsL_law := (goodIn_app (goodIn_app (goodIn_app (goodIn_app (goodIn_app (goodIn_app (goodIn_app (goodIn_app (goodIn_app (goodIn_app (goodIn_app (goodIn_app lwi_1 (goodIn_app lwi_2 (goodIn_app lwi_3 (goodIn_app lwi_4 (goodIn_app lwi_5 (goodIn_app lwi_6 (goodIn_app lwi_7 (goodIn_app lwi_8 (goodIn_app lwi_9 (goodIn_app lwi_10 (goodIn_app lwi_11 (goodIn_app lwi_12 (goodIn_app lwi_13 (goodIn_app lwi_14 (goodIn_app lwi_15 (goodIn_app lwi_16 (goodIn_app lwi_17 (goodIn_app lwi_18 (goodIn_app lwi_19 (goodIn_app lwi_20 (goodIn_app lwi_21 (goodIn_app lwi_22 (goodIn_app lwi_23 (goodIn_app lwi_24 (goodIn_app lwi_25 (goodIn_app lwi_26 (goodIn_app lwi_27 (goodIn_app lwi_28 (goodIn_app lwi_29 (goodIn_app lwi_30 (goodIn_app lwi_31 (goodIn_app lwi_32 (goodIn_app lwi_33 (goodIn_app lwi_34 (goodIn_app lwi_35 (goodIn_app lwi_36 lwi_37)))))))))))))))))))))))))))))))))))) lwi_X8) lwi_X9) lwi_X4) lwi_X1) lwi_X7) lwi_X6) lwi_X3) lwi_X0) lwi_X5) lwi_X2) (fun w h => by cases h))
theorem wsL_law_in : ∀ w ∈ wsL_law, w ∈ lw_tbl := fun w h => (lwi_all w h).1
theorem inX0 : ∀ w ∈ wsX00, w ∈ lw_tbl := fun w h => (lwi_X0 w h).1
theorem inX1 : ∀ w ∈ wsX10, w ∈ lw_tbl := fun w h => (lwi_X1 w h).1
theorem inX2 : ∀ w ∈ wsX20, w ∈ lw_tbl := fun w h => (lwi_X2 w h).1
theorem inX3 : ∀ w ∈ wsX30, w ∈ lw_tbl := fun w h => (lwi_X3 w h).1
theorem inX4 : ∀ w ∈ wsX40, w ∈ lw_tbl := fun w h => (lwi_X4 w h).1
theorem inX5 : ∀ w ∈ wsX50, w ∈ lw_tbl := fun w h => (lwi_X5 w h).1
theorem inX6 : ∀ w ∈ wsX60, w ∈ lw_tbl := fun w h => (lwi_X6 w h).1
theorem inX7 : ∀ w ∈ wsX70, w ∈ lw_tbl := fun w h => (lwi_X7 w h).1
theorem inX8 : ∀ w ∈ wsX80, w ∈ lw_tbl := fun w h => (lwi_X8 w h).1
theorem inX9 : ∀ w ∈ wsX90, w ∈ lw_tbl := fun w h => (lwi_X9 w h).1

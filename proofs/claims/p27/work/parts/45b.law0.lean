set_option maxRecDepth 20000 in
theorem lwi_9 : GoodIn lw_tbl wsL_law_r9 := goodIn_r _ [321, 322, 323, 324, 325, 326, 327, 328, 399, 400, 8, 401, 402, 403, 404, 405, 406, 407, 408, 409, 410, 411, 412, 413] (by decide +kernel) (by decide +kernel)
set_option maxRecDepth 20000 in
theorem lwi_10 : GoodIn lw_tbl wsL_law_r10 := goodIn_r _ [414, 415, 416, 417, 223, 418, 419, 420, 421, 422, 423, 424, 425, 426, 427, 428, 429, 430, 432, 431, 19, 433, 434, 435] (by decide +kernel) (by decide +kernel)
set_option maxRecDepth 20000 in
theorem lwi_11 : GoodIn lw_tbl wsL_law_r11 := goodIn_r _ [436, 437, 438, 439, 440, 441, 442, 443, 444, 445, 446, 447, 448, 449, 450, 452, 2, 453, 454, 455, 456, 457, 458, 459] (by decide +kernel) (by decide +kernel)
set_option maxRecDepth 20000 in
theorem lwi_12 : GoodIn lw_tbl wsL_law_r12 := goodIn_r _ [460, 461, 462, 463, 464, 465, 466, 468, 3, 469, 470, 471, 472, 473, 474, 475, 357, 20, 358, 359, 360, 361, 476, 477] (by decide +kernel) (by decide +kernel)
set_option maxRecDepth 20000 in
theorem lwi_13 : GoodIn lw_tbl wsL_law_r13 := goodIn_r _ [478, 479, 480, 481, 482, 483, 484, 485, 486, 487, 488, 490, 4, 491, 492, 494, 5, 495, 496, 497, 498, 499, 500, 501] (by decide +kernel) (by decide +kernel)
set_option maxRecDepth 20000 in
theorem lwi_14 : GoodIn lw_tbl wsL_law_r14 := goodIn_r _ [502, 503, 504, 505, 507, 6, 508, 509, 510, 511, 512, 513, 514, 515, 516, 517, 375, 518, 519, 520, 521, 522, 523, 524] (by decide +kernel) (by decide +kernel)
set_option maxRecDepth 20000 in
theorem lwi_15 : GoodIn lw_tbl wsL_law_r15 := goodIn_r _ [525, 526, 527, 528, 529, 530, 531, 532, 533, 534, 535, 536, 537, 538, 539, 540, 541, 352, 353, 354, 95, 542, 544, 7] (by decide +kernel) (by decide +kernel)
set_option maxRecDepth 20000 in
theorem lwi_16 : GoodIn lw_tbl wsL_law_r16 := goodIn_r _ [545, 546, 547, 548, 549, 550, 551, 552, 553, 554, 555, 556, 557, 558, 559, 560, 561, 562, 563, 564, 565, 566, 567, 568] (by decide +kernel) (by decide +kernel)

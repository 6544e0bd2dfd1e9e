set_option maxRecDepth 20000 in
theorem lwi_9 : GoodIn lw_tbl wsL_law_r9 := by
  show GoodIn lw_tbl ([Cond.methodLink RX1 79 yX6_replace, Cond.instanceMethod yX6_replace, Cond.selects RX6 yX6_replace yX6_replace, Cond.code yX6_replace cX6_replace 3 none, Cond.methodLink RX6 19 yX6_has, Cond.instanceMethod yX6_has, Cond.selects RX6 yX6_has yX6_has, Cond.code yX6_has cX6_has 2 (some .boolean), Cond.methodLink RL 76 yL_act, Cond.static yL_act, Cond.initialized RL] ++ ([Cond.code yL_act cL_act 8 (some .int)] ++ ([Cond.methodLink RL 37 yL_cell, Cond.static yL_cell] ++ ([Cond.code yL_cell cL_cell 2 (some .int)] ++ ([Cond.constant RL 8 (40503), Cond.methodLink RL 43 yL_low, Cond.static yL_low] ++ ([Cond.code yL_low cL_low 2 (some .int)] ++ ([Cond.constant RL 7 (2147483647), Cond.methodLink RL 46 yX8_write, Cond.instanceMethod yX8_write, Cond.selects RX8 yX8_write yX8_write, Cond.code yX8_write cX8_write 3 (some .int)])))))))
  exact goodIn_app (goodIn_r _ [321, 322, 323, 324, 325, 326, 327, 328, 399, 400, 8] (by decide +kernel) (by decide +kernel)) (goodIn_app (goodIn_r _ [401] rfl (by decide +kernel)) (goodIn_app (goodIn_r _ [402, 403] (by decide +kernel) (by decide +kernel)) (goodIn_app (goodIn_r _ [404] rfl (by decide +kernel)) (goodIn_app (goodIn_r _ [405, 406, 407] (by decide +kernel) (by decide +kernel)) (goodIn_app (goodIn_r _ [408] rfl (by decide +kernel)) (goodIn_r _ [409, 410, 411, 412, 413] (by decide +kernel) (by decide +kernel)))))))
set_option maxRecDepth 20000 in
theorem lwi_10 : GoodIn lw_tbl wsL_law_r10 := goodIn_r _ [414, 415, 416, 417, 223, 418, 419, 420, 421, 422, 423, 424, 425, 426, 427, 428, 429, 430, 432, 431, 19, 433, 434, 435] (by decide +kernel) (by decide +kernel)
set_option maxRecDepth 20000 in
theorem lwi_11 : GoodIn lw_tbl wsL_law_r11 := goodIn_r _ [436, 437, 438, 439, 440, 441, 442, 443, 444, 445, 446, 447, 448, 449, 450, 452, 2, 453, 454, 455, 456, 457, 458, 459] (by decide +kernel) (by decide +kernel)
set_option maxRecDepth 20000 in
theorem lwi_12 : GoodIn lw_tbl wsL_law_r12 := goodIn_r _ [460, 461, 462, 463, 464, 465, 466, 468, 3, 469, 470, 471, 472, 473, 474, 475, 357, 20, 358, 359, 360, 361, 476, 477] (by decide +kernel) (by decide +kernel)
set_option maxRecDepth 20000 in
theorem lwi_13 : GoodIn lw_tbl wsL_law_r13 := goodIn_r _ [478, 479, 480, 481, 482, 483, 484, 485, 486, 487, 488, 490, 4, 491, 492, 494, 5, 495, 496, 497, 498, 499, 500, 501] (by decide +kernel) (by decide +kernel)
set_option maxRecDepth 20000 in
theorem lwi_14 : GoodIn lw_tbl wsL_law_r14 := goodIn_r _ [502, 503, 504, 505, 507, 6, 508, 509, 510, 511, 512, 513, 514, 515, 516, 517, 375, 518, 519, 520, 521, 522, 523, 524] (by decide +kernel) (by decide +kernel)
set_option maxRecDepth 20000 in
theorem lwi_15 : GoodIn lw_tbl wsL_law_r15 := goodIn_r _ [525, 526, 527, 528, 529, 530, 531, 532, 533, 534, 535, 536, 537, 538, 539, 540, 541, 352, 353, 354, 95, 542, 544, 7] (by decide +kernel) (by decide +kernel)
set_option maxRecDepth 20000 in
theorem lwi_16 : GoodIn lw_tbl wsL_law_r16 := goodIn_r _ [545, 546, 547, 548, 549, 550, 551, 552, 553, 554, 555, 556, 557, 558, 559, 560, 561, 562, 563, 564, 565, 566, 567, 568] (by decide +kernel) (by decide +kernel)

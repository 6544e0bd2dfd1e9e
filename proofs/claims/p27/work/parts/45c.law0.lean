set_option maxRecDepth 20000 in
theorem lwi_17 : GoodIn lw_tbl wsL_law_r17 := goodIn_r _ [569, 570, 571, 572, 573, 574, 575, 185, 180, 99, 576, 368, 369, 370, 179, 182, 184, 97, 43, 101, 103, 371, 372, 373] (by decide +kernel) (by decide +kernel)
set_option maxRecDepth 20000 in
theorem lwi_18 : GoodIn lw_tbl wsL_law_r18 := by
  show GoodIn lw_tbl ([Cond.code yX6_countAlike cX6_countAlike 5 (some .int), Cond.methodLink RL 80 yL_notes, Cond.static yL_notes] ++ ([Cond.code yL_notes cL_notes 11 (some .boolean)] ++ ([Cond.methodLink RL 15 yX8_of, Cond.instanceMethod yX8_of, Cond.selects RX8 yX8_of yX8_of, Cond.code yX8_of cX8_of 4 (some .int), Cond.fieldLink RX8 112 "AnchoredNotes$Pieces" "first" "I", Cond.fieldLink RX8 118 "AnchoredNotes$Pieces" "last" "I", Cond.fieldLink RX8 127 "AnchoredNotes$Note" "words" "LAnchoredNotes$Row;", Cond.fieldLink RX8 133 "AnchoredNotes$Pieces" "letters" "I", Cond.fieldLink RX8 135 "AnchoredNotes$Pieces" "pieces" "I", Cond.fieldLink RX8 138 "AnchoredNotes$Note" "target" "I", Cond.methodLink RX8 98 yX4_find, Cond.methodLink RX8 102 yX4_state, Cond.methodLink RX8 105 yX4_root, Cond.instanceMethod yX4_root, Cond.selects RX4 yX4_root yX4_root, Cond.code yX4_root cX4_root 5 (some .int), Cond.methodLink RX4 160 yX4_depth, Cond.instanceMethod yX4_depth, Cond.selects RX4 yX4_depth yX4_depth, Cond.code yX4_depth cX4_depth 4 (some .int)])))
  exact goodIn_app (goodIn_r _ [374, 332, 333] (by decide +kernel) (by decide +kernel)) (goodIn_app (goodIn_r _ [334] rfl (by decide +kernel)) (goodIn_r _ [335, 336, 337, 338, 70, 72, 98, 66, 63, 94, 339, 340, 341, 342, 343, 344, 345, 346, 347, 348] (by decide +kernel) (by decide +kernel)))
set_option maxRecDepth 20000 in
theorem lwi_19 : GoodIn lw_tbl wsL_law_r19 := goodIn_r _ [349, 350, 351, 356, 362, 363, 364, 365, 366, 186, 181, 183, 367, 376, 377, 378, 379, 119, 380, 381, 382, 383, 147, 149] (by decide +kernel) (by decide +kernel)
set_option maxRecDepth 20000 in
theorem lwi_20 : GoodIn lw_tbl wsL_law_r20 := by
  show GoodIn lw_tbl ([Cond.methodLink RL 28 yX8_word, Cond.instanceMethod yX8_word, Cond.selects RX8 yX8_word yX8_word, Cond.code yX8_word cX8_word 4 (some .int), Cond.methodLink RL 31 yX8_letter, Cond.instanceMethod yX8_letter, Cond.selects RX8 yX8_letter yX8_letter, Cond.code yX8_letter cX8_letter 2 (some .int), Cond.methodLink RL 84 yL_margin, Cond.static yL_margin] ++ ([Cond.code yL_margin cL_margin 12 (some .boolean)] ++ ([Cond.methodLink RL 34 yX8_leastRoom, Cond.instanceMethod yX8_leastRoom, Cond.selects RX8 yX8_leastRoom yX8_leastRoom, Cond.code yX8_leastRoom cX8_leastRoom 3 (some .int), Cond.fieldLink RX8 206 "AnchoredNotes$Margin" "longestLeader" "I"])))
  exact goodIn_app (goodIn_r _ [384, 385, 386, 387, 388, 389, 390, 391, 392, 393] (by decide +kernel) (by decide +kernel)) (goodIn_app (goodIn_r _ [394] rfl (by decide +kernel)) (goodIn_r _ [395, 396, 397, 398, 155] (by decide +kernel) (by decide +kernel)))
set_option maxRecDepth 20000 in
theorem lwi_X8 : GoodIn lw_tbl wsX80 := goodIn_r _ [237, 239, 241, 243, 245, 247, 249] (by decide +kernel) (by decide +kernel)
set_option maxRecDepth 20000 in
theorem lwi_X4 : GoodIn lw_tbl wsX40 := goodIn_r _ [125, 127, 129, 131, 133, 135] (by decide +kernel) (by decide +kernel)
set_option maxRecDepth 20000 in
theorem lwi_X1 : GoodIn lw_tbl wsX10 := goodIn_r _ [158, 160, 162, 164, 166, 168, 170] (by decide +kernel) (by decide +kernel)
set_option maxRecDepth 20000 in
theorem lwi_X7 : GoodIn lw_tbl wsX70 := goodIn_r _ [187, 189, 191] (by decide +kernel) (by decide +kernel)
set_option maxRecDepth 20000 in
theorem lwi_X6 : GoodIn lw_tbl wsX60 := goodIn_r _ [48, 50] (by decide +kernel) (by decide +kernel)
set_option maxRecDepth 20000 in
theorem lwi_X3 : GoodIn lw_tbl wsX30 := goodIn_r _ [205, 207, 209, 211] (by decide +kernel) (by decide +kernel)
set_option maxRecDepth 20000 in
theorem lwi_X0 : GoodIn lw_tbl wsX00 := goodIn_r _ [225, 227] (by decide +kernel) (by decide +kernel)
set_option maxRecDepth 20000 in
theorem lwi_X5 : GoodIn lw_tbl wsX50 := goodIn_r _ [73, 75, 77, 79] (by decide +kernel) (by decide +kernel)
set_option maxRecDepth 20000 in
theorem lwi_X2 : GoodIn lw_tbl wsX20 := goodIn_r _ [104, 106, 108, 110] (by decide +kernel) (by decide +kernel)
theorem lwi_all : GoodIn lw_tbl wsL_law := (goodIn_app (goodIn_app (goodIn_app (goodIn_app (goodIn_app (goodIn_app (goodIn_app (goodIn_app (goodIn_app (goodIn_app (goodIn_app lwi_1 (goodIn_app lwi_2 (goodIn_app lwi_3 (goodIn_app lwi_4 (goodIn_app lwi_5 (goodIn_app lwi_6 (goodIn_app lwi_7 (goodIn_app lwi_8 (goodIn_app lwi_9 (goodIn_app lwi_10 (goodIn_app lwi_11 (goodIn_app lwi_12 (goodIn_app lwi_13 (goodIn_app lwi_14 (goodIn_app lwi_15 (goodIn_app lwi_16 (goodIn_app lwi_17 (goodIn_app lwi_18 (goodIn_app lwi_19 lwi_20))))))))))))))))))) lwi_X8) lwi_X4) lwi_X1) lwi_X7) lwi_X6) lwi_X3) lwi_X0) lwi_X5) lwi_X2) (fun w h => by cases h))
theorem wsL_law_in : ∀ w ∈ wsL_law, w ∈ lw_tbl := fun w h => (lwi_all w h).1
theorem inX0 : ∀ w ∈ wsX00, w ∈ lw_tbl := fun w h => (lwi_X0 w h).1
theorem inX1 : ∀ w ∈ wsX10, w ∈ lw_tbl := fun w h => (lwi_X1 w h).1
theorem inX2 : ∀ w ∈ wsX20, w ∈ lw_tbl := fun w h => (lwi_X2 w h).1
theorem inX3 : ∀ w ∈ wsX30, w ∈ lw_tbl := fun w h => (lwi_X3 w h).1
theorem inX4 : ∀ w ∈ wsX40, w ∈ lw_tbl := fun w h => (lwi_X4 w h).1
theorem inX5 : ∀ w ∈ wsX50, w ∈ lw_tbl := fun w h => (lwi_X5 w h).1
theorem inX6 : ∀ w ∈ wsX60, w ∈ lw_tbl := fun w h => (lwi_X6 w h).1
theorem inX7 : ∀ w ∈ wsX70, w ∈ lw_tbl := fun w h => (lwi_X7 w h).1
theorem inX8 : ∀ w ∈ wsX80, w ∈ lw_tbl := fun w h => (lwi_X8 w h).1
-- X9

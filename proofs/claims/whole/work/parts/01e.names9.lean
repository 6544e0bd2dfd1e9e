set_option maxRecDepth 20000 in
theorem ggX9_isNote_X9_in : GoodIn wsX9_isNote wsX9_in := goodIn_r _ [5] (by decide +kernel) (by decide +kernel)
set_option maxRecDepth 20000 in
theorem gX9_isNote_X9_in : GoodIn wsX9_isNote (va_wsS RX9 41 yX9_in wsX9_in) := goodIn_app (goodIn_of _ (by decide +kernel)) ggX9_isNote_X9_in
set_option maxRecDepth 20000 in
theorem ggX9_isReply_X9_of0 : GoodIn wsX9_isReply wsX9_of0 := goodIn_r _ [5, 6, 7, 8, 9, 10, 11, 12, 13, 14, 15, 16, 17, 18, 19, 20, 21, 22, 23] (by decide +kernel) (by decide +kernel)
set_option maxRecDepth 20000 in
theorem gX9_isReply_X9_of0 : GoodIn wsX9_isReply (wsV RX9 45 RX9 yX9_of0 wsX9_of0) := goodIn_app (goodIn_of _ (by decide +kernel)) ggX9_isReply_X9_of0
set_option maxRecDepth 20000 in
theorem ggX9_isPlace_X9_in : GoodIn wsX9_isPlace wsX9_in := goodIn_r _ [5] (by decide +kernel) (by decide +kernel)
set_option maxRecDepth 20000 in
theorem gX9_isPlace_X9_in : GoodIn wsX9_isPlace (va_wsS RX9 41 yX9_in wsX9_in) := goodIn_app (goodIn_of _ (by decide +kernel)) ggX9_isPlace_X9_in
set_option maxRecDepth 20000 in
theorem ggX9_records_X9_lays : GoodIn wsX9_records wsX9_lays := goodIn_r _ [7] (by decide +kernel) (by decide +kernel)
set_option maxRecDepth 20000 in
theorem gX9_records_X9_lays : GoodIn wsX9_records (va_wsS RX9 53 yX9_lays wsX9_lays) := goodIn_app (goodIn_of _ (by decide +kernel)) ggX9_records_X9_lays
set_option maxRecDepth 20000 in
theorem ggX9_undo_X9_lays : GoodIn wsX9_undo wsX9_lays := goodIn_r _ [7] (by decide +kernel) (by decide +kernel)
set_option maxRecDepth 20000 in
theorem gX9_undo_X9_lays : GoodIn wsX9_undo (va_wsS RX9 53 yX9_lays wsX9_lays) := goodIn_app (goodIn_of _ (by decide +kernel)) ggX9_undo_X9_lays
set_option maxRecDepth 20000 in
theorem ggX9_save_X9_in : GoodIn wsX9_save wsX9_in := goodIn_r _ [7] (by decide +kernel) (by decide +kernel)
set_option maxRecDepth 20000 in
theorem gX9_save_X9_in : GoodIn wsX9_save (va_wsS RX9 41 yX9_in wsX9_in) := goodIn_app (goodIn_of _ (by decide +kernel)) ggX9_save_X9_in
set_option maxRecDepth 20000 in
theorem ggX9_save_X9_lays : GoodIn wsX9_save wsX9_lays := goodIn_r _ [10] (by decide +kernel) (by decide +kernel)
set_option maxRecDepth 20000 in
theorem gX9_save_X9_lays : GoodIn wsX9_save (va_wsS RX9 53 yX9_lays wsX9_lays) := goodIn_app (goodIn_of _ (by decide +kernel)) ggX9_save_X9_lays
set_option maxRecDepth 20000 in
theorem ggX9_restore_X9_in : GoodIn wsX9_restore wsX9_in := goodIn_r _ [7] (by decide +kernel) (by decide +kernel)
set_option maxRecDepth 20000 in
theorem gX9_restore_X9_in : GoodIn wsX9_restore (va_wsS RX9 41 yX9_in wsX9_in) := goodIn_app (goodIn_of _ (by decide +kernel)) ggX9_restore_X9_in
set_option maxRecDepth 20000 in
theorem ggX9_restore_X9_records : GoodIn wsX9_restore wsX9_records := goodIn_r _ [11, 12, 13, 3, 14, 15, 6, 16, 17, 18, 19, 20, 21, 22, 23, 24, 25, 26, 27, 28, 29, 30, 31, 32, 33] (by decide +kernel) (by decide +kernel)
set_option maxRecDepth 20000 in
theorem gX9_restore_X9_records : GoodIn wsX9_restore (wsV RX9 57 RX9 yX9_records wsX9_records) := goodIn_app (goodIn_of _ (by decide +kernel)) ggX9_restore_X9_records
set_option maxRecDepth 20000 in
theorem ggX9_restore_X9_lays : GoodIn wsX9_restore wsX9_lays := goodIn_r _ [16] (by decide +kernel) (by decide +kernel)
set_option maxRecDepth 20000 in
theorem gX9_restore_X9_lays : GoodIn wsX9_restore (va_wsS RX9 53 yX9_lays wsX9_lays) := goodIn_app (goodIn_of _ (by decide +kernel)) ggX9_restore_X9_lays
set_option maxRecDepth 20000 in
theorem ggX9_present_X9_isOf : GoodIn wsX9_present wsX9_isOf := goodIn_r _ [6, 1, 7, 8, 9, 10, 11, 12, 13, 14, 15, 16, 17, 18, 19, 20, 21, 22, 23] (by decide +kernel) (by decide +kernel)
set_option maxRecDepth 20000 in
theorem gX9_present_X9_isOf : GoodIn wsX9_present (wsV RX9 60 RX9 yX9_isOf wsX9_isOf) := goodIn_app (goodIn_of _ (by decide +kernel)) ggX9_present_X9_isOf
set_option maxRecDepth 20000 in
theorem ggX9_isOrphan_X9_isReply : GoodIn wsX9_isOrphan wsX9_isReply := goodIn_r _ [5, 6, 7, 8, 4, 9, 10, 19, 20, 21, 22, 23, 24, 25, 26, 27, 28, 29, 30, 31, 32, 33, 34, 35] (by decide +kernel) (by decide +kernel)
set_option maxRecDepth 20000 in
theorem gX9_isOrphan_X9_isReply : GoodIn wsX9_isOrphan (wsV RX9 64 RX9 yX9_isReply wsX9_isReply) := goodIn_app (goodIn_of _ (by decide +kernel)) ggX9_isOrphan_X9_isReply
set_option maxRecDepth 20000 in
theorem ggX9_isOrphan_X9_present : GoodIn wsX9_isOrphan wsX9_present := goodIn_r _ [14, 10, 15, 16, 17, 4, 18, 19, 20, 21, 22, 23, 24, 25, 26, 27, 28, 29, 30, 31, 32, 33, 34, 35] (by decide +kernel) (by decide +kernel)
set_option maxRecDepth 20000 in
theorem gX9_isOrphan_X9_present : GoodIn wsX9_isOrphan (wsV RX9 68 RX9 yX9_present wsX9_present) := goodIn_app (goodIn_of _ (by decide +kernel)) ggX9_isOrphan_X9_present
set_option maxRecDepth 20000 in
theorem ggX9_finds_X9_isOf : GoodIn wsX9_finds wsX9_isOf := goodIn_r _ [9, 4, 10, 11, 12, 13, 14, 15, 16, 17, 18, 19, 20, 21, 22, 23, 24, 25, 26] (by decide +kernel) (by decide +kernel)
set_option maxRecDepth 20000 in
theorem gX9_finds_X9_isOf : GoodIn wsX9_finds (wsV RX9 60 RX9 yX9_isOf wsX9_isOf) := goodIn_app (goodIn_of _ (by decide +kernel)) ggX9_finds_X9_isOf
set_option maxRecDepth 20000 in
theorem ggX9_torn_X9_finds : GoodIn wsX9_torn wsX9_finds := goodIn_r _ [7, 2, 8, 9, 1, 10, 11, 12, 6, 13, 14, 15, 16, 17, 18, 19, 20, 21, 22, 23, 24, 25, 26, 27, 28, 29, 30] (by decide +kernel) (by decide +kernel)
set_option maxRecDepth 20000 in
theorem gX9_torn_X9_finds : GoodIn wsX9_torn (wsV RX9 81 RX9 yX9_finds wsX9_finds) := goodIn_app (goodIn_of _ (by decide +kernel)) ggX9_torn_X9_finds
set_option maxRecDepth 20000 in
theorem ggX9_orphans_X9_isOrphan : GoodIn wsX9_orphans wsX9_isOrphan := goodIn_r _ [6, 7, 8, 9, 5, 10, 11, 12, 13, 14, 1, 15, 16, 17, 18, 19, 20, 21, 22, 23, 24, 25, 26, 27, 28, 29, 30, 31, 32, 33, 34, 35, 36, 37, 38, 39] (by decide +kernel) (by decide +kernel)
set_option maxRecDepth 20000 in
theorem gX9_orphans_X9_isOrphan : GoodIn wsX9_orphans (wsV RX9 85 RX9 yX9_isOrphan wsX9_isOrphan) := goodIn_app (goodIn_of _ (by decide +kernel)) ggX9_orphans_X9_isOrphan
set_option maxRecDepth 20000 in
theorem ggX9_rootOf_X9_isReply : GoodIn wsX9_rootOf wsX9_isReply := goodIn_r _ [5, 6, 7, 8, 4, 9, 10, 11, 12, 13, 14, 15, 16, 17, 18, 19, 20, 21, 22, 23, 24, 25, 26, 27] (by decide +kernel) (by decide +kernel)
set_option maxRecDepth 20000 in
theorem gX9_rootOf_X9_isReply : GoodIn wsX9_rootOf (wsV RX9 64 RX9 yX9_isReply wsX9_isReply) := goodIn_app (goodIn_of _ (by decide +kernel)) ggX9_rootOf_X9_isReply
set_option maxRecDepth 20000 in
theorem ggX9_rootOf_X9_of0 : GoodIn wsX9_rootOf wsX9_of0 := goodIn_r _ [9, 10, 11, 12, 13, 14, 15, 16, 17, 18, 19, 20, 21, 22, 23, 24, 25, 26, 27] (by decide +kernel) (by decide +kernel)
set_option maxRecDepth 20000 in
theorem gX9_rootOf_X9_of0 : GoodIn wsX9_rootOf (wsV RX9 45 RX9 yX9_of0 wsX9_of0) := goodIn_app (goodIn_of _ (by decide +kernel)) ggX9_rootOf_X9_of0
set_option maxRecDepth 20000 in
theorem ggX9_isBelow_X9_isReply : GoodIn wsX9_isBelow wsX9_isReply := goodIn_r _ [5, 6, 7, 8, 4, 9, 10, 11, 12, 13, 14, 15, 16, 17, 18, 19, 20, 21, 22, 23, 24, 25, 26, 27] (by decide +kernel) (by decide +kernel)
set_option maxRecDepth 20000 in
theorem gX9_isBelow_X9_isReply : GoodIn wsX9_isBelow (wsV RX9 64 RX9 yX9_isReply wsX9_isReply) := goodIn_app (goodIn_of _ (by decide +kernel)) ggX9_isBelow_X9_isReply
set_option maxRecDepth 20000 in
theorem ggX9_isBelow_X9_of0 : GoodIn wsX9_isBelow wsX9_of0 := goodIn_r _ [9, 10, 11, 12, 13, 14, 15, 16, 17, 18, 19, 20, 21, 22, 23, 24, 25, 26, 27] (by decide +kernel) (by decide +kernel)
set_option maxRecDepth 20000 in
theorem gX9_isBelow_X9_of0 : GoodIn wsX9_isBelow (wsV RX9 45 RX9 yX9_of0 wsX9_of0) := goodIn_app (goodIn_of _ (by decide +kernel)) ggX9_isBelow_X9_of0
set_option maxRecDepth 20000 in
theorem ggX9_below_X9_isBelow : GoodIn wsX9_below wsX9_isBelow := goodIn_r _ [6, 7, 8, 9, 5, 10, 11, 12, 13, 14, 1, 15, 16, 17, 18, 19, 20, 21, 22, 23, 24, 25, 26, 27, 28, 29, 30, 31] (by decide +kernel) (by decide +kernel)
set_option maxRecDepth 20000 in
theorem gX9_below_X9_isBelow : GoodIn wsX9_below (wsV RX9 88 RX9 yX9_isBelow wsX9_isBelow) := goodIn_app (goodIn_of _ (by decide +kernel)) ggX9_below_X9_isBelow
set_option maxRecDepth 20000 in
theorem ggX9_isFor_X9_in : GoodIn wsX9_isFor wsX9_in := goodIn_r _ [4] (by decide +kernel) (by decide +kernel)
set_option maxRecDepth 20000 in
theorem gX9_isFor_X9_in : GoodIn wsX9_isFor (va_wsS RX9 41 yX9_in wsX9_in) := goodIn_app (goodIn_of _ (by decide +kernel)) ggX9_isFor_X9_in
set_option maxRecDepth 20000 in
theorem ggX9_set_X9_in : GoodIn wsX9_set wsX9_in := goodIn_r _ [5] (by decide +kernel) (by decide +kernel)
set_option maxRecDepth 20000 in
theorem gX9_set_X9_in : GoodIn wsX9_set (va_wsS RX9 41 yX9_in wsX9_in) := goodIn_app (goodIn_of _ (by decide +kernel)) ggX9_set_X9_in
set_option maxRecDepth 20000 in
theorem ggX9_set_X9_isFor : GoodIn wsX9_set wsX9_isFor := goodIn_r _ [8, 2, 3, 4, 5] (by decide +kernel) (by decide +kernel)
set_option maxRecDepth 20000 in
theorem gX9_set_X9_isFor : GoodIn wsX9_set (va_wsS RX9 91 yX9_isFor wsX9_isFor) := goodIn_app (goodIn_of _ (by decide +kernel)) ggX9_set_X9_isFor
set_option maxRecDepth 20000 in
theorem ggX9_set_X9_records : GoodIn wsX9_set wsX9_records := goodIn_r _ [12, 13, 14, 1, 15, 16, 4, 17, 18, 19, 20, 21, 22, 23, 24, 25, 26, 27, 28, 29, 30, 31, 32, 33, 34] (by decide +kernel) (by decide +kernel)
set_option maxRecDepth 20000 in
theorem gX9_set_X9_records : GoodIn wsX9_set (wsV RX9 57 RX9 yX9_records wsX9_records) := goodIn_app (goodIn_of _ (by decide +kernel)) ggX9_set_X9_records
set_option maxRecDepth 20000 in
theorem ggX9_mayWrite_X9_in : GoodIn wsX9_mayWrite wsX9_in := goodIn_r _ [5] (by decide +kernel) (by decide +kernel)
set_option maxRecDepth 20000 in
theorem gX9_mayWrite_X9_in : GoodIn wsX9_mayWrite (va_wsS RX9 41 yX9_in wsX9_in) := goodIn_app (goodIn_of _ (by decide +kernel)) ggX9_mayWrite_X9_in
set_option maxRecDepth 20000 in
theorem ggX9_write_X9_mayWrite : GoodIn wsX9_write wsX9_mayWrite := goodIn_r _ [6, 1, 7, 8, 5, 9, 23, 24, 25, 26, 27, 28, 29, 30, 31, 32, 33, 34, 35, 36, 37, 38, 39] (by decide +kernel) (by decide +kernel)
set_option maxRecDepth 20000 in
theorem gX9_write_X9_mayWrite : GoodIn wsX9_write (wsV RX9 94 RX9 yX9_mayWrite wsX9_mayWrite) := goodIn_app (goodIn_of _ (by decide +kernel)) ggX9_write_X9_mayWrite
set_option maxRecDepth 20000 in
theorem ggX9_write_X9_records : GoodIn wsX9_write wsX9_records := goodIn_r _ [13, 14, 15, 1, 16, 17, 5, 18, 23, 24, 25, 26, 27, 28, 29, 30, 31, 32, 33, 34, 35, 36, 37, 38, 39] (by decide +kernel) (by decide +kernel)
set_option maxRecDepth 20000 in
theorem gX9_write_X9_records : GoodIn wsX9_write (wsV RX9 57 RX9 yX9_records wsX9_records) := goodIn_app (goodIn_of _ (by decide +kernel)) ggX9_write_X9_records
set_option maxRecDepth 20000 in
theorem ggX9_write_X9_comes : GoodIn wsX9_write wsX9_comes := goodIn_r _ [22, 1, 23, 24, 25, 26, 27, 28, 29, 30, 31, 32, 33, 34, 35, 36, 37, 38, 39] (by decide +kernel) (by decide +kernel)
set_option maxRecDepth 20000 in
theorem gX9_write_X9_comes : GoodIn wsX9_write (wsV RX9 97 RX9 yX9_comes wsX9_comes) := goodIn_app (goodIn_of _ (by decide +kernel)) ggX9_write_X9_comes
set_option maxRecDepth 20000 in
theorem ggX9_maySpan_X9_isPlace : GoodIn wsX9_maySpan wsX9_isPlace := goodIn_r _ [5, 6, 7, 8, 4, 9, 10, 11, 12, 13, 14, 15, 16, 17, 18, 19, 20, 21, 22, 23, 24, 25, 26] (by decide +kernel) (by decide +kernel)
set_option maxRecDepth 20000 in
theorem gX9_maySpan_X9_isPlace : GoodIn wsX9_maySpan (wsV RX9 101 RX9 yX9_isPlace wsX9_isPlace) := goodIn_app (goodIn_of _ (by decide +kernel)) ggX9_maySpan_X9_isPlace
set_option maxRecDepth 20000 in
theorem ggX9_erases_X9_orphans : GoodIn wsX9_erases wsX9_orphans := goodIn_r _ [5, 6, 7, 8, 9, 4, 10, 11, 12, 13, 14, 15, 16, 17, 18, 19, 20, 21, 22, 23, 24, 25, 26, 31, 32, 33, 34, 35, 36, 37, 38, 39, 40, 41, 42, 43, 44, 45, 46, 47] (by decide +kernel) (by decide +kernel)
set_option maxRecDepth 20000 in
theorem gX9_erases_X9_orphans : GoodIn wsX9_erases (wsV RX9 104 RX9 yX9_orphans wsX9_orphans) := goodIn_app (goodIn_of _ (by decide +kernel)) ggX9_erases_X9_orphans
set_option maxRecDepth 20000 in
theorem ggX9_erases_X9_goes : GoodIn wsX9_erases wsX9_goes := goodIn_r _ [30, 6, 31, 32, 33, 34, 35, 36, 37, 38, 39, 40, 41, 42, 43, 44, 45, 46, 47] (by decide +kernel) (by decide +kernel)
set_option maxRecDepth 20000 in
theorem gX9_erases_X9_goes : GoodIn wsX9_erases (wsV RX9 108 RX9 yX9_goes wsX9_goes) := goodIn_app (goodIn_of _ (by decide +kernel)) ggX9_erases_X9_goes
set_option maxRecDepth 20000 in
theorem ggX9_erase_X9_maySpan : GoodIn wsX9_erase wsX9_maySpan := goodIn_r _ [5, 6, 7, 8, 4, 9, 10, 11, 12, 13, 55, 56, 57, 58, 59, 60, 61, 62, 63, 64, 65, 66, 67, 68, 69, 70, 71] (by decide +kernel) (by decide +kernel)
set_option maxRecDepth 20000 in
theorem gX9_erase_X9_maySpan : GoodIn wsX9_erase (wsV RX9 112 RX9 yX9_maySpan wsX9_maySpan) := goodIn_app (goodIn_of _ (by decide +kernel)) ggX9_erase_X9_maySpan
set_option maxRecDepth 20000 in
theorem ggX9_erase_X9_records : GoodIn wsX9_erase wsX9_records := goodIn_r _ [17, 18, 19, 10, 20, 21, 4, 22, 55, 56, 57, 58, 59, 60, 61, 62, 63, 64, 65, 66, 67, 68, 69, 70, 71] (by decide +kernel) (by decide +kernel)
set_option maxRecDepth 20000 in
theorem gX9_erase_X9_records : GoodIn wsX9_erase (wsV RX9 57 RX9 yX9_records wsX9_records) := goodIn_app (goodIn_of _ (by decide +kernel)) ggX9_erase_X9_records
set_option maxRecDepth 20000 in
theorem ggX9_erase_X9_erases : GoodIn wsX9_erase wsX9_erases := goodIn_r _ [26, 27, 28, 29, 4, 30, 10, 31, 32, 33, 34, 35, 36, 37, 38, 39, 40, 41, 42, 43, 44, 45, 46, 47, 48, 49, 50, 51, 52, 53, 54, 55, 56, 57, 58, 59, 60, 61, 62, 63, 64, 65, 66, 67, 68, 69, 70, 71] (by decide +kernel) (by decide +kernel)
set_option maxRecDepth 20000 in
theorem gX9_erase_X9_erases : GoodIn wsX9_erase (wsV RX9 115 RX9 yX9_erases wsX9_erases) := goodIn_app (goodIn_of _ (by decide +kernel)) ggX9_erase_X9_erases
set_option maxRecDepth 20000 in
theorem ggX9_mayMove_X9_maySpan : GoodIn wsX9_mayMove wsX9_maySpan := goodIn_r _ [6, 7, 8, 9, 5, 10, 1, 11, 12, 13, 14, 15, 16, 17, 18, 19, 20, 21, 22, 23, 24, 25, 26, 27, 28, 29, 30] (by decide +kernel) (by decide +kernel)
set_option maxRecDepth 20000 in
theorem gX9_mayMove_X9_maySpan : GoodIn wsX9_mayMove (wsV RX9 112 RX9 yX9_maySpan wsX9_maySpan) := goodIn_app (goodIn_of _ (by decide +kernel)) ggX9_mayMove_X9_maySpan
set_option maxRecDepth 20000 in
theorem ggX9_mayMove_X9_in : GoodIn wsX9_mayMove wsX9_in := goodIn_r _ [13] (by decide +kernel) (by decide +kernel)
set_option maxRecDepth 20000 in
theorem gX9_mayMove_X9_in : GoodIn wsX9_mayMove (va_wsS RX9 41 yX9_in wsX9_in) := goodIn_app (goodIn_of _ (by decide +kernel)) ggX9_mayMove_X9_in
set_option maxRecDepth 20000 in
theorem ggX9_moves_X9_goes : GoodIn wsX9_moves wsX9_goes := goodIn_r _ [7, 2, 12, 13, 14, 15, 16, 17, 18, 19, 20, 21, 22, 23, 24, 25, 26, 27, 28] (by decide +kernel) (by decide +kernel)
set_option maxRecDepth 20000 in
theorem gX9_moves_X9_goes : GoodIn wsX9_moves (wsV RX9 108 RX9 yX9_goes wsX9_goes) := goodIn_app (goodIn_of _ (by decide +kernel)) ggX9_moves_X9_goes
set_option maxRecDepth 20000 in
theorem ggX9_moves_X9_comes : GoodIn wsX9_moves wsX9_comes := goodIn_r _ [11, 2, 12, 13, 14, 15, 16, 17, 18, 19, 20, 21, 22, 23, 24, 25, 26, 27, 28] (by decide +kernel) (by decide +kernel)
set_option maxRecDepth 20000 in
theorem gX9_moves_X9_comes : GoodIn wsX9_moves (wsV RX9 97 RX9 yX9_comes wsX9_comes) := goodIn_app (goodIn_of _ (by decide +kernel)) ggX9_moves_X9_comes
set_option maxRecDepth 20000 in
theorem ggX9_move_X9_mayMove : GoodIn wsX9_move wsX9_mayMove := goodIn_r _ [5, 6, 7, 8, 9, 4, 10, 11, 12, 13, 14, 15, 16, 17, 55, 56, 57, 58, 59, 60, 61, 62, 63, 64, 65, 66, 67, 68, 69, 70, 71] (by decide +kernel) (by decide +kernel)
set_option maxRecDepth 20000 in
theorem gX9_move_X9_mayMove : GoodIn wsX9_move (wsV RX9 118 RX9 yX9_mayMove wsX9_mayMove) := goodIn_app (goodIn_of _ (by decide +kernel)) ggX9_move_X9_mayMove
set_option maxRecDepth 20000 in
theorem ggX9_move_X9_records : GoodIn wsX9_move wsX9_records := goodIn_r _ [21, 22, 23, 6, 24, 25, 4, 26, 55, 56, 57, 58, 59, 60, 61, 62, 63, 64, 65, 66, 67, 68, 69, 70, 71] (by decide +kernel) (by decide +kernel)
set_option maxRecDepth 20000 in
theorem gX9_move_X9_records : GoodIn wsX9_move (wsV RX9 57 RX9 yX9_records wsX9_records) := goodIn_app (goodIn_of _ (by decide +kernel)) ggX9_move_X9_records
set_option maxRecDepth 20000 in
theorem ggX9_move_X9_moves : GoodIn wsX9_move wsX9_moves := goodIn_r _ [30, 31, 6, 32, 33, 34, 4, 35, 36, 37, 38, 39, 55, 56, 57, 58, 59, 60, 61, 62, 63, 64, 65, 66, 67, 68, 69, 70, 71] (by decide +kernel) (by decide +kernel)
set_option maxRecDepth 20000 in
theorem gX9_move_X9_moves : GoodIn wsX9_move (wsV RX9 122 RX9 yX9_moves wsX9_moves) := goodIn_app (goodIn_of _ (by decide +kernel)) ggX9_move_X9_moves
set_option maxRecDepth 20000 in
theorem ggX9_move_X9_torn : GoodIn wsX9_move wsX9_torn := goodIn_r _ [43, 6, 44, 45, 46, 47, 4, 48, 49, 50, 51, 52, 53, 54, 55, 56, 57, 58, 59, 60, 61, 62, 63, 64, 65, 66, 67, 68, 69, 70, 71] (by decide +kernel) (by decide +kernel)
set_option maxRecDepth 20000 in
theorem gX9_move_X9_torn : GoodIn wsX9_move (wsV RX9 125 RX9 yX9_torn wsX9_torn) := goodIn_app (goodIn_of _ (by decide +kernel)) ggX9_move_X9_torn
set_option maxRecDepth 20000 in
theorem ggX9_mayNote_X9_maySpan : GoodIn wsX9_mayNote wsX9_maySpan := goodIn_r _ [6, 7, 8, 9, 5, 10, 1, 11, 12, 13, 14, 15, 16, 17, 18, 19, 20, 21, 22, 23, 24, 25, 26, 27, 28, 29, 30] (by decide +kernel) (by decide +kernel)
set_option maxRecDepth 20000 in
theorem gX9_mayNote_X9_maySpan : GoodIn wsX9_mayNote (wsV RX9 112 RX9 yX9_maySpan wsX9_maySpan) := goodIn_app (goodIn_of _ (by decide +kernel)) ggX9_mayNote_X9_maySpan
set_option maxRecDepth 20000 in
theorem ggX9_takes_X9_remembers : GoodIn wsX9_takes wsX9_remembers := goodIn_r _ [6, 1, 7, 8, 9, 10, 11, 12, 13, 14, 15, 16, 17, 18, 19, 20, 21, 22, 23] (by decide +kernel) (by decide +kernel)
set_option maxRecDepth 20000 in
theorem gX9_takes_X9_remembers : GoodIn wsX9_takes (wsV RX9 128 RX9 yX9_remembers wsX9_remembers) := goodIn_app (goodIn_of _ (by decide +kernel)) ggX9_takes_X9_remembers
set_option maxRecDepth 20000 in
theorem ggX9_notes_X9_takes : GoodIn wsX9_notes wsX9_takes := goodIn_r _ [6, 1, 7, 8, 9, 5, 10, 11, 12, 13, 14, 15, 16, 17, 18, 19, 20, 21, 22, 23, 24, 25, 26, 27] (by decide +kernel) (by decide +kernel)
set_option maxRecDepth 20000 in
theorem gX9_notes_X9_takes : GoodIn wsX9_notes (wsV RX9 131 RX9 yX9_takes wsX9_takes) := goodIn_app (goodIn_of _ (by decide +kernel)) ggX9_notes_X9_takes
set_option maxRecDepth 20000 in
theorem ggX9_note_X9_mayNote : GoodIn wsX9_note wsX9_mayNote := goodIn_r _ [5, 6, 7, 8, 9, 4, 10, 11, 12, 13, 14, 15, 16, 17, 39, 40, 41, 42, 43, 44, 45, 46, 47, 48, 49, 50, 51, 52, 53, 54, 55] (by decide +kernel) (by decide +kernel)
set_option maxRecDepth 20000 in
theorem gX9_note_X9_mayNote : GoodIn wsX9_note (wsV RX9 134 RX9 yX9_mayNote wsX9_mayNote) := goodIn_app (goodIn_of _ (by decide +kernel)) ggX9_note_X9_mayNote
set_option maxRecDepth 20000 in
theorem ggX9_note_X9_records : GoodIn wsX9_note wsX9_records := goodIn_r _ [21, 22, 23, 6, 24, 25, 4, 26, 39, 40, 41, 42, 43, 44, 45, 46, 47, 48, 49, 50, 51, 52, 53, 54, 55] (by decide +kernel) (by decide +kernel)
set_option maxRecDepth 20000 in
theorem gX9_note_X9_records : GoodIn wsX9_note (wsV RX9 57 RX9 yX9_records wsX9_records) := goodIn_app (goodIn_of _ (by decide +kernel)) ggX9_note_X9_records
set_option maxRecDepth 20000 in
theorem ggX9_note_X9_notes : GoodIn wsX9_note wsX9_notes := goodIn_r _ [30, 6, 31, 32, 33, 4, 34, 35, 36, 37, 38, 39, 40, 41, 42, 43, 44, 45, 46, 47, 48, 49, 50, 51, 52, 53, 54, 55] (by decide +kernel) (by decide +kernel)
set_option maxRecDepth 20000 in
theorem gX9_note_X9_notes : GoodIn wsX9_note (wsV RX9 137 RX9 yX9_notes wsX9_notes) := goodIn_app (goodIn_of _ (by decide +kernel)) ggX9_note_X9_notes
set_option maxRecDepth 20000 in
theorem ggX9_mayReply_X9_isNote : GoodIn wsX9_mayReply wsX9_isNote := goodIn_r _ [6, 1, 7, 8, 5, 9, 10, 11, 12, 13, 14, 15, 16, 17, 18, 19, 20, 21, 22, 23, 24, 25, 26] (by decide +kernel) (by decide +kernel)
set_option maxRecDepth 20000 in
theorem gX9_mayReply_X9_isNote : GoodIn wsX9_mayReply (wsV RX9 140 RX9 yX9_isNote wsX9_isNote) := goodIn_app (goodIn_of _ (by decide +kernel)) ggX9_mayReply_X9_isNote
set_option maxRecDepth 20000 in
theorem ggX9_reply_X9_mayReply : GoodIn wsX9_reply wsX9_mayReply := goodIn_r _ [5, 6, 7, 8, 9, 4, 10, 11, 12, 13, 27, 28, 29, 30, 31, 32, 33, 34, 35, 36, 37, 38, 39, 40, 41, 42, 43] (by decide +kernel) (by decide +kernel)
set_option maxRecDepth 20000 in
theorem gX9_reply_X9_mayReply : GoodIn wsX9_reply (wsV RX9 143 RX9 yX9_mayReply wsX9_mayReply) := goodIn_app (goodIn_of _ (by decide +kernel)) ggX9_reply_X9_mayReply
set_option maxRecDepth 20000 in
theorem ggX9_reply_X9_records : GoodIn wsX9_reply wsX9_records := goodIn_r _ [17, 18, 19, 6, 20, 21, 4, 22, 27, 28, 29, 30, 31, 32, 33, 34, 35, 36, 37, 38, 39, 40, 41, 42, 43] (by decide +kernel) (by decide +kernel)
set_option maxRecDepth 20000 in
theorem gX9_reply_X9_records : GoodIn wsX9_reply (wsV RX9 57 RX9 yX9_records wsX9_records) := goodIn_app (goodIn_of _ (by decide +kernel)) ggX9_reply_X9_records
set_option maxRecDepth 20000 in
theorem ggX9_reply_X9_replies : GoodIn wsX9_reply wsX9_replies := goodIn_r _ [26, 6, 27, 28, 29, 30, 31, 32, 33, 34, 35, 36, 37, 38, 39, 40, 41, 42, 43] (by decide +kernel) (by decide +kernel)
set_option maxRecDepth 20000 in
theorem gX9_reply_X9_replies : GoodIn wsX9_reply (wsV RX9 146 RX9 yX9_replies wsX9_replies) := goodIn_app (goodIn_of _ (by decide +kernel)) ggX9_reply_X9_replies
set_option maxRecDepth 20000 in
theorem ggX9_noteGoes_X9_of0 : GoodIn wsX9_noteGoes wsX9_of0 := goodIn_r _ [6, 1, 7, 8, 9, 10, 11, 12, 13, 14, 15, 16, 17, 18, 19, 20, 21, 22, 23] (by decide +kernel) (by decide +kernel)
set_option maxRecDepth 20000 in
theorem gX9_noteGoes_X9_of0 : GoodIn wsX9_noteGoes (wsV RX9 45 RX9 yX9_of0 wsX9_of0) := goodIn_app (goodIn_of _ (by decide +kernel)) ggX9_noteGoes_X9_of0
set_option maxRecDepth 20000 in
theorem ggX9_drops_X9_isBelow : GoodIn wsX9_drops wsX9_isBelow := goodIn_r _ [6, 7, 8, 9, 5, 10, 11, 12, 13, 14, 1, 19, 20, 21, 22, 23, 24, 25, 26, 27, 28, 29, 30, 31, 32, 33, 34, 35] (by decide +kernel) (by decide +kernel)
set_option maxRecDepth 20000 in
theorem gX9_drops_X9_isBelow : GoodIn wsX9_drops (wsV RX9 88 RX9 yX9_isBelow wsX9_isBelow) := goodIn_app (goodIn_of _ (by decide +kernel)) ggX9_drops_X9_isBelow
set_option maxRecDepth 20000 in
theorem ggX9_drops_X9_noteGoes : GoodIn wsX9_drops wsX9_noteGoes := goodIn_r _ [18, 1, 11, 12, 13, 5, 14, 19, 20, 21, 22, 23, 24, 25, 26, 27, 28, 29, 30, 31, 32, 33, 34, 35] (by decide +kernel) (by decide +kernel)
set_option maxRecDepth 20000 in
theorem gX9_drops_X9_noteGoes : GoodIn wsX9_drops (wsV RX9 149 RX9 yX9_noteGoes wsX9_noteGoes) := goodIn_app (goodIn_of _ (by decide +kernel)) ggX9_drops_X9_noteGoes
set_option maxRecDepth 20000 in
theorem ggX9_drop_X9_isNote : GoodIn wsX9_drop wsX9_isNote := goodIn_r _ [5, 6, 7, 8, 4, 9, 39, 40, 41, 42, 43, 44, 45, 46, 47, 48, 49, 50, 51, 52, 53, 54, 55] (by decide +kernel) (by decide +kernel)
set_option maxRecDepth 20000 in
theorem gX9_drop_X9_isNote : GoodIn wsX9_drop (wsV RX9 140 RX9 yX9_isNote wsX9_isNote) := goodIn_app (goodIn_of _ (by decide +kernel)) ggX9_drop_X9_isNote
set_option maxRecDepth 20000 in
theorem ggX9_drop_X9_records : GoodIn wsX9_drop wsX9_records := goodIn_r _ [13, 14, 15, 6, 16, 17, 4, 18, 39, 40, 41, 42, 43, 44, 45, 46, 47, 48, 49, 50, 51, 52, 53, 54, 55] (by decide +kernel) (by decide +kernel)
set_option maxRecDepth 20000 in
theorem gX9_drop_X9_records : GoodIn wsX9_drop (wsV RX9 57 RX9 yX9_records wsX9_records) := goodIn_app (goodIn_of _ (by decide +kernel)) ggX9_drop_X9_records
set_option maxRecDepth 20000 in
theorem ggX9_drop_X9_drops : GoodIn wsX9_drop wsX9_drops := goodIn_r _ [22, 6, 23, 24, 25, 4, 26, 27, 28, 29, 30, 31, 32, 33, 34, 35, 36, 37, 38, 39, 40, 41, 42, 43, 44, 45, 46, 47, 48, 49, 50, 51, 52, 53, 54, 55] (by decide +kernel) (by decide +kernel)
set_option maxRecDepth 20000 in
theorem gX9_drop_X9_drops : GoodIn wsX9_drop (wsV RX9 152 RX9 yX9_drops wsX9_drops) := goodIn_app (goodIn_of _ (by decide +kernel)) ggX9_drop_X9_drops
set_option maxRecDepth 20000 in
theorem ggX9_looksLike_X9_of0 : GoodIn wsX9_looksLike wsX9_of0 := goodIn_r _ [6, 1, 7, 8, 9, 10, 11, 12, 13, 14, 15, 16, 17, 18, 19, 20, 21, 22, 23] (by decide +kernel) (by decide +kernel)
set_option maxRecDepth 20000 in
theorem gX9_looksLike_X9_of0 : GoodIn wsX9_looksLike (wsV RX9 45 RX9 yX9_of0 wsX9_of0) := goodIn_app (goodIn_of _ (by decide +kernel)) ggX9_looksLike_X9_of0
set_option maxRecDepth 20000 in
theorem ggX9_likeness_X9_of0 : GoodIn wsX9_likeness wsX9_of0 := goodIn_r _ [6, 1, 7, 8, 9, 10, 11, 12, 13, 14, 15, 16, 17, 18, 19, 20, 21, 22, 23] (by decide +kernel) (by decide +kernel)
set_option maxRecDepth 20000 in
theorem gX9_likeness_X9_of0 : GoodIn wsX9_likeness (wsV RX9 45 RX9 yX9_of0 wsX9_of0) := goodIn_app (goodIn_of _ (by decide +kernel)) ggX9_likeness_X9_of0
set_option maxRecDepth 20000 in
theorem ggX9_possible_X9_looksLike : GoodIn wsX9_possible wsX9_looksLike := goodIn_r _ [6, 1, 7, 8, 9, 5, 10, 15, 16, 17, 18, 19, 20, 21, 22, 23, 24, 25, 26, 27, 28, 29, 30, 31] (by decide +kernel) (by decide +kernel)
set_option maxRecDepth 20000 in
theorem gX9_possible_X9_looksLike : GoodIn wsX9_possible (wsV RX9 155 RX9 yX9_looksLike wsX9_looksLike) := goodIn_app (goodIn_of _ (by decide +kernel)) ggX9_possible_X9_looksLike
set_option maxRecDepth 20000 in
theorem ggX9_possible_X9_likeness : GoodIn wsX9_possible wsX9_likeness := goodIn_r _ [14, 1, 7, 8, 9, 5, 10, 15, 16, 17, 18, 19, 20, 21, 22, 23, 24, 25, 26, 27, 28, 29, 30, 31] (by decide +kernel) (by decide +kernel)
set_option maxRecDepth 20000 in
theorem gX9_possible_X9_likeness : GoodIn wsX9_possible (wsV RX9 158 RX9 yX9_likeness wsX9_likeness) := goodIn_app (goodIn_of _ (by decide +kernel)) ggX9_possible_X9_likeness
set_option maxRecDepth 20000 in
theorem ggX9_mayReclaim_X9_isNote : GoodIn wsX9_mayReclaim wsX9_isNote := goodIn_r _ [5, 6, 7, 8, 4, 9, 42, 43, 44, 45, 46, 47, 48, 49, 50, 51, 52, 53, 54, 55, 56, 57, 58] (by decide +kernel) (by decide +kernel)
set_option maxRecDepth 20000 in
theorem gX9_mayReclaim_X9_isNote : GoodIn wsX9_mayReclaim (wsV RX9 140 RX9 yX9_isNote wsX9_isNote) := goodIn_app (goodIn_of _ (by decide +kernel)) ggX9_mayReclaim_X9_isNote
set_option maxRecDepth 20000 in
theorem ggX9_mayReclaim_X9_isOrphan : GoodIn wsX9_mayReclaim wsX9_isOrphan := goodIn_r _ [13, 14, 15, 16, 4, 17, 18, 19, 20, 21, 6, 22, 23, 24, 25, 26, 27, 28, 29, 42, 43, 44, 45, 46, 47, 48, 49, 50, 51, 52, 53, 54, 55, 56, 57, 58] (by decide +kernel) (by decide +kernel)
set_option maxRecDepth 20000 in
theorem gX9_mayReclaim_X9_isOrphan : GoodIn wsX9_mayReclaim (wsV RX9 85 RX9 yX9_isOrphan wsX9_isOrphan) := goodIn_app (goodIn_of _ (by decide +kernel)) ggX9_mayReclaim_X9_isOrphan
set_option maxRecDepth 20000 in
theorem ggX9_mayReclaim_X9_possible : GoodIn wsX9_mayReclaim wsX9_possible := goodIn_r _ [33, 6, 34, 35, 36, 4, 37, 18, 19, 20, 21, 38, 39, 40, 41, 42, 43, 44, 45, 46, 47, 48, 49, 50, 51, 52, 53, 54, 55, 56, 57, 58] (by decide +kernel) (by decide +kernel)
set_option maxRecDepth 20000 in
theorem gX9_mayReclaim_X9_possible : GoodIn wsX9_mayReclaim (wsV RX9 161 RX9 yX9_possible wsX9_possible) := goodIn_app (goodIn_of _ (by decide +kernel)) ggX9_mayReclaim_X9_possible
set_option maxRecDepth 20000 in
theorem ggX9_reclaims_X9_possible : GoodIn wsX9_reclaims wsX9_possible := goodIn_r _ [5, 6, 7, 8, 9, 4, 10, 11, 12, 13, 14, 15, 16, 17, 18, 27, 28, 29, 30, 31, 32, 33, 34, 35, 36, 37, 38, 39, 40, 41, 42, 43] (by decide +kernel) (by decide +kernel)
set_option maxRecDepth 20000 in
theorem gX9_reclaims_X9_possible : GoodIn wsX9_reclaims (wsV RX9 161 RX9 yX9_possible wsX9_possible) := goodIn_app (goodIn_of _ (by decide +kernel)) ggX9_reclaims_X9_possible
set_option maxRecDepth 20000 in
theorem ggX9_reclaims_X9_of0 : GoodIn wsX9_reclaims wsX9_of0 := goodIn_r _ [14, 6, 27, 28, 29, 30, 31, 32, 33, 34, 35, 36, 37, 38, 39, 40, 41, 42, 43] (by decide +kernel) (by decide +kernel)
set_option maxRecDepth 20000 in
theorem gX9_reclaims_X9_of0 : GoodIn wsX9_reclaims (wsV RX9 45 RX9 yX9_of0 wsX9_of0) := goodIn_app (goodIn_of _ (by decide +kernel)) ggX9_reclaims_X9_of0
set_option maxRecDepth 20000 in
theorem ggX9_reclaims_X9_takes : GoodIn wsX9_reclaims wsX9_takes := goodIn_r _ [22, 6, 23, 24, 25, 4, 26, 27, 28, 29, 30, 31, 32, 33, 34, 35, 36, 37, 38, 39, 40, 41, 42, 43] (by decide +kernel) (by decide +kernel)
set_option maxRecDepth 20000 in
theorem gX9_reclaims_X9_takes : GoodIn wsX9_reclaims (wsV RX9 131 RX9 yX9_takes wsX9_takes) := goodIn_app (goodIn_of _ (by decide +kernel)) ggX9_reclaims_X9_takes
set_option maxRecDepth 20000 in
theorem ggX9_reclaim_X9_mayReclaim : GoodIn wsX9_reclaim wsX9_mayReclaim := goodIn_r _ [5, 6, 7, 8, 4, 9, 10, 11, 12, 13, 14, 15, 16, 17, 18, 19, 20, 21, 22, 23, 24, 25, 26, 27, 28, 29, 30, 31, 32, 33, 34, 35, 36, 37, 38, 39, 40, 41, 42, 43, 44, 45, 67, 68, 69, 70, 71, 72, 73, 74, 75, 76, 77, 78, 79, 80, 81, 82, 83] (by decide +kernel) (by decide +kernel)
set_option maxRecDepth 20000 in
theorem gX9_reclaim_X9_mayReclaim : GoodIn wsX9_reclaim (wsV RX9 164 RX9 yX9_mayReclaim wsX9_mayReclaim) := goodIn_app (goodIn_of _ (by decide +kernel)) ggX9_reclaim_X9_mayReclaim
set_option maxRecDepth 20000 in
theorem ggX9_reclaim_X9_records : GoodIn wsX9_reclaim wsX9_records := goodIn_r _ [49, 50, 51, 10, 52, 53, 4, 54, 67, 68, 69, 70, 71, 72, 73, 74, 75, 76, 77, 78, 79, 80, 81, 82, 83] (by decide +kernel) (by decide +kernel)
set_option maxRecDepth 20000 in
theorem gX9_reclaim_X9_records : GoodIn wsX9_reclaim (wsV RX9 57 RX9 yX9_records wsX9_records) := goodIn_app (goodIn_of _ (by decide +kernel)) ggX9_reclaim_X9_records
set_option maxRecDepth 20000 in
theorem ggX9_reclaim_X9_reclaims : GoodIn wsX9_reclaim wsX9_reclaims := goodIn_r _ [58, 34, 35, 36, 4, 37, 10, 38, 39, 40, 41, 22, 23, 24, 25, 42, 43, 44, 45, 59, 60, 61, 62, 63, 64, 65, 66, 67, 68, 69, 70, 71, 72, 73, 74, 75, 76, 77, 78, 79, 80, 81, 82, 83] (by decide +kernel) (by decide +kernel)
set_option maxRecDepth 20000 in
theorem gX9_reclaim_X9_reclaims : GoodIn wsX9_reclaim (wsV RX9 167 RX9 yX9_reclaims wsX9_reclaims) := goodIn_app (goodIn_of _ (by decide +kernel)) ggX9_reclaim_X9_reclaims
set_option maxRecDepth 20000 in
theorem ggX9_prints_X9_finds : GoodIn wsX9_prints wsX9_finds := goodIn_r _ [10, 11, 4, 12, 2, 13, 14, 15, 9, 16, 17, 18, 19, 20, 21, 22, 23, 24, 25, 26, 27, 28, 29, 30, 31, 32, 33] (by decide +kernel) (by decide +kernel)
set_option maxRecDepth 20000 in
theorem gX9_prints_X9_finds : GoodIn wsX9_prints (wsV RX9 81 RX9 yX9_finds wsX9_finds) := goodIn_app (goodIn_of _ (by decide +kernel)) ggX9_prints_X9_finds
set_option maxRecDepth 20000 in
theorem ggX9_letter_X9_isPlace : GoodIn wsX9_letter wsX9_isPlace := goodIn_r _ [6, 1, 7, 8, 5, 9, 10, 11, 12, 13, 14, 15, 16, 17, 18, 19, 20, 21, 22, 23, 24, 25, 26] (by decide +kernel) (by decide +kernel)
set_option maxRecDepth 20000 in
theorem gX9_letter_X9_isPlace : GoodIn wsX9_letter (wsV RX9 101 RX9 yX9_isPlace wsX9_isPlace) := goodIn_app (goodIn_of _ (by decide +kernel)) ggX9_letter_X9_isPlace
set_option maxRecDepth 20000 in
theorem ggX9_ofNote_X9_isReply : GoodIn wsX9_ofNote wsX9_isReply := goodIn_r _ [8, 9, 10, 11, 7, 12, 13, 42, 43, 44, 45, 46, 47, 48, 49, 50, 51, 52, 53, 54, 55, 56, 57, 58] (by decide +kernel) (by decide +kernel)
set_option maxRecDepth 20000 in
theorem gX9_ofNote_X9_isReply : GoodIn wsX9_ofNote (wsV RX9 64 RX9 yX9_isReply wsX9_isReply) := goodIn_app (goodIn_of _ (by decide +kernel)) ggX9_ofNote_X9_isReply
set_option maxRecDepth 20000 in
theorem ggX9_ofNote_X9_isOrphan : GoodIn wsX9_ofNote wsX9_isOrphan := goodIn_r _ [17, 4, 5, 6, 7, 8, 9, 10, 11, 12, 13, 18, 19, 20, 21, 22, 23, 24, 25, 42, 43, 44, 45, 46, 47, 48, 49, 50, 51, 52, 53, 54, 55, 56, 57, 58] (by decide +kernel) (by decide +kernel)
set_option maxRecDepth 20000 in
theorem gX9_ofNote_X9_isOrphan : GoodIn wsX9_ofNote (wsV RX9 85 RX9 yX9_isOrphan wsX9_isOrphan) := goodIn_app (goodIn_of _ (by decide +kernel)) ggX9_ofNote_X9_isOrphan
set_option maxRecDepth 20000 in
theorem ggX9_ofNote_X9_rootOf : GoodIn wsX9_ofNote wsX9_rootOf := goodIn_r _ [29, 4, 5, 6, 7, 8, 9, 10, 11, 12, 13, 42, 43, 44, 45, 46, 47, 48, 49, 50, 51, 52, 53, 54, 55, 56, 57, 58] (by decide +kernel) (by decide +kernel)
set_option maxRecDepth 20000 in
theorem gX9_ofNote_X9_rootOf : GoodIn wsX9_ofNote (wsV RX9 170 RX9 yX9_rootOf wsX9_rootOf) := goodIn_app (goodIn_of _ (by decide +kernel)) ggX9_ofNote_X9_rootOf
set_option maxRecDepth 20000 in
theorem ggX9_ofNote_X9_finds : GoodIn wsX9_ofNote wsX9_finds := goodIn_r _ [33, 3, 1, 2, 13, 22, 23, 24, 7, 25, 42, 43, 44, 45, 46, 47, 48, 49, 50, 51, 52, 53, 54, 55, 56, 57, 58] (by decide +kernel) (by decide +kernel)
set_option maxRecDepth 20000 in
theorem gX9_ofNote_X9_finds : GoodIn wsX9_ofNote (wsV RX9 81 RX9 yX9_finds wsX9_finds) := goodIn_app (goodIn_of _ (by decide +kernel)) ggX9_ofNote_X9_finds
set_option maxRecDepth 20000 in
theorem ggX9_ofNote_X9_of0 : GoodIn wsX9_ofNote wsX9_of0 := goodIn_r _ [12, 13, 42, 43, 44, 45, 46, 47, 48, 49, 50, 51, 52, 53, 54, 55, 56, 57, 58] (by decide +kernel) (by decide +kernel)
set_option maxRecDepth 20000 in
theorem gX9_ofNote_X9_of0 : GoodIn wsX9_ofNote (wsV RX9 45 RX9 yX9_of0 wsX9_of0) := goodIn_app (goodIn_of _ (by decide +kernel)) ggX9_ofNote_X9_of0
set_option maxRecDepth 20000 in
theorem ggX9_ofNote_X9_below : GoodIn wsX9_ofNote wsX9_below := goodIn_r _ [37, 13, 38, 39, 40, 7, 41, 4, 5, 6, 8, 9, 10, 11, 12, 42, 43, 44, 45, 46, 47, 48, 49, 50, 51, 52, 53, 54, 55, 56, 57, 58] (by decide +kernel) (by decide +kernel)
set_option maxRecDepth 20000 in
theorem gX9_ofNote_X9_below : GoodIn wsX9_ofNote (wsV RX9 174 RX9 yX9_below wsX9_below) := goodIn_app (goodIn_of _ (by decide +kernel)) ggX9_ofNote_X9_below
set_option maxRecDepth 20000 in
theorem ggX9_ofNote_X9_present : GoodIn wsX9_ofNote wsX9_present := goodIn_r _ [21, 13, 22, 23, 24, 7, 25, 42, 43, 44, 45, 46, 47, 48, 49, 50, 51, 52, 53, 54, 55, 56, 57, 58] (by decide +kernel) (by decide +kernel)
set_option maxRecDepth 20000 in
theorem gX9_ofNote_X9_present : GoodIn wsX9_ofNote (wsV RX9 68 RX9 yX9_present wsX9_present) := goodIn_app (goodIn_of _ (by decide +kernel)) ggX9_ofNote_X9_present
set_option maxRecDepth 20000 in
theorem ggX9_of_X9_isNote : GoodIn wsX9_of wsX9_isNote := goodIn_r _ [5, 6, 7, 8, 4, 9, 53, 54, 55, 56, 57, 58, 59, 60, 61, 62, 63, 64, 65, 66, 67, 68, 69] (by decide +kernel) (by decide +kernel)
set_option maxRecDepth 20000 in
theorem gX9_of_X9_isNote : GoodIn wsX9_of (wsV RX9 140 RX9 yX9_isNote wsX9_isNote) := goodIn_app (goodIn_of _ (by decide +kernel)) ggX9_of_X9_isNote
set_option maxRecDepth 20000 in
theorem ggX9_of_X9_in : GoodIn wsX9_of wsX9_in := goodIn_r _ [9] (by decide +kernel) (by decide +kernel)
set_option maxRecDepth 20000 in
theorem gX9_of_X9_in : GoodIn wsX9_of (va_wsS RX9 41 yX9_in wsX9_in) := goodIn_app (goodIn_of _ (by decide +kernel)) ggX9_of_X9_in
set_option maxRecDepth 20000 in
theorem ggX9_of_X9_ofNote : GoodIn wsX9_of wsX9_ofNote := goodIn_r _ [13, 14, 15, 16, 17, 18, 19, 4, 20, 21, 22, 23, 24, 6, 25, 26, 27, 28, 29, 30, 31, 32, 33, 34, 35, 36, 37, 38, 39, 40, 41, 42, 43, 44, 45, 46, 47, 48, 49, 50, 51, 52, 53, 54, 55, 56, 57, 58, 59, 60, 61, 62, 63, 64, 65, 66, 67, 68, 69] (by decide +kernel) (by decide +kernel)
set_option maxRecDepth 20000 in
theorem gX9_of_X9_ofNote : GoodIn wsX9_of (wsV RX9 177 RX9 yX9_ofNote wsX9_ofNote) := goodIn_app (goodIn_of _ (by decide +kernel)) ggX9_of_X9_ofNote
set_option maxRecDepth 20000 in
theorem ggX9_word_X9_isNote : GoodIn wsX9_word wsX9_isNote := goodIn_r _ [5, 6, 7, 8, 4, 9, 18, 19, 20, 21, 22, 23, 24, 25, 26, 27, 28, 29, 30, 31, 32, 33, 34] (by decide +kernel) (by decide +kernel)
set_option maxRecDepth 20000 in
theorem gX9_word_X9_isNote : GoodIn wsX9_word (wsV RX9 140 RX9 yX9_isNote wsX9_isNote) := goodIn_app (goodIn_of _ (by decide +kernel)) ggX9_word_X9_isNote
set_option maxRecDepth 20000 in
theorem ggX9_word_X9_isReply : GoodIn wsX9_word wsX9_isReply := goodIn_r _ [13, 14, 15, 16, 4, 17, 6, 18, 19, 20, 21, 22, 23, 24, 25, 26, 27, 28, 29, 30, 31, 32, 33, 34] (by decide +kernel) (by decide +kernel)
set_option maxRecDepth 20000 in
theorem gX9_word_X9_isReply : GoodIn wsX9_word (wsV RX9 64 RX9 yX9_isReply wsX9_isReply) := goodIn_app (goodIn_of _ (by decide +kernel)) ggX9_word_X9_isReply
set_option maxRecDepth 20000 in
theorem ggX9_word_X9_of0 : GoodIn wsX9_word wsX9_of0 := goodIn_r _ [17, 6, 18, 19, 20, 21, 22, 23, 24, 25, 26, 27, 28, 29, 30, 31, 32, 33, 34] (by decide +kernel) (by decide +kernel)
set_option maxRecDepth 20000 in
theorem gX9_word_X9_of0 : GoodIn wsX9_word (wsV RX9 45 RX9 yX9_of0 wsX9_of0) := goodIn_app (goodIn_of _ (by decide +kernel)) ggX9_word_X9_of0
set_option maxRecDepth 20000 in
theorem ggX9_word_X9_in : GoodIn wsX9_word wsX9_in := goodIn_r _ [9] (by decide +kernel) (by decide +kernel)
set_option maxRecDepth 20000 in
theorem gX9_word_X9_in : GoodIn wsX9_word (va_wsS RX9 41 yX9_in wsX9_in) := goodIn_app (goodIn_of _ (by decide +kernel)) ggX9_word_X9_in
set_option maxRecDepth 20000 in
theorem ggX9_at_X9_isPlace : GoodIn wsX9_at wsX9_isPlace := goodIn_r _ [6, 1, 7, 8, 5, 9, 10, 11, 12, 13, 14, 15, 16, 17, 18, 19, 20, 21, 22, 23, 24, 25, 26] (by decide +kernel) (by decide +kernel)
set_option maxRecDepth 20000 in
theorem gX9_at_X9_isPlace : GoodIn wsX9_at (wsV RX9 101 RX9 yX9_isPlace wsX9_isPlace) := goodIn_app (goodIn_of _ (by decide +kernel)) ggX9_at_X9_isPlace
set_option maxRecDepth 20000 in
theorem ggX9_printed_X9_isNote : GoodIn wsX9_printed wsX9_isNote := goodIn_r _ [8, 1, 9, 10, 7, 11, 28, 29, 30, 31, 32, 33, 34, 35, 36, 37, 38, 39, 40, 41, 42, 43, 44] (by decide +kernel) (by decide +kernel)
set_option maxRecDepth 20000 in
theorem gX9_printed_X9_isNote : GoodIn wsX9_printed (wsV RX9 140 RX9 yX9_isNote wsX9_isNote) := goodIn_app (goodIn_of _ (by decide +kernel)) ggX9_printed_X9_isNote
set_option maxRecDepth 20000 in
theorem ggX9_printed_X9_in : GoodIn wsX9_printed wsX9_in := goodIn_r _ [11] (by decide +kernel) (by decide +kernel)
set_option maxRecDepth 20000 in
theorem gX9_printed_X9_in : GoodIn wsX9_printed (va_wsS RX9 41 yX9_in wsX9_in) := goodIn_app (goodIn_of _ (by decide +kernel)) ggX9_printed_X9_in
set_option maxRecDepth 20000 in
theorem ggX9_printed_X9_prints : GoodIn wsX9_printed wsX9_prints := goodIn_r _ [15, 16, 1, 2, 17, 3, 18, 19, 20, 7, 21, 22, 23, 24, 25, 26, 27, 28, 29, 30, 31, 32, 33, 34, 35, 36, 37, 38, 39, 40, 41, 42, 43, 44] (by decide +kernel) (by decide +kernel)
set_option maxRecDepth 20000 in
theorem gX9_printed_X9_prints : GoodIn wsX9_printed (wsV RX9 180 RX9 yX9_prints wsX9_prints) := goodIn_app (goodIn_of _ (by decide +kernel)) ggX9_printed_X9_prints
set_option maxRecDepth 20000 in
theorem ggX9_replyCount_X9_isReply : GoodIn wsX9_replyCount wsX9_isReply := goodIn_r _ [6, 7, 8, 9, 5, 10, 1, 11, 12, 13, 14, 15, 16, 17, 18, 19, 20, 21, 22, 23, 24, 25, 26, 27] (by decide +kernel) (by decide +kernel)
set_option maxRecDepth 20000 in
theorem gX9_replyCount_X9_isReply : GoodIn wsX9_replyCount (wsV RX9 64 RX9 yX9_isReply wsX9_isReply) := goodIn_app (goodIn_of _ (by decide +kernel)) ggX9_replyCount_X9_isReply
set_option maxRecDepth 20000 in
theorem ggX9_count_X9_in : GoodIn wsX9_count wsX9_in := goodIn_r _ [7] (by decide +kernel) (by decide +kernel)
set_option maxRecDepth 20000 in
theorem gX9_count_X9_in : GoodIn wsX9_count (va_wsS RX9 41 yX9_in wsX9_in) := goodIn_app (goodIn_of _ (by decide +kernel)) ggX9_count_X9_in
set_option maxRecDepth 20000 in
theorem ggX9_count_X9_orphans : GoodIn wsX9_count wsX9_orphans := goodIn_r _ [11, 1, 12, 13, 14, 6, 15, 16, 17, 18, 19, 20, 21, 22, 23, 24, 25, 26, 27, 28, 29, 30, 31, 62, 63, 64, 65, 66, 67, 68, 69, 70, 71, 72, 73, 74, 75, 76, 77, 78] (by decide +kernel) (by decide +kernel)
set_option maxRecDepth 20000 in
theorem gX9_count_X9_orphans : GoodIn wsX9_count (wsV RX9 104 RX9 yX9_orphans wsX9_orphans) := goodIn_app (goodIn_of _ (by decide +kernel)) ggX9_count_X9_orphans
set_option maxRecDepth 20000 in
theorem ggX9_count_X9_replyCount : GoodIn wsX9_count wsX9_replyCount := goodIn_r _ [35, 1, 16, 17, 18, 6, 19, 20, 21, 22, 23, 62, 63, 64, 65, 66, 67, 68, 69, 70, 71, 72, 73, 74, 75, 76, 77, 78] (by decide +kernel) (by decide +kernel)
set_option maxRecDepth 20000 in
theorem gX9_count_X9_replyCount : GoodIn wsX9_count (wsV RX9 183 RX9 yX9_replyCount wsX9_replyCount) := goodIn_app (goodIn_of _ (by decide +kernel)) ggX9_count_X9_replyCount
set_option maxRecDepth 20000 in
theorem ggX9_count_X9_prints : GoodIn wsX9_count wsX9_prints := goodIn_r _ [39, 40, 1, 41, 42, 43, 44, 45, 46, 6, 47, 48, 49, 28, 29, 30, 31, 62, 63, 64, 65, 66, 67, 68, 69, 70, 71, 72, 73, 74, 75, 76, 77, 78] (by decide +kernel) (by decide +kernel)
set_option maxRecDepth 20000 in
theorem gX9_count_X9_prints : GoodIn wsX9_count (wsV RX9 180 RX9 yX9_prints wsX9_prints) := goodIn_app (goodIn_of _ (by decide +kernel)) ggX9_count_X9_prints
set_option maxRecDepth 20000 in
theorem ggX9_count_X9_torn : GoodIn wsX9_count wsX9_torn := goodIn_r _ [53, 1, 48, 44, 45, 46, 6, 47, 42, 49, 28, 29, 30, 31, 62, 63, 64, 65, 66, 67, 68, 69, 70, 71, 72, 73, 74, 75, 76, 77, 78] (by decide +kernel) (by decide +kernel)
set_option maxRecDepth 20000 in
theorem gX9_count_X9_torn : GoodIn wsX9_count (wsV RX9 125 RX9 yX9_torn wsX9_torn) := goodIn_app (goodIn_of _ (by decide +kernel)) ggX9_count_X9_torn
set_option maxRecDepth 20000 in
theorem ggX9_count_X9_lastLine : GoodIn wsX9_count wsX9_lastLine := goodIn_r _ [57, 1, 41, 62, 63, 64, 65, 66, 67, 68, 69, 70, 71, 72, 73, 74, 75, 76, 77, 78] (by decide +kernel) (by decide +kernel)
set_option maxRecDepth 20000 in
theorem gX9_count_X9_lastLine : GoodIn wsX9_count (wsV RX9 189 RX9 yX9_lastLine wsX9_lastLine) := goodIn_app (goodIn_of _ (by decide +kernel)) ggX9_count_X9_lastLine
set_option maxRecDepth 20000 in
theorem ggX9_count_X9_leaders : GoodIn wsX9_count wsX9_leaders := goodIn_r _ [61, 1, 41, 43, 62, 63, 64, 65, 66, 67, 68, 69, 70, 71, 72, 73, 74, 75, 76, 77, 78] (by decide +kernel) (by decide +kernel)
set_option maxRecDepth 20000 in
theorem gX9_count_X9_leaders : GoodIn wsX9_count (wsV RX9 192 RX9 yX9_leaders wsX9_leaders) := goodIn_app (goodIn_of _ (by decide +kernel)) ggX9_count_X9_leaders
set_option maxRecDepth 20000 in
theorem ggX9_orphansIf_X9_maySpan : GoodIn wsX9_orphansIf wsX9_maySpan := goodIn_r _ [6, 7, 8, 9, 5, 10, 1, 11, 12, 13, 14, 15, 16, 17, 18, 19, 20, 21, 22, 23, 24, 25, 26, 27, 28, 29, 30] (by decide +kernel) (by decide +kernel)
set_option maxRecDepth 20000 in
theorem gX9_orphansIf_X9_maySpan : GoodIn wsX9_orphansIf (wsV RX9 112 RX9 yX9_maySpan wsX9_maySpan) := goodIn_app (goodIn_of _ (by decide +kernel)) ggX9_orphansIf_X9_maySpan
set_option maxRecDepth 20000 in
theorem ggX9_orphansIf_X9_in : GoodIn wsX9_orphansIf wsX9_in := goodIn_r _ [13] (by decide +kernel) (by decide +kernel)
set_option maxRecDepth 20000 in
theorem gX9_orphansIf_X9_in : GoodIn wsX9_orphansIf (va_wsS RX9 41 yX9_in wsX9_in) := goodIn_app (goodIn_of _ (by decide +kernel)) ggX9_orphansIf_X9_in
set_option maxRecDepth 20000 in
theorem ggX9_could_X9_isNote : GoodIn wsX9_could wsX9_isNote := goodIn_r _ [5, 6, 7, 8, 4, 9, 42, 43, 44, 45, 46, 47, 48, 49, 50, 51, 52, 53, 54, 55, 56, 57, 58] (by decide +kernel) (by decide +kernel)
set_option maxRecDepth 20000 in
theorem gX9_could_X9_isNote : GoodIn wsX9_could (wsV RX9 140 RX9 yX9_isNote wsX9_isNote) := goodIn_app (goodIn_of _ (by decide +kernel)) ggX9_could_X9_isNote
set_option maxRecDepth 20000 in
theorem ggX9_could_X9_in : GoodIn wsX9_could wsX9_in := goodIn_r _ [9] (by decide +kernel) (by decide +kernel)
set_option maxRecDepth 20000 in
theorem gX9_could_X9_in : GoodIn wsX9_could (va_wsS RX9 41 yX9_in wsX9_in) := goodIn_app (goodIn_of _ (by decide +kernel)) ggX9_could_X9_in
set_option maxRecDepth 20000 in
theorem ggX9_could_X9_isOrphan : GoodIn wsX9_could wsX9_isOrphan := goodIn_r _ [13, 14, 15, 16, 4, 17, 18, 19, 20, 21, 6, 22, 23, 24, 25, 26, 27, 28, 29, 42, 43, 44, 45, 46, 47, 48, 49, 50, 51, 52, 53, 54, 55, 56, 57, 58] (by decide +kernel) (by decide +kernel)
set_option maxRecDepth 20000 in
theorem gX9_could_X9_isOrphan : GoodIn wsX9_could (wsV RX9 85 RX9 yX9_isOrphan wsX9_isOrphan) := goodIn_app (goodIn_of _ (by decide +kernel)) ggX9_could_X9_isOrphan
set_option maxRecDepth 20000 in
theorem ggX9_could_X9_possible : GoodIn wsX9_could wsX9_possible := goodIn_r _ [33, 6, 34, 35, 36, 4, 37, 18, 19, 20, 21, 38, 39, 40, 41, 42, 43, 44, 45, 46, 47, 48, 49, 50, 51, 52, 53, 54, 55, 56, 57, 58] (by decide +kernel) (by decide +kernel)
set_option maxRecDepth 20000 in
theorem gX9_could_X9_possible : GoodIn wsX9_could (wsV RX9 161 RX9 yX9_possible wsX9_possible) := goodIn_app (goodIn_of _ (by decide +kernel)) ggX9_could_X9_possible
set_option maxRecDepth 20000 in
theorem ggX9_leastRoom_X9_in : GoodIn wsX9_leastRoom wsX9_in := goodIn_r _ [4] (by decide +kernel) (by decide +kernel)
set_option maxRecDepth 20000 in
theorem gX9_leastRoom_X9_in : GoodIn wsX9_leastRoom (va_wsS RX9 41 yX9_in wsX9_in) := goodIn_app (goodIn_of _ (by decide +kernel)) ggX9_leastRoom_X9_in
set_option maxRecDepth 20000 in
theorem ggX9_leastRoom_X9_prints : GoodIn wsX9_leastRoom wsX9_prints := goodIn_r _ [8, 9, 10, 11, 12, 13, 14, 15, 16, 3, 17, 18, 19, 20, 21, 22, 23, 28, 29, 30, 31, 32, 33, 34, 35, 36, 37, 38, 39, 40, 41, 42, 43, 44] (by decide +kernel) (by decide +kernel)
set_option maxRecDepth 20000 in
theorem gX9_leastRoom_X9_prints : GoodIn wsX9_leastRoom (wsV RX9 180 RX9 yX9_prints wsX9_prints) := goodIn_app (goodIn_of _ (by decide +kernel)) ggX9_leastRoom_X9_prints
set_option maxRecDepth 20000 in
theorem ggX9_leastRoom_X9_leaders : GoodIn wsX9_leastRoom wsX9_leaders := goodIn_r _ [27, 10, 11, 13, 28, 29, 30, 31, 32, 33, 34, 35, 36, 37, 38, 39, 40, 41, 42, 43, 44] (by decide +kernel) (by decide +kernel)
set_option maxRecDepth 20000 in
theorem gX9_leastRoom_X9_leaders : GoodIn wsX9_leastRoom (wsV RX9 192 RX9 yX9_leaders wsX9_leaders) := goodIn_app (goodIn_of _ (by decide +kernel)) ggX9_leastRoom_X9_leaders
set_option maxRecDepth 20000 in
theorem ggX9_toldBy_X9_byteOf : GoodIn wsX9_toldBy wsX9_byteOf := goodIn_r _ [4, 5] (by decide +kernel) (by decide +kernel)
set_option maxRecDepth 20000 in
theorem gX9_toldBy_X9_byteOf : GoodIn wsX9_toldBy (va_wsS RX9 198 yX9_byteOf wsX9_byteOf) := goodIn_app (goodIn_of _ (by decide +kernel)) ggX9_toldBy_X9_byteOf
set_option maxRecDepth 20000 in
theorem ggX9_toldBy_X9_in : GoodIn wsX9_toldBy wsX9_in := goodIn_r _ [8] (by decide +kernel) (by decide +kernel)
set_option maxRecDepth 20000 in
theorem gX9_toldBy_X9_in : GoodIn wsX9_toldBy (va_wsS RX9 41 yX9_in wsX9_in) := goodIn_app (goodIn_of _ (by decide +kernel)) ggX9_toldBy_X9_in
set_option maxRecDepth 20000 in
theorem ggX9_put_X9_toldBy : GoodIn wsX9_put wsX9_toldBy := goodIn_r _ [6, 7, 8, 5, 9, 10, 11, 12, 13] (by decide +kernel) (by decide +kernel)
set_option maxRecDepth 20000 in
theorem gX9_put_X9_toldBy : GoodIn wsX9_put (va_wsS RX9 202 yX9_toldBy wsX9_toldBy) := goodIn_app (goodIn_of _ (by decide +kernel)) ggX9_put_X9_toldBy
set_option maxRecDepth 20000 in
theorem ggX9_put_X9_byteOf : GoodIn wsX9_put wsX9_byteOf := goodIn_r _ [9, 10] (by decide +kernel) (by decide +kernel)
set_option maxRecDepth 20000 in
theorem gX9_put_X9_byteOf : GoodIn wsX9_put (va_wsS RX9 198 yX9_byteOf wsX9_byteOf) := goodIn_app (goodIn_of _ (by decide +kernel)) ggX9_put_X9_byteOf
set_option maxRecDepth 20000 in
theorem ggX9_isAt_X9_in : GoodIn wsX9_isAt wsX9_in := goodIn_r _ [7] (by decide +kernel) (by decide +kernel)
set_option maxRecDepth 20000 in
theorem gX9_isAt_X9_in : GoodIn wsX9_isAt (va_wsS RX9 41 yX9_in wsX9_in) := goodIn_app (goodIn_of _ (by decide +kernel)) ggX9_isAt_X9_in
set_option maxRecDepth 20000 in
theorem ggX9_isSign_X9_isAt : GoodIn wsX9_isSign wsX9_isAt := goodIn_r _ [6, 1, 7, 8, 9, 10, 5, 11, 12, 13, 14, 15, 16, 17, 18, 19, 20, 21, 22, 23, 24, 25, 26, 27, 28] (by decide +kernel) (by decide +kernel)
set_option maxRecDepth 20000 in
theorem gX9_isSign_X9_isAt : GoodIn wsX9_isSign (wsV RX9 209 RX9 yX9_isAt wsX9_isAt) := goodIn_app (goodIn_of _ (by decide +kernel)) ggX9_isSign_X9_isAt
set_option maxRecDepth 20000 in
theorem ggX9_isNumber_X9_isAt : GoodIn wsX9_isNumber wsX9_isAt := goodIn_r _ [9, 2, 10, 1, 11, 12, 8, 13, 14, 15, 16, 17, 18, 19, 20, 21, 22, 23, 24, 25, 26, 27, 28, 29, 30] (by decide +kernel) (by decide +kernel)
set_option maxRecDepth 20000 in
theorem gX9_isNumber_X9_isAt : GoodIn wsX9_isNumber (wsV RX9 209 RX9 yX9_isAt wsX9_isAt) := goodIn_app (goodIn_of _ (by decide +kernel)) ggX9_isNumber_X9_isAt
set_option maxRecDepth 20000 in
theorem ggX9_isWord_X9_isAt : GoodIn wsX9_isWord wsX9_isAt := goodIn_r _ [8, 3, 9, 10, 11, 12, 7, 13, 14, 15, 16, 17, 18, 19, 20, 21, 22, 23, 24, 25, 26, 27, 28, 29, 30] (by decide +kernel) (by decide +kernel)
set_option maxRecDepth 20000 in
theorem gX9_isWord_X9_isAt : GoodIn wsX9_isWord (wsV RX9 209 RX9 yX9_isAt wsX9_isAt) := goodIn_app (goodIn_of _ (by decide +kernel)) ggX9_isWord_X9_isAt
set_option maxRecDepth 20000 in
theorem ggX9_isSpan_X9_isNumber : GoodIn wsX9_isSpan wsX9_isNumber := goodIn_r _ [5, 6, 7, 8, 9, 10, 11, 12, 4, 13, 14, 15, 16, 17, 22, 23, 24, 25, 26, 27, 28, 29, 30, 31, 32, 33, 34, 35, 36, 37, 38] (by decide +kernel) (by decide +kernel)
set_option maxRecDepth 20000 in
theorem gX9_isSpan_X9_isNumber : GoodIn wsX9_isSpan (wsV RX9 215 RX9 yX9_isNumber wsX9_isNumber) := goodIn_app (goodIn_of _ (by decide +kernel)) ggX9_isSpan_X9_isNumber
set_option maxRecDepth 20000 in
theorem ggX9_isSpan_X9_isSign : GoodIn wsX9_isSpan wsX9_isSign := goodIn_r _ [21, 7, 10, 11, 12, 4, 13, 14, 6, 15, 16, 17, 22, 23, 24, 25, 26, 27, 28, 29, 30, 31, 32, 33, 34, 35, 36, 37, 38] (by decide +kernel) (by decide +kernel)
set_option maxRecDepth 20000 in
theorem gX9_isSpan_X9_isSign : GoodIn wsX9_isSpan (wsV RX9 218 RX9 yX9_isSign wsX9_isSign) := goodIn_app (goodIn_of _ (by decide +kernel)) ggX9_isSpan_X9_isSign
set_option maxRecDepth 20000 in
theorem ggX9_isOrder_X9_isNumber : GoodIn wsX9_isOrder wsX9_isNumber := goodIn_r _ [10, 3, 1, 4, 5, 11, 12, 13, 9, 14, 2, 15, 16, 17, 30, 31, 32, 33, 34, 35, 36, 37, 38, 39, 40, 41, 42, 43, 44, 45, 46] (by decide +kernel) (by decide +kernel)
set_option maxRecDepth 20000 in
theorem gX9_isOrder_X9_isNumber : GoodIn wsX9_isOrder (wsV RX9 215 RX9 yX9_isNumber wsX9_isNumber) := goodIn_app (goodIn_of _ (by decide +kernel)) ggX9_isOrder_X9_isNumber
set_option maxRecDepth 20000 in
theorem ggX9_isOrder_X9_isSign : GoodIn wsX9_isOrder wsX9_isSign := goodIn_r _ [21, 1, 11, 12, 13, 9, 14, 2, 3, 15, 16, 17, 30, 31, 32, 33, 34, 35, 36, 37, 38, 39, 40, 41, 42, 43, 44, 45, 46] (by decide +kernel) (by decide +kernel)
set_option maxRecDepth 20000 in
theorem gX9_isOrder_X9_isSign : GoodIn wsX9_isOrder (wsV RX9 218 RX9 yX9_isSign wsX9_isSign) := goodIn_app (goodIn_of _ (by decide +kernel)) ggX9_isOrder_X9_isSign
set_option maxRecDepth 20000 in
theorem ggX9_isOrder_X9_isWord : GoodIn wsX9_isOrder wsX9_isWord := goodIn_r _ [25, 4, 5, 1, 11, 12, 13, 9, 14, 2, 3, 15, 16, 17, 30, 31, 32, 33, 34, 35, 36, 37, 38, 39, 40, 41, 42, 43, 44, 45, 46] (by decide +kernel) (by decide +kernel)
set_option maxRecDepth 20000 in
theorem gX9_isOrder_X9_isWord : GoodIn wsX9_isOrder (wsV RX9 221 RX9 yX9_isWord wsX9_isWord) := goodIn_app (goodIn_of _ (by decide +kernel)) ggX9_isOrder_X9_isWord
set_option maxRecDepth 20000 in
theorem ggX9_isOrder_X9_isSpan : GoodIn wsX9_isOrder wsX9_isSpan := goodIn_r _ [29, 6, 7, 8, 9, 10, 3, 1, 4, 5, 11, 12, 13, 14, 2, 15, 16, 17, 18, 19, 20, 21, 30, 31, 32, 33, 34, 35, 36, 37, 38, 39, 40, 41, 42, 43, 44, 45, 46] (by decide +kernel) (by decide +kernel)
set_option maxRecDepth 20000 in
theorem gX9_isOrder_X9_isSpan : GoodIn wsX9_isOrder (wsV RX9 225 RX9 yX9_isSpan wsX9_isSpan) := goodIn_app (goodIn_of _ (by decide +kernel)) ggX9_isOrder_X9_isSpan
set_option maxRecDepth 20000 in
theorem ggX9_isText_X9_isOrder : GoodIn wsX9_isText wsX9_isOrder := goodIn_r _ [8, 1, 3, 9, 10, 2, 11, 12, 13, 7, 14, 15, 16, 17, 18, 19, 20, 21, 22, 23, 24, 25, 26, 27, 28, 29, 30, 31, 32, 33, 34, 35, 36, 37, 38, 39, 40, 41, 42, 43, 44, 45, 46, 47, 48, 49, 50] (by decide +kernel) (by decide +kernel)
set_option maxRecDepth 20000 in
theorem gX9_isText_X9_isOrder : GoodIn wsX9_isText (wsV RX9 228 RX9 yX9_isOrder wsX9_isOrder) := goodIn_app (goodIn_of _ (by decide +kernel)) ggX9_isText_X9_isOrder
set_option maxRecDepth 20000 in
theorem ggX9_isText_X9_isSign : GoodIn wsX9_isText wsX9_isSign := goodIn_r _ [25, 1, 15, 16, 17, 7, 18, 3, 9, 19, 20, 21, 34, 35, 36, 37, 38, 39, 40, 41, 42, 43, 44, 45, 46, 47, 48, 49, 50] (by decide +kernel) (by decide +kernel)
set_option maxRecDepth 20000 in
theorem gX9_isText_X9_isSign : GoodIn wsX9_isText (wsV RX9 218 RX9 yX9_isSign wsX9_isSign) := goodIn_app (goodIn_of _ (by decide +kernel)) ggX9_isText_X9_isSign
set_option maxRecDepth 20000 in
theorem ggX9_fault_X9_isText : GoodIn wsX9_fault wsX9_isText := goodIn_r _ [6, 1, 7, 8, 9, 10, 11, 5, 12, 13, 14, 15, 16, 17, 18, 19, 20, 21, 22, 23, 24, 25, 26, 27, 28, 29, 30, 31, 32, 33, 34, 35, 36, 37, 38, 39, 40, 41, 42, 43, 44, 45, 46, 47, 48, 49, 50, 51, 52, 53, 54] (by decide +kernel) (by decide +kernel)
set_option maxRecDepth 20000 in
theorem gX9_fault_X9_isText : GoodIn wsX9_fault (wsV RX9 231 RX9 yX9_isText wsX9_isText) := goodIn_app (goodIn_of _ (by decide +kernel)) ggX9_fault_X9_isText
set_option maxRecDepth 20000 in
theorem ggX9_writes_X9_mayWrite : GoodIn wsX9_writes wsX9_mayWrite := goodIn_r _ [6, 7, 8, 9, 5, 10, 15, 16, 17, 18, 19, 20, 21, 22, 23, 24, 25, 26, 27, 28, 29, 30, 31] (by decide +kernel) (by decide +kernel)
set_option maxRecDepth 20000 in
theorem gX9_writes_X9_mayWrite : GoodIn wsX9_writes (wsV RX9 94 RX9 yX9_mayWrite wsX9_mayWrite) := goodIn_app (goodIn_of _ (by decide +kernel)) ggX9_writes_X9_mayWrite
set_option maxRecDepth 20000 in
theorem ggX9_writes_X9_comes : GoodIn wsX9_writes wsX9_comes := goodIn_r _ [14, 7, 15, 16, 17, 18, 19, 20, 21, 22, 23, 24, 25, 26, 27, 28, 29, 30, 31] (by decide +kernel) (by decide +kernel)
set_option maxRecDepth 20000 in
theorem gX9_writes_X9_comes : GoodIn wsX9_writes (wsV RX9 97 RX9 yX9_comes wsX9_comes) := goodIn_app (goodIn_of _ (by decide +kernel)) ggX9_writes_X9_comes
set_option maxRecDepth 20000 in
theorem ggX9_may_X9_maySpan : GoodIn wsX9_may wsX9_maySpan := goodIn_r _ [5, 6, 7, 8, 4, 9, 10, 11, 12, 13, 66, 67, 68, 69, 70, 71, 72, 73, 74, 75, 76, 77, 78, 79, 80, 81, 82] (by decide +kernel) (by decide +kernel)
set_option maxRecDepth 20000 in
theorem gX9_may_X9_maySpan : GoodIn wsX9_may (wsV RX9 112 RX9 yX9_maySpan wsX9_maySpan) := goodIn_app (goodIn_of _ (by decide +kernel)) ggX9_may_X9_maySpan
set_option maxRecDepth 20000 in
theorem ggX9_may_X9_mayMove : GoodIn wsX9_may wsX9_mayMove := goodIn_r _ [17, 10, 1, 2, 3, 4, 5, 6, 7, 8, 9, 11, 12, 13, 66, 67, 68, 69, 70, 71, 72, 73, 74, 75, 76, 77, 78, 79, 80, 81, 82] (by decide +kernel) (by decide +kernel)
set_option maxRecDepth 20000 in
theorem gX9_may_X9_mayMove : GoodIn wsX9_may (wsV RX9 118 RX9 yX9_mayMove wsX9_mayMove) := goodIn_app (goodIn_of _ (by decide +kernel)) ggX9_may_X9_mayMove
set_option maxRecDepth 20000 in
theorem ggX9_may_X9_mayNote : GoodIn wsX9_may wsX9_mayNote := goodIn_r _ [21, 10, 1, 2, 3, 4, 5, 6, 7, 8, 9, 11, 12, 13, 66, 67, 68, 69, 70, 71, 72, 73, 74, 75, 76, 77, 78, 79, 80, 81, 82] (by decide +kernel) (by decide +kernel)
set_option maxRecDepth 20000 in
theorem gX9_may_X9_mayNote : GoodIn wsX9_may (wsV RX9 134 RX9 yX9_mayNote wsX9_mayNote) := goodIn_app (goodIn_of _ (by decide +kernel)) ggX9_may_X9_mayNote
set_option maxRecDepth 20000 in
theorem ggX9_may_X9_mayReply : GoodIn wsX9_may wsX9_mayReply := goodIn_r _ [25, 10, 26, 27, 28, 4, 29, 11, 12, 13, 66, 67, 68, 69, 70, 71, 72, 73, 74, 75, 76, 77, 78, 79, 80, 81, 82] (by decide +kernel) (by decide +kernel)
set_option maxRecDepth 20000 in
theorem gX9_may_X9_mayReply : GoodIn wsX9_may (wsV RX9 143 RX9 yX9_mayReply wsX9_mayReply) := goodIn_app (goodIn_of _ (by decide +kernel)) ggX9_may_X9_mayReply
set_option maxRecDepth 20000 in
theorem ggX9_may_X9_isNote : GoodIn wsX9_may wsX9_isNote := goodIn_r _ [29, 10, 11, 12, 4, 13, 66, 67, 68, 69, 70, 71, 72, 73, 74, 75, 76, 77, 78, 79, 80, 81, 82] (by decide +kernel) (by decide +kernel)
set_option maxRecDepth 20000 in
theorem gX9_may_X9_isNote : GoodIn wsX9_may (wsV RX9 140 RX9 yX9_isNote wsX9_isNote) := goodIn_app (goodIn_of _ (by decide +kernel)) ggX9_may_X9_isNote
set_option maxRecDepth 20000 in
theorem ggX9_may_X9_mayReclaim : GoodIn wsX9_may wsX9_mayReclaim := goodIn_r _ [33, 26, 27, 28, 4, 29, 10, 11, 12, 13, 34, 35, 36, 37, 38, 39, 40, 41, 42, 43, 44, 45, 46, 47, 48, 49, 50, 51, 52, 53, 54, 55, 56, 57, 58, 59, 60, 61, 62, 63, 64, 65, 66, 67, 68, 69, 70, 71, 72, 73, 74, 75, 76, 77, 78, 79, 80, 81, 82] (by decide +kernel) (by decide +kernel)
set_option maxRecDepth 20000 in
theorem gX9_may_X9_mayReclaim : GoodIn wsX9_may (wsV RX9 164 RX9 yX9_mayReclaim wsX9_mayReclaim) := goodIn_app (goodIn_of _ (by decide +kernel)) ggX9_may_X9_mayReclaim
set_option maxRecDepth 20000 in
theorem ggX9_does_X9_writes : GoodIn wsX9_does wsX9_writes := goodIn_r _ [6, 7, 8, 9, 10, 5, 11, 12, 13, 14, 15, 16, 17, 18, 19, 125, 126, 127, 128, 129, 130, 131, 132, 133, 134, 135, 136, 137, 138, 139, 140, 141] (by decide +kernel) (by decide +kernel)
set_option maxRecDepth 20000 in
theorem gX9_does_X9_writes : GoodIn wsX9_does (wsV RX9 234 RX9 yX9_writes wsX9_writes) := goodIn_app (goodIn_of _ (by decide +kernel)) ggX9_does_X9_writes
set_option maxRecDepth 20000 in
theorem ggX9_does_X9_may : GoodIn wsX9_does wsX9_may := goodIn_r _ [23, 24, 25, 26, 5, 27, 28, 29, 30, 31, 12, 13, 14, 15, 32, 33, 34, 35, 36, 37, 38, 39, 40, 41, 42, 43, 44, 45, 46, 47, 48, 49, 50, 51, 52, 53, 54, 55, 56, 57, 58, 59, 60, 61, 62, 63, 64, 65, 66, 67, 68, 69, 70, 71, 72, 73, 74, 75, 76, 77, 78, 79, 80, 81, 82, 83, 125, 126, 127, 128, 129, 130, 131, 132, 133, 134, 135, 136, 137, 138, 139, 140, 141] (by decide +kernel) (by decide +kernel)
set_option maxRecDepth 20000 in
theorem gX9_does_X9_may : GoodIn wsX9_does (wsV RX9 237 RX9 yX9_may wsX9_may) := goodIn_app (goodIn_of _ (by decide +kernel)) ggX9_does_X9_may
set_option maxRecDepth 20000 in
theorem ggX9_does_X9_goes : GoodIn wsX9_does wsX9_goes := goodIn_r _ [87, 12, 125, 126, 127, 128, 129, 130, 131, 132, 133, 134, 135, 136, 137, 138, 139, 140, 141] (by decide +kernel) (by decide +kernel)
set_option maxRecDepth 20000 in
theorem gX9_does_X9_goes : GoodIn wsX9_does (wsV RX9 108 RX9 yX9_goes wsX9_goes) := goodIn_app (goodIn_of _ (by decide +kernel)) ggX9_does_X9_goes
set_option maxRecDepth 20000 in
theorem ggX9_does_X9_moves : GoodIn wsX9_does wsX9_moves := goodIn_r _ [91, 92, 12, 84, 85, 86, 5, 87, 16, 17, 18, 19, 125, 126, 127, 128, 129, 130, 131, 132, 133, 134, 135, 136, 137, 138, 139, 140, 141] (by decide +kernel) (by decide +kernel)
set_option maxRecDepth 20000 in
theorem gX9_does_X9_moves : GoodIn wsX9_does (wsV RX9 122 RX9 yX9_moves wsX9_moves) := goodIn_app (goodIn_of _ (by decide +kernel)) ggX9_does_X9_moves
set_option maxRecDepth 20000 in
theorem ggX9_does_X9_notes : GoodIn wsX9_does wsX9_notes := goodIn_r _ [96, 12, 97, 98, 99, 5, 100, 101, 102, 103, 104, 125, 126, 127, 128, 129, 130, 131, 132, 133, 134, 135, 136, 137, 138, 139, 140, 141] (by decide +kernel) (by decide +kernel)
set_option maxRecDepth 20000 in
theorem gX9_does_X9_notes : GoodIn wsX9_does (wsV RX9 137 RX9 yX9_notes wsX9_notes) := goodIn_app (goodIn_of _ (by decide +kernel)) ggX9_does_X9_notes
set_option maxRecDepth 20000 in
theorem ggX9_does_X9_replies : GoodIn wsX9_does wsX9_replies := goodIn_r _ [108, 12, 125, 126, 127, 128, 129, 130, 131, 132, 133, 134, 135, 136, 137, 138, 139, 140, 141] (by decide +kernel) (by decide +kernel)
set_option maxRecDepth 20000 in
theorem gX9_does_X9_replies : GoodIn wsX9_does (wsV RX9 146 RX9 yX9_replies wsX9_replies) := goodIn_app (goodIn_of _ (by decide +kernel)) ggX9_does_X9_replies
set_option maxRecDepth 20000 in
theorem ggX9_does_X9_drops : GoodIn wsX9_does wsX9_drops := goodIn_r _ [112, 12, 113, 114, 115, 5, 116, 56, 57, 58, 59, 60, 61, 62, 63, 117, 118, 119, 120, 125, 126, 127, 128, 129, 130, 131, 132, 133, 134, 135, 136, 137, 138, 139, 140, 141] (by decide +kernel) (by decide +kernel)
set_option maxRecDepth 20000 in
theorem gX9_does_X9_drops : GoodIn wsX9_does (wsV RX9 152 RX9 yX9_drops wsX9_drops) := goodIn_app (goodIn_of _ (by decide +kernel)) ggX9_does_X9_drops
set_option maxRecDepth 20000 in
theorem ggX9_does_X9_reclaims : GoodIn wsX9_does wsX9_reclaims := goodIn_r _ [124, 72, 73, 74, 5, 75, 12, 76, 77, 78, 79, 60, 61, 62, 63, 80, 81, 82, 83, 97, 98, 99, 100, 101, 102, 103, 104, 125, 126, 127, 128, 129, 130, 131, 132, 133, 134, 135, 136, 137, 138, 139, 140, 141] (by decide +kernel) (by decide +kernel)
set_option maxRecDepth 20000 in
theorem gX9_does_X9_reclaims : GoodIn wsX9_does (wsV RX9 167 RX9 yX9_reclaims wsX9_reclaims) := goodIn_app (goodIn_of _ (by decide +kernel)) ggX9_does_X9_reclaims
set_option maxRecDepth 20000 in
theorem ggX9_carryOut_X9_isText : GoodIn wsX9_carryOut wsX9_isText := goodIn_r _ [7, 8, 2, 1, 9, 10, 11, 6, 12, 13, 14, 15, 16, 17, 18, 19, 20, 21, 22, 23, 24, 25, 26, 27, 28, 29, 30, 31, 32, 33, 34, 35, 36, 37, 169, 170, 171, 172, 173, 174, 175, 176, 177, 178, 179, 180, 181, 182, 183, 184, 185] (by decide +kernel) (by decide +kernel)
set_option maxRecDepth 20000 in
theorem gX9_carryOut_X9_isText : GoodIn wsX9_carryOut (wsV RX9 231 RX9 yX9_isText wsX9_isText) := goodIn_app (goodIn_of _ (by decide +kernel)) ggX9_carryOut_X9_isText
set_option maxRecDepth 20000 in
theorem ggX9_carryOut_X9_records : GoodIn wsX9_carryOut wsX9_records := goodIn_r _ [41, 42, 43, 44, 45, 46, 6, 47, 169, 170, 171, 172, 173, 174, 175, 176, 177, 178, 179, 180, 181, 182, 183, 184, 185] (by decide +kernel) (by decide +kernel)
set_option maxRecDepth 20000 in
theorem gX9_carryOut_X9_records : GoodIn wsX9_carryOut (wsV RX9 57 RX9 yX9_records wsX9_records) := goodIn_app (goodIn_of _ (by decide +kernel)) ggX9_carryOut_X9_records
set_option maxRecDepth 20000 in
theorem ggX9_carryOut_X9_does : GoodIn wsX9_carryOut wsX9_does := goodIn_r _ [51, 14, 52, 53, 54, 6, 55, 13, 56, 57, 58, 59, 44, 23, 24, 25, 60, 61, 62, 63, 64, 65, 66, 67, 68, 69, 70, 71, 72, 73, 74, 75, 76, 77, 78, 79, 80, 81, 82, 83, 84, 85, 86, 87, 88, 89, 90, 91, 92, 93, 94, 95, 96, 97, 98, 99, 100, 101, 102, 103, 104, 105, 106, 107, 108, 109, 110, 111, 112, 113, 114, 115, 116, 117, 118, 119, 120, 121, 122, 123, 124, 125, 126, 127, 128, 129, 130, 131, 132, 133, 134, 135, 136, 137, 138, 139, 140, 141, 142, 143, 144, 145, 146, 147, 148, 149, 150, 151, 152, 153, 154, 155, 156, 157, 158, 159, 160, 161, 162, 163, 164, 165, 166, 167, 168, 169, 170, 171, 172, 173, 174, 175, 176, 177, 178, 179, 180, 181, 182, 183, 184, 185] (by decide +kernel) (by decide +kernel)
set_option maxRecDepth 20000 in
theorem gX9_carryOut_X9_does : GoodIn wsX9_carryOut (wsV RX9 241 RX9 yX9_does wsX9_does) := goodIn_app (goodIn_of _ (by decide +kernel)) ggX9_carryOut_X9_does
theorem dX9_init_0 : decode cX9_init 0 = .ok (.aload_n 0, 1) := by decide +kernel
theorem dX9_init_1 : decode cX9_init 1 = .ok (.invokespecial 1, 3) := by decide +kernel
theorem dX9_init_4 : decode cX9_init 4 = .ok (.aload_n 0, 1) := by decide +kernel
theorem dX9_init_5 : decode cX9_init 5 = .ok (.sipush 1405, 3) := by decide +kernel
theorem dX9_init_8 : decode cX9_init 8 = .ok (.newarray .int, 2) := by decide +kernel
theorem dX9_init_10 : decode cX9_init 10 = .ok (.putfield 7, 3) := by decide +kernel
theorem dX9_init_13 : decode cX9_init 13 = .ok (.aload_n 0, 1) := by decide +kernel
theorem dX9_init_14 : decode cX9_init 14 = .ok (.sipush 8430, 3) := by decide +kernel
theorem dX9_init_17 : decode cX9_init 17 = .ok (.newarray .int, 2) := by decide +kernel
theorem dX9_init_19 : decode cX9_init 19 = .ok (.putfield 13, 3) := by decide +kernel
theorem dX9_init_22 : decode cX9_init 22 = .ok (.aload_n 0, 1) := by decide +kernel
theorem dX9_init_23 : decode cX9_init 23 = .ok (.sipush 2810, 3) := by decide +kernel
theorem dX9_init_26 : decode cX9_init 26 = .ok (.newarray .int, 2) := by decide +kernel
theorem dX9_init_28 : decode cX9_init 28 = .ok (.putfield 16, 3) := by decide +kernel
theorem dX9_init_31 : decode cX9_init 31 = .ok (.aload_n 0, 1) := by decide +kernel
theorem dX9_init_32 : decode cX9_init 32 = .ok (.iconst 2, 1) := by decide +kernel
theorem dX9_init_33 : decode cX9_init 33 = .ok (.newarray .boolean, 2) := by decide +kernel
theorem dX9_init_35 : decode cX9_init 35 = .ok (.putfield 19, 3) := by decide +kernel
theorem dX9_init_38 : decode cX9_init 38 = .ok (.aload_n 0, 1) := by decide +kernel
theorem dX9_init_39 : decode cX9_init 39 = .ok (.bipush 80, 2) := by decide +kernel
theorem dX9_init_41 : decode cX9_init 41 = .ok (.newarray .int, 2) := by decide +kernel
theorem dX9_init_43 : decode cX9_init 43 = .ok (.putfield 23, 3) := by decide +kernel
theorem dX9_init_46 : decode cX9_init 46 = .ok (.aload_n 0, 1) := by decide +kernel
theorem dX9_init_47 : decode cX9_init 47 = .ok (.bipush 112, 2) := by decide +kernel
theorem dX9_init_49 : decode cX9_init 49 = .ok (.newarray .int, 2) := by decide +kernel
theorem dX9_init_51 : decode cX9_init 51 = .ok (.putfield 26, 3) := by decide +kernel
theorem dX9_init_54 : decode cX9_init 54 = .ok (.aload_n 0, 1) := by decide +kernel
theorem dX9_init_55 : decode cX9_init 55 = .ok (.bipush 16, 2) := by decide +kernel
theorem dX9_init_57 : decode cX9_init 57 = .ok (.newarray .int, 2) := by decide +kernel
theorem dX9_init_59 : decode cX9_init 59 = .ok (.putfield 29, 3) := by decide +kernel
theorem dX9_init_62 : decode cX9_init 62 = .ok (.aload_n 0, 1) := by decide +kernel
theorem dX9_init_63 : decode cX9_init 63 = .ok (.bipush 16, 2) := by decide +kernel
theorem dX9_init_65 : decode cX9_init 65 = .ok (.newarray .int, 2) := by decide +kernel
theorem dX9_init_67 : decode cX9_init 67 = .ok (.putfield 32, 3) := by decide +kernel
theorem dX9_init_70 : decode cX9_init 70 = .ok (.aload_n 0, 1) := by decide +kernel
theorem dX9_init_71 : decode cX9_init 71 = .ok (.bipush 80, 2) := by decide +kernel
theorem dX9_init_73 : decode cX9_init 73 = .ok (.newarray .int, 2) := by decide +kernel
theorem dX9_init_75 : decode cX9_init 75 = .ok (.putfield 35, 3) := by decide +kernel
theorem dX9_init_78 : decode cX9_init 78 = .ok (.aload_n 0, 1) := by decide +kernel
theorem dX9_init_79 : decode cX9_init 79 = .ok (.bipush 120, 2) := by decide +kernel
theorem dX9_init_81 : decode cX9_init 81 = .ok (.newarray .int, 2) := by decide +kernel
theorem dX9_init_83 : decode cX9_init 83 = .ok (.putfield 38, 3) := by decide +kernel
theorem dX9_init_86 : decode cX9_init 86 = .ok (.aload_n 0, 1) := by decide +kernel
theorem dX9_init_87 : decode cX9_init 87 = .ok (.getfield 7, 3) := by decide +kernel
theorem dX9_init_90 : decode cX9_init 90 = .ok (.iconst 2, 1) := by decide +kernel
theorem dX9_init_91 : decode cX9_init 91 = .ok (.iconst 3, 1) := by decide +kernel
theorem dX9_init_92 : decode cX9_init 92 = .ok (.iastore, 1) := by decide +kernel
theorem dX9_init_93 : decode cX9_init 93 = .ok (.aload_n 0, 1) := by decide +kernel
theorem dX9_init_94 : decode cX9_init 94 = .ok (.getfield 7, 3) := by decide +kernel
theorem dX9_init_97 : decode cX9_init 97 = .ok (.iconst 3, 1) := by decide +kernel
theorem dX9_init_98 : decode cX9_init 98 = .ok (.bipush 12, 2) := by decide +kernel
theorem dX9_init_100 : decode cX9_init 100 = .ok (.iastore, 1) := by decide +kernel
theorem dX9_init_101 : decode cX9_init 101 = .ok (.aload_n 0, 1) := by decide +kernel
theorem dX9_init_102 : decode cX9_init 102 = .ok (.getfield 7, 3) := by decide +kernel
theorem dX9_init_105 : decode cX9_init 105 = .ok (.iconst 4, 1) := by decide +kernel
theorem dX9_init_106 : decode cX9_init 106 = .ok (.iconst 2, 1) := by decide +kernel
theorem dX9_init_107 : decode cX9_init 107 = .ok (.iastore, 1) := by decide +kernel
theorem dX9_init_108 : decode cX9_init 108 = .ok (.return_, 1) := by decide +kernel
theorem dX9_in_0 : decode cX9_in 0 = .ok (.iload_n 0, 1) := by decide +kernel
theorem dX9_in_1 : decode cX9_in 1 = .ok (.iload_n 1, 1) := by decide +kernel
theorem dX9_in_2 : decode cX9_in 2 = .ok (.if_icmp .lt 12, 3) := by decide +kernel
theorem dX9_in_5 : decode cX9_in 5 = .ok (.iload_n 0, 1) := by decide +kernel
theorem dX9_in_6 : decode cX9_in 6 = .ok (.iload_n 2, 1) := by decide +kernel
theorem dX9_in_7 : decode cX9_in 7 = .ok (.if_icmp .gt 7, 3) := by decide +kernel
theorem dX9_in_10 : decode cX9_in 10 = .ok (.iconst 1, 1) := by decide +kernel
theorem dX9_in_11 : decode cX9_in 11 = .ok (.goto 4, 3) := by decide +kernel
theorem dX9_in_14 : decode cX9_in 14 = .ok (.iconst 0, 1) := by decide +kernel
theorem dX9_in_15 : decode cX9_in 15 = .ok (.ireturn, 1) := by decide +kernel
theorem dX9_of0_0 : decode cX9_of0 0 = .ok (.aload_n 0, 1) := by decide +kernel
theorem dX9_of0_1 : decode cX9_of0 1 = .ok (.getfield 7, 3) := by decide +kernel
theorem dX9_of0_4 : decode cX9_of0 4 = .ok (.bipush 125, 2) := by decide +kernel
theorem dX9_of0_6 : decode cX9_of0 6 = .ok (.bipush 80, 2) := by decide +kernel
theorem dX9_of0_8 : decode cX9_of0 8 = .ok (.iload_n 1, 1) := by decide +kernel
theorem dX9_of0_9 : decode cX9_of0 9 = .ok (.imul, 1) := by decide +kernel
theorem dX9_of0_10 : decode cX9_of0 10 = .ok (.iadd, 1) := by decide +kernel
theorem dX9_of0_11 : decode cX9_of0 11 = .ok (.iload_n 2, 1) := by decide +kernel
theorem dX9_of0_12 : decode cX9_of0 12 = .ok (.iadd, 1) := by decide +kernel
theorem dX9_of0_13 : decode cX9_of0 13 = .ok (.iaload, 1) := by decide +kernel
theorem dX9_of0_14 : decode cX9_of0 14 = .ok (.ireturn, 1) := by decide +kernel
theorem dX9_isNote_0 : decode cX9_isNote 0 = .ok (.iload_n 1, 1) := by decide +kernel
theorem dX9_isNote_1 : decode cX9_isNote 1 = .ok (.iconst 0, 1) := by decide +kernel
theorem dX9_isNote_2 : decode cX9_isNote 2 = .ok (.aload_n 0, 1) := by decide +kernel
theorem dX9_isNote_3 : decode cX9_isNote 3 = .ok (.getfield 7, 3) := by decide +kernel
theorem dX9_isNote_6 : decode cX9_isNote 6 = .ok (.iconst 1, 1) := by decide +kernel
theorem dX9_isNote_7 : decode cX9_isNote 7 = .ok (.iaload, 1) := by decide +kernel
theorem dX9_isNote_8 : decode cX9_isNote 8 = .ok (.iconst 1, 1) := by decide +kernel
theorem dX9_isNote_9 : decode cX9_isNote 9 = .ok (.isub, 1) := by decide +kernel
theorem dX9_isNote_10 : decode cX9_isNote 10 = .ok (.invokestatic 41, 3) := by decide +kernel
theorem dX9_isNote_13 : decode cX9_isNote 13 = .ok (.ireturn, 1) := by decide +kernel
theorem dX9_isReply_0 : decode cX9_isReply 0 = .ok (.aload_n 0, 1) := by decide +kernel
theorem dX9_isReply_1 : decode cX9_isReply 1 = .ok (.iload_n 1, 1) := by decide +kernel
theorem dX9_isReply_2 : decode cX9_isReply 2 = .ok (.iconst 0, 1) := by decide +kernel
theorem dX9_isReply_3 : decode cX9_isReply 3 = .ok (.invokevirtual 45, 3) := by decide +kernel
theorem dX9_isReply_6 : decode cX9_isReply 6 = .ok (.bipush (-6), 2) := by decide +kernel
theorem dX9_isReply_8 : decode cX9_isReply 8 = .ok (.if_icmp .eq 7, 3) := by decide +kernel
theorem dX9_isReply_11 : decode cX9_isReply 11 = .ok (.iconst 1, 1) := by decide +kernel
theorem dX9_isReply_12 : decode cX9_isReply 12 = .ok (.goto 4, 3) := by decide +kernel
theorem dX9_isReply_15 : decode cX9_isReply 15 = .ok (.iconst 0, 1) := by decide +kernel
theorem dX9_isReply_16 : decode cX9_isReply 16 = .ok (.ireturn, 1) := by decide +kernel
theorem dX9_isPlace_0 : decode cX9_isPlace 0 = .ok (.iload_n 1, 1) := by decide +kernel
theorem dX9_isPlace_1 : decode cX9_isPlace 1 = .ok (.iconst 0, 1) := by decide +kernel
theorem dX9_isPlace_2 : decode cX9_isPlace 2 = .ok (.aload_n 0, 1) := by decide +kernel
theorem dX9_isPlace_3 : decode cX9_isPlace 3 = .ok (.getfield 7, 3) := by decide +kernel
theorem dX9_isPlace_6 : decode cX9_isPlace 6 = .ok (.iconst 0, 1) := by decide +kernel
theorem dX9_isPlace_7 : decode cX9_isPlace 7 = .ok (.iaload, 1) := by decide +kernel
theorem dX9_isPlace_8 : decode cX9_isPlace 8 = .ok (.iconst 1, 1) := by decide +kernel
theorem dX9_isPlace_9 : decode cX9_isPlace 9 = .ok (.isub, 1) := by decide +kernel
theorem dX9_isPlace_10 : decode cX9_isPlace 10 = .ok (.invokestatic 41, 3) := by decide +kernel
theorem dX9_isPlace_13 : decode cX9_isPlace 13 = .ok (.ireturn, 1) := by decide +kernel
theorem dX9_isOf_0 : decode cX9_isOf 0 = .ok (.aload_n 0, 1) := by decide +kernel
theorem dX9_isOf_1 : decode cX9_isOf 1 = .ok (.getfield 7, 3) := by decide +kernel
theorem dX9_isOf_4 : decode cX9_isOf 4 = .ok (.bipush 65, 2) := by decide +kernel
theorem dX9_isOf_6 : decode cX9_isOf 6 = .ok (.iload_n 1, 1) := by decide +kernel
theorem dX9_isOf_7 : decode cX9_isOf 7 = .ok (.iadd, 1) := by decide +kernel
theorem dX9_isOf_8 : decode cX9_isOf 8 = .ok (.iaload, 1) := by decide +kernel
theorem dX9_isOf_9 : decode cX9_isOf 9 = .ok (.iload_n 2, 1) := by decide +kernel
theorem dX9_isOf_10 : decode cX9_isOf 10 = .ok (.ishr, 1) := by decide +kernel
theorem dX9_isOf_11 : decode cX9_isOf 11 = .ok (.iconst 1, 1) := by decide +kernel
theorem dX9_isOf_12 : decode cX9_isOf 12 = .ok (.iand, 1) := by decide +kernel
theorem dX9_isOf_13 : decode cX9_isOf 13 = .ok (.iconst 1, 1) := by decide +kernel
theorem dX9_isOf_14 : decode cX9_isOf 14 = .ok (.if_icmp .ne 7, 3) := by decide +kernel
theorem dX9_isOf_17 : decode cX9_isOf 17 = .ok (.iconst 1, 1) := by decide +kernel
theorem dX9_isOf_18 : decode cX9_isOf 18 = .ok (.goto 4, 3) := by decide +kernel
theorem dX9_isOf_21 : decode cX9_isOf 21 = .ok (.iconst 0, 1) := by decide +kernel
theorem dX9_isOf_22 : decode cX9_isOf 22 = .ok (.ireturn, 1) := by decide +kernel
theorem dX9_lays_0 : decode cX9_lays 0 = .ok (.iconst 0, 1) := by decide +kernel
theorem dX9_lays_1 : decode cX9_lays 1 = .ok (.istore 4, 2) := by decide +kernel
theorem dX9_lays_3 : decode cX9_lays 3 = .ok (.iload 4, 2) := by decide +kernel
theorem dX9_lays_5 : decode cX9_lays 5 = .ok (.sipush 1405, 3) := by decide +kernel
theorem dX9_lays_8 : decode cX9_lays 8 = .ok (.if_icmp .ge 21, 3) := by decide +kernel
theorem dX9_lays_11 : decode cX9_lays 11 = .ok (.aload_n 2, 1) := by decide +kernel
theorem dX9_lays_12 : decode cX9_lays 12 = .ok (.iload_n 3, 1) := by decide +kernel
theorem dX9_lays_13 : decode cX9_lays 13 = .ok (.iload 4, 2) := by decide +kernel
theorem dX9_lays_15 : decode cX9_lays 15 = .ok (.iadd, 1) := by decide +kernel
theorem dX9_lays_16 : decode cX9_lays 16 = .ok (.aload_n 0, 1) := by decide +kernel
theorem dX9_lays_17 : decode cX9_lays 17 = .ok (.iload_n 1, 1) := by decide +kernel
theorem dX9_lays_18 : decode cX9_lays 18 = .ok (.iload 4, 2) := by decide +kernel
theorem dX9_lays_20 : decode cX9_lays 20 = .ok (.iadd, 1) := by decide +kernel
theorem dX9_lays_21 : decode cX9_lays 21 = .ok (.iaload, 1) := by decide +kernel
theorem dX9_lays_22 : decode cX9_lays 22 = .ok (.iastore, 1) := by decide +kernel
theorem dX9_lays_23 : decode cX9_lays 23 = .ok (.iinc 4 1, 3) := by decide +kernel
theorem dX9_lays_26 : decode cX9_lays 26 = .ok (.goto (-23), 3) := by decide +kernel
theorem dX9_lays_29 : decode cX9_lays 29 = .ok (.return_, 1) := by decide +kernel
theorem dX9_records_0 : decode cX9_records 0 = .ok (.aload_n 0, 1) := by decide +kernel
theorem dX9_records_1 : decode cX9_records 1 = .ok (.getfield 49, 3) := by decide +kernel
theorem dX9_records_4 : decode cX9_records 4 = .ok (.bipush 6, 2) := by decide +kernel
theorem dX9_records_6 : decode cX9_records 6 = .ok (.if_icmp .ne 44, 3) := by decide +kernel
theorem dX9_records_9 : decode cX9_records 9 = .ok (.iconst 0, 1) := by decide +kernel
theorem dX9_records_10 : decode cX9_records 10 = .ok (.istore_n 1, 1) := by decide +kernel
theorem dX9_records_11 : decode cX9_records 11 = .ok (.iload_n 1, 1) := by decide +kernel
theorem dX9_records_12 : decode cX9_records 12 = .ok (.sipush 7025, 3) := by decide +kernel
theorem dX9_records_15 : decode cX9_records 15 = .ok (.if_icmp .ge 25, 3) := by decide +kernel
theorem dX9_records_18 : decode cX9_records 18 = .ok (.aload_n 0, 1) := by decide +kernel
theorem dX9_records_19 : decode cX9_records 19 = .ok (.getfield 13, 3) := by decide +kernel
theorem dX9_records_22 : decode cX9_records 22 = .ok (.iload_n 1, 1) := by decide +kernel
theorem dX9_records_23 : decode cX9_records 23 = .ok (.aload_n 0, 1) := by decide +kernel
theorem dX9_records_24 : decode cX9_records 24 = .ok (.getfield 13, 3) := by decide +kernel
theorem dX9_records_27 : decode cX9_records 27 = .ok (.iload_n 1, 1) := by decide +kernel
theorem dX9_records_28 : decode cX9_records 28 = .ok (.sipush 1405, 3) := by decide +kernel
theorem dX9_records_31 : decode cX9_records 31 = .ok (.iadd, 1) := by decide +kernel
theorem dX9_records_32 : decode cX9_records 32 = .ok (.iaload, 1) := by decide +kernel
theorem dX9_records_33 : decode cX9_records 33 = .ok (.iastore, 1) := by decide +kernel
theorem dX9_records_34 : decode cX9_records 34 = .ok (.iinc 1 1, 3) := by decide +kernel
theorem dX9_records_37 : decode cX9_records 37 = .ok (.goto (-26), 3) := by decide +kernel
theorem dX9_records_40 : decode cX9_records 40 = .ok (.aload_n 0, 1) := by decide +kernel
theorem dX9_records_41 : decode cX9_records 41 = .ok (.dup, 1) := by decide +kernel
theorem dX9_records_42 : decode cX9_records 42 = .ok (.getfield 49, 3) := by decide +kernel
theorem dX9_records_45 : decode cX9_records 45 = .ok (.iconst 1, 1) := by decide +kernel
theorem dX9_records_46 : decode cX9_records 46 = .ok (.isub, 1) := by decide +kernel
theorem dX9_records_47 : decode cX9_records 47 = .ok (.putfield 49, 3) := by decide +kernel
theorem dX9_records_50 : decode cX9_records 50 = .ok (.aload_n 0, 1) := by decide +kernel
theorem dX9_records_51 : decode cX9_records 51 = .ok (.getfield 7, 3) := by decide +kernel
theorem dX9_records_54 : decode cX9_records 54 = .ok (.iconst 0, 1) := by decide +kernel
theorem dX9_records_55 : decode cX9_records 55 = .ok (.aload_n 0, 1) := by decide +kernel
theorem dX9_records_56 : decode cX9_records 56 = .ok (.getfield 13, 3) := by decide +kernel
theorem dX9_records_59 : decode cX9_records 59 = .ok (.sipush 1405, 3) := by decide +kernel
theorem dX9_records_62 : decode cX9_records 62 = .ok (.aload_n 0, 1) := by decide +kernel
theorem dX9_records_63 : decode cX9_records 63 = .ok (.getfield 49, 3) := by decide +kernel
theorem dX9_records_66 : decode cX9_records 66 = .ok (.imul, 1) := by decide +kernel
theorem dX9_records_67 : decode cX9_records 67 = .ok (.invokestatic 53, 3) := by decide +kernel
theorem dX9_records_70 : decode cX9_records 70 = .ok (.aload_n 0, 1) := by decide +kernel
theorem dX9_records_71 : decode cX9_records 71 = .ok (.dup, 1) := by decide +kernel
theorem dX9_records_72 : decode cX9_records 72 = .ok (.getfield 49, 3) := by decide +kernel
theorem dX9_records_75 : decode cX9_records 75 = .ok (.iconst 1, 1) := by decide +kernel
theorem dX9_records_76 : decode cX9_records 76 = .ok (.iadd, 1) := by decide +kernel
theorem dX9_records_77 : decode cX9_records 77 = .ok (.putfield 49, 3) := by decide +kernel
theorem dX9_records_80 : decode cX9_records 80 = .ok (.return_, 1) := by decide +kernel
theorem dX9_undo_0 : decode cX9_undo 0 = .ok (.aload_n 0, 1) := by decide +kernel
theorem dX9_undo_1 : decode cX9_undo 1 = .ok (.getfield 49, 3) := by decide +kernel
theorem dX9_undo_4 : decode cX9_undo 4 = .ok (.ifCond .ne 6, 3) := by decide +kernel
theorem dX9_undo_7 : decode cX9_undo 7 = .ok (.bipush (-5), 2) := by decide +kernel
theorem dX9_undo_9 : decode cX9_undo 9 = .ok (.ireturn, 1) := by decide +kernel
theorem dX9_undo_10 : decode cX9_undo 10 = .ok (.aload_n 0, 1) := by decide +kernel
theorem dX9_undo_11 : decode cX9_undo 11 = .ok (.dup, 1) := by decide +kernel
theorem dX9_undo_12 : decode cX9_undo 12 = .ok (.getfield 49, 3) := by decide +kernel
theorem dX9_undo_15 : decode cX9_undo 15 = .ok (.iconst 1, 1) := by decide +kernel
theorem dX9_undo_16 : decode cX9_undo 16 = .ok (.isub, 1) := by decide +kernel
theorem dX9_undo_17 : decode cX9_undo 17 = .ok (.putfield 49, 3) := by decide +kernel
theorem dX9_undo_20 : decode cX9_undo 20 = .ok (.aload_n 0, 1) := by decide +kernel
theorem dX9_undo_21 : decode cX9_undo 21 = .ok (.getfield 13, 3) := by decide +kernel
theorem dX9_undo_24 : decode cX9_undo 24 = .ok (.sipush 1405, 3) := by decide +kernel
theorem dX9_undo_27 : decode cX9_undo 27 = .ok (.aload_n 0, 1) := by decide +kernel
theorem dX9_undo_28 : decode cX9_undo 28 = .ok (.getfield 49, 3) := by decide +kernel
theorem dX9_undo_31 : decode cX9_undo 31 = .ok (.imul, 1) := by decide +kernel
theorem dX9_undo_32 : decode cX9_undo 32 = .ok (.aload_n 0, 1) := by decide +kernel
theorem dX9_undo_33 : decode cX9_undo 33 = .ok (.getfield 7, 3) := by decide +kernel
theorem dX9_undo_36 : decode cX9_undo 36 = .ok (.iconst 0, 1) := by decide +kernel
theorem dX9_undo_37 : decode cX9_undo 37 = .ok (.invokestatic 53, 3) := by decide +kernel
theorem dX9_undo_40 : decode cX9_undo 40 = .ok (.aload_n 0, 1) := by decide +kernel
theorem dX9_undo_41 : decode cX9_undo 41 = .ok (.getfield 49, 3) := by decide +kernel
theorem dX9_undo_44 : decode cX9_undo 44 = .ok (.ireturn, 1) := by decide +kernel
theorem dX9_save_0 : decode cX9_save 0 = .ok (.iload_n 1, 1) := by decide +kernel
theorem dX9_save_1 : decode cX9_save 1 = .ok (.iconst 0, 1) := by decide +kernel
theorem dX9_save_2 : decode cX9_save 2 = .ok (.iconst 1, 1) := by decide +kernel
theorem dX9_save_3 : decode cX9_save 3 = .ok (.invokestatic 41, 3) := by decide +kernel
theorem dX9_save_6 : decode cX9_save 6 = .ok (.ifCond .ne 6, 3) := by decide +kernel
theorem dX9_save_9 : decode cX9_save 9 = .ok (.bipush (-2), 2) := by decide +kernel
theorem dX9_save_11 : decode cX9_save 11 = .ok (.ireturn, 1) := by decide +kernel
theorem dX9_save_12 : decode cX9_save 12 = .ok (.aload_n 0, 1) := by decide +kernel
theorem dX9_save_13 : decode cX9_save 13 = .ok (.getfield 7, 3) := by decide +kernel
theorem dX9_save_16 : decode cX9_save 16 = .ok (.iconst 0, 1) := by decide +kernel
theorem dX9_save_17 : decode cX9_save 17 = .ok (.aload_n 0, 1) := by decide +kernel
theorem dX9_save_18 : decode cX9_save 18 = .ok (.getfield 16, 3) := by decide +kernel
theorem dX9_save_21 : decode cX9_save 21 = .ok (.sipush 1405, 3) := by decide +kernel
theorem dX9_save_24 : decode cX9_save 24 = .ok (.iload_n 1, 1) := by decide +kernel
theorem dX9_save_25 : decode cX9_save 25 = .ok (.imul, 1) := by decide +kernel
theorem dX9_save_26 : decode cX9_save 26 = .ok (.invokestatic 53, 3) := by decide +kernel
theorem dX9_save_29 : decode cX9_save 29 = .ok (.aload_n 0, 1) := by decide +kernel
theorem dX9_save_30 : decode cX9_save 30 = .ok (.getfield 19, 3) := by decide +kernel
theorem dX9_save_33 : decode cX9_save 33 = .ok (.iload_n 1, 1) := by decide +kernel
theorem dX9_save_34 : decode cX9_save 34 = .ok (.iconst 1, 1) := by decide +kernel
theorem dX9_save_35 : decode cX9_save 35 = .ok (.bastore, 1) := by decide +kernel
theorem dX9_save_36 : decode cX9_save 36 = .ok (.aload_n 0, 1) := by decide +kernel
theorem dX9_save_37 : decode cX9_save 37 = .ok (.getfield 7, 3) := by decide +kernel
theorem dX9_save_40 : decode cX9_save 40 = .ok (.iconst 0, 1) := by decide +kernel
theorem dX9_save_41 : decode cX9_save 41 = .ok (.iaload, 1) := by decide +kernel
theorem dX9_save_42 : decode cX9_save 42 = .ok (.ireturn, 1) := by decide +kernel
theorem dX9_restore_0 : decode cX9_restore 0 = .ok (.iload_n 1, 1) := by decide +kernel
theorem dX9_restore_1 : decode cX9_restore 1 = .ok (.iconst 0, 1) := by decide +kernel
theorem dX9_restore_2 : decode cX9_restore 2 = .ok (.iconst 1, 1) := by decide +kernel
theorem dX9_restore_3 : decode cX9_restore 3 = .ok (.invokestatic 41, 3) := by decide +kernel
theorem dX9_restore_6 : decode cX9_restore 6 = .ok (.ifCond .ne 6, 3) := by decide +kernel
theorem dX9_restore_9 : decode cX9_restore 9 = .ok (.bipush (-2), 2) := by decide +kernel
theorem dX9_restore_11 : decode cX9_restore 11 = .ok (.ireturn, 1) := by decide +kernel
theorem dX9_restore_12 : decode cX9_restore 12 = .ok (.aload_n 0, 1) := by decide +kernel
theorem dX9_restore_13 : decode cX9_restore 13 = .ok (.getfield 19, 3) := by decide +kernel
theorem dX9_restore_16 : decode cX9_restore 16 = .ok (.iload_n 1, 1) := by decide +kernel
theorem dX9_restore_17 : decode cX9_restore 17 = .ok (.baload, 1) := by decide +kernel
theorem dX9_restore_18 : decode cX9_restore 18 = .ok (.ifCond .ne 6, 3) := by decide +kernel
theorem dX9_restore_21 : decode cX9_restore 21 = .ok (.bipush (-5), 2) := by decide +kernel
theorem dX9_restore_23 : decode cX9_restore 23 = .ok (.ireturn, 1) := by decide +kernel
theorem dX9_restore_24 : decode cX9_restore 24 = .ok (.aload_n 0, 1) := by decide +kernel
theorem dX9_restore_25 : decode cX9_restore 25 = .ok (.invokevirtual 57, 3) := by decide +kernel
theorem dX9_restore_28 : decode cX9_restore 28 = .ok (.aload_n 0, 1) := by decide +kernel
theorem dX9_restore_29 : decode cX9_restore 29 = .ok (.getfield 16, 3) := by decide +kernel
theorem dX9_restore_32 : decode cX9_restore 32 = .ok (.sipush 1405, 3) := by decide +kernel
theorem dX9_restore_35 : decode cX9_restore 35 = .ok (.iload_n 1, 1) := by decide +kernel
theorem dX9_restore_36 : decode cX9_restore 36 = .ok (.imul, 1) := by decide +kernel
theorem dX9_restore_37 : decode cX9_restore 37 = .ok (.aload_n 0, 1) := by decide +kernel
theorem dX9_restore_38 : decode cX9_restore 38 = .ok (.getfield 7, 3) := by decide +kernel
theorem dX9_restore_41 : decode cX9_restore 41 = .ok (.iconst 0, 1) := by decide +kernel
theorem dX9_restore_42 : decode cX9_restore 42 = .ok (.invokestatic 53, 3) := by decide +kernel
theorem dX9_restore_45 : decode cX9_restore 45 = .ok (.aload_n 0, 1) := by decide +kernel
theorem dX9_restore_46 : decode cX9_restore 46 = .ok (.getfield 7, 3) := by decide +kernel
theorem dX9_restore_49 : decode cX9_restore 49 = .ok (.iconst 0, 1) := by decide +kernel
theorem dX9_restore_50 : decode cX9_restore 50 = .ok (.iaload, 1) := by decide +kernel
theorem dX9_restore_51 : decode cX9_restore 51 = .ok (.ireturn, 1) := by decide +kernel
theorem dX9_present_0 : decode cX9_present 0 = .ok (.iconst 0, 1) := by decide +kernel
theorem dX9_present_1 : decode cX9_present 1 = .ok (.istore_n 2, 1) := by decide +kernel
theorem dX9_present_2 : decode cX9_present 2 = .ok (.iconst 0, 1) := by decide +kernel
theorem dX9_present_3 : decode cX9_present 3 = .ok (.istore_n 3, 1) := by decide +kernel
theorem dX9_present_4 : decode cX9_present 4 = .ok (.iload_n 3, 1) := by decide +kernel
theorem dX9_present_5 : decode cX9_present 5 = .ok (.aload_n 0, 1) := by decide +kernel
theorem dX9_present_6 : decode cX9_present 6 = .ok (.getfield 7, 3) := by decide +kernel
theorem dX9_present_9 : decode cX9_present 9 = .ok (.iconst 0, 1) := by decide +kernel
theorem dX9_present_10 : decode cX9_present 10 = .ok (.iaload, 1) := by decide +kernel
theorem dX9_present_11 : decode cX9_present 11 = .ok (.if_icmp .ge 26, 3) := by decide +kernel
theorem dX9_present_14 : decode cX9_present 14 = .ok (.iload_n 2, 1) := by decide +kernel
theorem dX9_present_15 : decode cX9_present 15 = .ok (.aload_n 0, 1) := by decide +kernel
theorem dX9_present_16 : decode cX9_present 16 = .ok (.iload_n 3, 1) := by decide +kernel
theorem dX9_present_17 : decode cX9_present 17 = .ok (.iload_n 1, 1) := by decide +kernel
theorem dX9_present_18 : decode cX9_present 18 = .ok (.invokevirtual 60, 3) := by decide +kernel
theorem dX9_present_21 : decode cX9_present 21 = .ok (.ifCond .eq 7, 3) := by decide +kernel
theorem dX9_present_24 : decode cX9_present 24 = .ok (.iconst 1, 1) := by decide +kernel
theorem dX9_present_25 : decode cX9_present 25 = .ok (.goto 4, 3) := by decide +kernel
theorem dX9_present_28 : decode cX9_present 28 = .ok (.iconst 0, 1) := by decide +kernel
theorem dX9_present_29 : decode cX9_present 29 = .ok (.iadd, 1) := by decide +kernel
theorem dX9_present_30 : decode cX9_present 30 = .ok (.istore_n 2, 1) := by decide +kernel
theorem dX9_present_31 : decode cX9_present 31 = .ok (.iinc 3 1, 3) := by decide +kernel
theorem dX9_present_34 : decode cX9_present 34 = .ok (.goto (-30), 3) := by decide +kernel
theorem dX9_present_37 : decode cX9_present 37 = .ok (.iload_n 2, 1) := by decide +kernel
theorem dX9_present_38 : decode cX9_present 38 = .ok (.ireturn, 1) := by decide +kernel
theorem dX9_isOrphan_0 : decode cX9_isOrphan 0 = .ok (.aload_n 0, 1) := by decide +kernel
theorem dX9_isOrphan_1 : decode cX9_isOrphan 1 = .ok (.iload_n 1, 1) := by decide +kernel
theorem dX9_isOrphan_2 : decode cX9_isOrphan 2 = .ok (.invokevirtual 64, 3) := by decide +kernel
theorem dX9_isOrphan_5 : decode cX9_isOrphan 5 = .ok (.ifCond .ne 15, 3) := by decide +kernel
theorem dX9_isOrphan_8 : decode cX9_isOrphan 8 = .ok (.aload_n 0, 1) := by decide +kernel
theorem dX9_isOrphan_9 : decode cX9_isOrphan 9 = .ok (.iload_n 1, 1) := by decide +kernel
theorem dX9_isOrphan_10 : decode cX9_isOrphan 10 = .ok (.invokevirtual 68, 3) := by decide +kernel
theorem dX9_isOrphan_13 : decode cX9_isOrphan 13 = .ok (.ifCond .ne 7, 3) := by decide +kernel
theorem dX9_isOrphan_16 : decode cX9_isOrphan 16 = .ok (.iconst 1, 1) := by decide +kernel
theorem dX9_isOrphan_17 : decode cX9_isOrphan 17 = .ok (.goto 4, 3) := by decide +kernel
theorem dX9_isOrphan_20 : decode cX9_isOrphan 20 = .ok (.iconst 0, 1) := by decide +kernel
theorem dX9_isOrphan_21 : decode cX9_isOrphan 21 = .ok (.ireturn, 1) := by decide +kernel
theorem dX9_finds_0 : decode cX9_finds 0 = .ok (.aload_n 0, 1) := by decide +kernel
theorem dX9_finds_1 : decode cX9_finds 1 = .ok (.iconst 0, 1) := by decide +kernel
theorem dX9_finds_2 : decode cX9_finds 2 = .ok (.putfield 72, 3) := by decide +kernel
theorem dX9_finds_5 : decode cX9_finds 5 = .ok (.aload_n 0, 1) := by decide +kernel
theorem dX9_finds_6 : decode cX9_finds 6 = .ok (.bipush (-6), 2) := by decide +kernel
theorem dX9_finds_8 : decode cX9_finds 8 = .ok (.putfield 75, 3) := by decide +kernel
theorem dX9_finds_11 : decode cX9_finds 11 = .ok (.aload_n 0, 1) := by decide +kernel
theorem dX9_finds_12 : decode cX9_finds 12 = .ok (.bipush (-6), 2) := by decide +kernel
theorem dX9_finds_14 : decode cX9_finds 14 = .ok (.putfield 78, 3) := by decide +kernel
theorem dX9_finds_17 : decode cX9_finds 17 = .ok (.iconst 0, 1) := by decide +kernel
theorem dX9_finds_18 : decode cX9_finds 18 = .ok (.istore_n 2, 1) := by decide +kernel
theorem dX9_finds_19 : decode cX9_finds 19 = .ok (.iconst 0, 1) := by decide +kernel
theorem dX9_finds_20 : decode cX9_finds 20 = .ok (.istore_n 3, 1) := by decide +kernel
theorem dX9_finds_21 : decode cX9_finds 21 = .ok (.iconst 0, 1) := by decide +kernel
theorem dX9_finds_22 : decode cX9_finds 22 = .ok (.istore 4, 2) := by decide +kernel
theorem dX9_finds_24 : decode cX9_finds 24 = .ok (.iload 4, 2) := by decide +kernel
theorem dX9_finds_26 : decode cX9_finds 26 = .ok (.aload_n 0, 1) := by decide +kernel
theorem dX9_finds_27 : decode cX9_finds 27 = .ok (.getfield 7, 3) := by decide +kernel
theorem dX9_finds_30 : decode cX9_finds 30 = .ok (.iconst 0, 1) := by decide +kernel
theorem dX9_finds_31 : decode cX9_finds 31 = .ok (.iaload, 1) := by decide +kernel
theorem dX9_finds_32 : decode cX9_finds 32 = .ok (.if_icmp .ge 59, 3) := by decide +kernel
theorem dX9_finds_35 : decode cX9_finds 35 = .ok (.aload_n 0, 1) := by decide +kernel
theorem dX9_finds_36 : decode cX9_finds 36 = .ok (.iload 4, 2) := by decide +kernel
theorem dX9_finds_38 : decode cX9_finds 38 = .ok (.iload_n 1, 1) := by decide +kernel
theorem dX9_finds_39 : decode cX9_finds 39 = .ok (.invokevirtual 60, 3) := by decide +kernel
theorem dX9_finds_42 : decode cX9_finds 42 = .ok (.ifCond .eq 9, 3) := by decide +kernel
theorem dX9_finds_45 : decode cX9_finds 45 = .ok (.iload_n 3, 1) := by decide +kernel
theorem dX9_finds_46 : decode cX9_finds 46 = .ok (.iconst 1, 1) := by decide +kernel
theorem dX9_finds_47 : decode cX9_finds 47 = .ok (.iadd, 1) := by decide +kernel
theorem dX9_finds_48 : decode cX9_finds 48 = .ok (.goto 4, 3) := by decide +kernel
theorem dX9_finds_51 : decode cX9_finds 51 = .ok (.iconst 0, 1) := by decide +kernel
theorem dX9_finds_52 : decode cX9_finds 52 = .ok (.istore_n 3, 1) := by decide +kernel
theorem dX9_finds_53 : decode cX9_finds 53 = .ok (.aload_n 0, 1) := by decide +kernel
theorem dX9_finds_54 : decode cX9_finds 54 = .ok (.dup, 1) := by decide +kernel
theorem dX9_finds_55 : decode cX9_finds 55 = .ok (.getfield 72, 3) := by decide +kernel
theorem dX9_finds_58 : decode cX9_finds 58 = .ok (.iload_n 3, 1) := by decide +kernel
theorem dX9_finds_59 : decode cX9_finds 59 = .ok (.iconst 1, 1) := by decide +kernel
theorem dX9_finds_60 : decode cX9_finds 60 = .ok (.if_icmp .ne 7, 3) := by decide +kernel
theorem dX9_finds_63 : decode cX9_finds 63 = .ok (.iconst 1, 1) := by decide +kernel
theorem dX9_finds_64 : decode cX9_finds 64 = .ok (.goto 4, 3) := by decide +kernel
theorem dX9_finds_67 : decode cX9_finds 67 = .ok (.iconst 0, 1) := by decide +kernel
theorem dX9_finds_68 : decode cX9_finds 68 = .ok (.iadd, 1) := by decide +kernel
theorem dX9_finds_69 : decode cX9_finds 69 = .ok (.putfield 72, 3) := by decide +kernel
theorem dX9_finds_72 : decode cX9_finds 72 = .ok (.iload_n 3, 1) := by decide +kernel
theorem dX9_finds_73 : decode cX9_finds 73 = .ok (.iload_n 2, 1) := by decide +kernel
theorem dX9_finds_74 : decode cX9_finds 74 = .ok (.if_icmp .le 11, 3) := by decide +kernel
theorem dX9_finds_77 : decode cX9_finds 77 = .ok (.iload_n 3, 1) := by decide +kernel
theorem dX9_finds_78 : decode cX9_finds 78 = .ok (.istore_n 2, 1) := by decide +kernel
theorem dX9_finds_79 : decode cX9_finds 79 = .ok (.aload_n 0, 1) := by decide +kernel
theorem dX9_finds_80 : decode cX9_finds 80 = .ok (.iload 4, 2) := by decide +kernel
theorem dX9_finds_82 : decode cX9_finds 82 = .ok (.putfield 78, 3) := by decide +kernel
theorem dX9_finds_85 : decode cX9_finds 85 = .ok (.iinc 4 1, 3) := by decide +kernel
theorem dX9_finds_88 : decode cX9_finds 88 = .ok (.goto (-64), 3) := by decide +kernel
theorem dX9_finds_91 : decode cX9_finds 91 = .ok (.aload_n 0, 1) := by decide +kernel
theorem dX9_finds_92 : decode cX9_finds 92 = .ok (.iload_n 2, 1) := by decide +kernel
theorem dX9_finds_93 : decode cX9_finds 93 = .ok (.ifCond .ne 8, 3) := by decide +kernel
theorem dX9_finds_96 : decode cX9_finds 96 = .ok (.bipush (-6), 2) := by decide +kernel
theorem dX9_finds_98 : decode cX9_finds 98 = .ok (.goto 11, 3) := by decide +kernel
theorem dX9_finds_101 : decode cX9_finds 101 = .ok (.aload_n 0, 1) := by decide +kernel
theorem dX9_finds_102 : decode cX9_finds 102 = .ok (.getfield 78, 3) := by decide +kernel
theorem dX9_finds_105 : decode cX9_finds 105 = .ok (.iload_n 2, 1) := by decide +kernel
theorem dX9_finds_106 : decode cX9_finds 106 = .ok (.isub, 1) := by decide +kernel
theorem dX9_finds_107 : decode cX9_finds 107 = .ok (.iconst 1, 1) := by decide +kernel
theorem dX9_finds_108 : decode cX9_finds 108 = .ok (.iadd, 1) := by decide +kernel
theorem dX9_finds_109 : decode cX9_finds 109 = .ok (.putfield 75, 3) := by decide +kernel
theorem dX9_finds_112 : decode cX9_finds 112 = .ok (.return_, 1) := by decide +kernel
theorem dX9_torn_0 : decode cX9_torn 0 = .ok (.iconst 0, 1) := by decide +kernel
theorem dX9_torn_1 : decode cX9_torn 1 = .ok (.istore_n 1, 1) := by decide +kernel
theorem dX9_torn_2 : decode cX9_torn 2 = .ok (.iconst 0, 1) := by decide +kernel
theorem dX9_torn_3 : decode cX9_torn 3 = .ok (.istore_n 2, 1) := by decide +kernel
theorem dX9_torn_4 : decode cX9_torn 4 = .ok (.iload_n 2, 1) := by decide +kernel
theorem dX9_torn_5 : decode cX9_torn 5 = .ok (.aload_n 0, 1) := by decide +kernel
theorem dX9_torn_6 : decode cX9_torn 6 = .ok (.getfield 7, 3) := by decide +kernel
theorem dX9_torn_9 : decode cX9_torn 9 = .ok (.iconst 1, 1) := by decide +kernel
theorem dX9_torn_10 : decode cX9_torn 10 = .ok (.iaload, 1) := by decide +kernel
theorem dX9_torn_11 : decode cX9_torn 11 = .ok (.if_icmp .ge 30, 3) := by decide +kernel
theorem dX9_torn_14 : decode cX9_torn 14 = .ok (.aload_n 0, 1) := by decide +kernel
theorem dX9_torn_15 : decode cX9_torn 15 = .ok (.iload_n 2, 1) := by decide +kernel
theorem dX9_torn_16 : decode cX9_torn 16 = .ok (.invokevirtual 81, 3) := by decide +kernel
theorem dX9_torn_19 : decode cX9_torn 19 = .ok (.iload_n 1, 1) := by decide +kernel
theorem dX9_torn_20 : decode cX9_torn 20 = .ok (.aload_n 0, 1) := by decide +kernel
theorem dX9_torn_21 : decode cX9_torn 21 = .ok (.getfield 72, 3) := by decide +kernel
theorem dX9_torn_24 : decode cX9_torn 24 = .ok (.iconst 1, 1) := by decide +kernel
theorem dX9_torn_25 : decode cX9_torn 25 = .ok (.if_icmp .le 7, 3) := by decide +kernel
theorem dX9_torn_28 : decode cX9_torn 28 = .ok (.iconst 1, 1) := by decide +kernel
theorem dX9_torn_29 : decode cX9_torn 29 = .ok (.goto 4, 3) := by decide +kernel
theorem dX9_torn_32 : decode cX9_torn 32 = .ok (.iconst 0, 1) := by decide +kernel
theorem dX9_torn_33 : decode cX9_torn 33 = .ok (.iadd, 1) := by decide +kernel
theorem dX9_torn_34 : decode cX9_torn 34 = .ok (.istore_n 1, 1) := by decide +kernel
theorem dX9_torn_35 : decode cX9_torn 35 = .ok (.iinc 2 1, 3) := by decide +kernel
theorem dX9_torn_38 : decode cX9_torn 38 = .ok (.goto (-34), 3) := by decide +kernel
theorem dX9_torn_41 : decode cX9_torn 41 = .ok (.iload_n 1, 1) := by decide +kernel
theorem dX9_torn_42 : decode cX9_torn 42 = .ok (.ireturn, 1) := by decide +kernel
theorem dX9_orphans_0 : decode cX9_orphans 0 = .ok (.iconst 0, 1) := by decide +kernel
theorem dX9_orphans_1 : decode cX9_orphans 1 = .ok (.istore_n 1, 1) := by decide +kernel
theorem dX9_orphans_2 : decode cX9_orphans 2 = .ok (.iconst 0, 1) := by decide +kernel
theorem dX9_orphans_3 : decode cX9_orphans 3 = .ok (.istore_n 2, 1) := by decide +kernel
theorem dX9_orphans_4 : decode cX9_orphans 4 = .ok (.iload_n 2, 1) := by decide +kernel
theorem dX9_orphans_5 : decode cX9_orphans 5 = .ok (.aload_n 0, 1) := by decide +kernel
theorem dX9_orphans_6 : decode cX9_orphans 6 = .ok (.getfield 7, 3) := by decide +kernel
theorem dX9_orphans_9 : decode cX9_orphans 9 = .ok (.iconst 1, 1) := by decide +kernel
theorem dX9_orphans_10 : decode cX9_orphans 10 = .ok (.iaload, 1) := by decide +kernel
theorem dX9_orphans_11 : decode cX9_orphans 11 = .ok (.if_icmp .ge 25, 3) := by decide +kernel
theorem dX9_orphans_14 : decode cX9_orphans 14 = .ok (.iload_n 1, 1) := by decide +kernel
theorem dX9_orphans_15 : decode cX9_orphans 15 = .ok (.aload_n 0, 1) := by decide +kernel
theorem dX9_orphans_16 : decode cX9_orphans 16 = .ok (.iload_n 2, 1) := by decide +kernel
theorem dX9_orphans_17 : decode cX9_orphans 17 = .ok (.invokevirtual 85, 3) := by decide +kernel
theorem dX9_orphans_20 : decode cX9_orphans 20 = .ok (.ifCond .eq 7, 3) := by decide +kernel
theorem dX9_orphans_23 : decode cX9_orphans 23 = .ok (.iconst 1, 1) := by decide +kernel
theorem dX9_orphans_24 : decode cX9_orphans 24 = .ok (.goto 4, 3) := by decide +kernel
theorem dX9_orphans_27 : decode cX9_orphans 27 = .ok (.iconst 0, 1) := by decide +kernel
theorem dX9_orphans_28 : decode cX9_orphans 28 = .ok (.iadd, 1) := by decide +kernel
theorem dX9_orphans_29 : decode cX9_orphans 29 = .ok (.istore_n 1, 1) := by decide +kernel
theorem dX9_orphans_30 : decode cX9_orphans 30 = .ok (.iinc 2 1, 3) := by decide +kernel
theorem dX9_orphans_33 : decode cX9_orphans 33 = .ok (.goto (-29), 3) := by decide +kernel
theorem dX9_orphans_36 : decode cX9_orphans 36 = .ok (.iload_n 1, 1) := by decide +kernel
theorem dX9_orphans_37 : decode cX9_orphans 37 = .ok (.ireturn, 1) := by decide +kernel
theorem dX9_rootOf_0 : decode cX9_rootOf 0 = .ok (.iload_n 1, 1) := by decide +kernel
theorem dX9_rootOf_1 : decode cX9_rootOf 1 = .ok (.istore_n 3, 1) := by decide +kernel
theorem dX9_rootOf_2 : decode cX9_rootOf 2 = .ok (.iconst 0, 1) := by decide +kernel
theorem dX9_rootOf_3 : decode cX9_rootOf 3 = .ok (.istore 4, 2) := by decide +kernel
theorem dX9_rootOf_5 : decode cX9_rootOf 5 = .ok (.aload_n 0, 1) := by decide +kernel
theorem dX9_rootOf_6 : decode cX9_rootOf 6 = .ok (.iload_n 3, 1) := by decide +kernel
theorem dX9_rootOf_7 : decode cX9_rootOf 7 = .ok (.invokevirtual 64, 3) := by decide +kernel
theorem dX9_rootOf_10 : decode cX9_rootOf 10 = .ok (.ifCond .eq 16, 3) := by decide +kernel
theorem dX9_rootOf_13 : decode cX9_rootOf 13 = .ok (.aload_n 0, 1) := by decide +kernel
theorem dX9_rootOf_14 : decode cX9_rootOf 14 = .ok (.iload_n 3, 1) := by decide +kernel
theorem dX9_rootOf_15 : decode cX9_rootOf 15 = .ok (.iconst 0, 1) := by decide +kernel
theorem dX9_rootOf_16 : decode cX9_rootOf 16 = .ok (.invokevirtual 45, 3) := by decide +kernel
theorem dX9_rootOf_19 : decode cX9_rootOf 19 = .ok (.istore_n 3, 1) := by decide +kernel
theorem dX9_rootOf_20 : decode cX9_rootOf 20 = .ok (.iinc 4 1, 3) := by decide +kernel
theorem dX9_rootOf_23 : decode cX9_rootOf 23 = .ok (.goto (-18), 3) := by decide +kernel
theorem dX9_rootOf_26 : decode cX9_rootOf 26 = .ok (.iload_n 2, 1) := by decide +kernel
theorem dX9_rootOf_27 : decode cX9_rootOf 27 = .ok (.ifCond .eq 8, 3) := by decide +kernel
theorem dX9_rootOf_30 : decode cX9_rootOf 30 = .ok (.iload 4, 2) := by decide +kernel
theorem dX9_rootOf_32 : decode cX9_rootOf 32 = .ok (.goto 4, 3) := by decide +kernel
theorem dX9_rootOf_35 : decode cX9_rootOf 35 = .ok (.iload_n 3, 1) := by decide +kernel
theorem dX9_rootOf_36 : decode cX9_rootOf 36 = .ok (.ireturn, 1) := by decide +kernel
theorem dX9_isBelow_0 : decode cX9_isBelow 0 = .ok (.iload_n 1, 1) := by decide +kernel
theorem dX9_isBelow_1 : decode cX9_isBelow 1 = .ok (.istore_n 3, 1) := by decide +kernel
theorem dX9_isBelow_2 : decode cX9_isBelow 2 = .ok (.iload_n 3, 1) := by decide +kernel
theorem dX9_isBelow_3 : decode cX9_isBelow 3 = .ok (.iload_n 2, 1) := by decide +kernel
theorem dX9_isBelow_4 : decode cX9_isBelow 4 = .ok (.if_icmp .eq 21, 3) := by decide +kernel
theorem dX9_isBelow_7 : decode cX9_isBelow 7 = .ok (.aload_n 0, 1) := by decide +kernel
theorem dX9_isBelow_8 : decode cX9_isBelow 8 = .ok (.iload_n 3, 1) := by decide +kernel
theorem dX9_isBelow_9 : decode cX9_isBelow 9 = .ok (.invokevirtual 64, 3) := by decide +kernel
theorem dX9_isBelow_12 : decode cX9_isBelow 12 = .ok (.ifCond .eq 13, 3) := by decide +kernel
theorem dX9_isBelow_15 : decode cX9_isBelow 15 = .ok (.aload_n 0, 1) := by decide +kernel
theorem dX9_isBelow_16 : decode cX9_isBelow 16 = .ok (.iload_n 3, 1) := by decide +kernel
theorem dX9_isBelow_17 : decode cX9_isBelow 17 = .ok (.iconst 0, 1) := by decide +kernel
theorem dX9_isBelow_18 : decode cX9_isBelow 18 = .ok (.invokevirtual 45, 3) := by decide +kernel
theorem dX9_isBelow_21 : decode cX9_isBelow 21 = .ok (.istore_n 3, 1) := by decide +kernel
theorem dX9_isBelow_22 : decode cX9_isBelow 22 = .ok (.goto (-20), 3) := by decide +kernel
theorem dX9_isBelow_25 : decode cX9_isBelow 25 = .ok (.iload_n 3, 1) := by decide +kernel
theorem dX9_isBelow_26 : decode cX9_isBelow 26 = .ok (.iload_n 2, 1) := by decide +kernel
theorem dX9_isBelow_27 : decode cX9_isBelow 27 = .ok (.if_icmp .ne 7, 3) := by decide +kernel
theorem dX9_isBelow_30 : decode cX9_isBelow 30 = .ok (.iconst 1, 1) := by decide +kernel
theorem dX9_isBelow_31 : decode cX9_isBelow 31 = .ok (.goto 4, 3) := by decide +kernel
theorem dX9_isBelow_34 : decode cX9_isBelow 34 = .ok (.iconst 0, 1) := by decide +kernel
theorem dX9_isBelow_35 : decode cX9_isBelow 35 = .ok (.ireturn, 1) := by decide +kernel
theorem dX9_below_0 : decode cX9_below 0 = .ok (.iconst 0, 1) := by decide +kernel
theorem dX9_below_1 : decode cX9_below 1 = .ok (.istore_n 2, 1) := by decide +kernel
theorem dX9_below_2 : decode cX9_below 2 = .ok (.iconst 0, 1) := by decide +kernel
theorem dX9_below_3 : decode cX9_below 3 = .ok (.istore_n 3, 1) := by decide +kernel
theorem dX9_below_4 : decode cX9_below 4 = .ok (.iload_n 3, 1) := by decide +kernel
theorem dX9_below_5 : decode cX9_below 5 = .ok (.aload_n 0, 1) := by decide +kernel
theorem dX9_below_6 : decode cX9_below 6 = .ok (.getfield 7, 3) := by decide +kernel
theorem dX9_below_9 : decode cX9_below 9 = .ok (.iconst 1, 1) := by decide +kernel
theorem dX9_below_10 : decode cX9_below 10 = .ok (.iaload, 1) := by decide +kernel
theorem dX9_below_11 : decode cX9_below 11 = .ok (.if_icmp .ge 31, 3) := by decide +kernel
theorem dX9_below_14 : decode cX9_below 14 = .ok (.iload_n 2, 1) := by decide +kernel
theorem dX9_below_15 : decode cX9_below 15 = .ok (.iload_n 3, 1) := by decide +kernel
theorem dX9_below_16 : decode cX9_below 16 = .ok (.iload_n 1, 1) := by decide +kernel
theorem dX9_below_17 : decode cX9_below 17 = .ok (.if_icmp .eq 16, 3) := by decide +kernel
theorem dX9_below_20 : decode cX9_below 20 = .ok (.aload_n 0, 1) := by decide +kernel
theorem dX9_below_21 : decode cX9_below 21 = .ok (.iload_n 3, 1) := by decide +kernel
theorem dX9_below_22 : decode cX9_below 22 = .ok (.iload_n 1, 1) := by decide +kernel
theorem dX9_below_23 : decode cX9_below 23 = .ok (.invokevirtual 88, 3) := by decide +kernel
theorem dX9_below_26 : decode cX9_below 26 = .ok (.ifCond .eq 7, 3) := by decide +kernel
theorem dX9_below_29 : decode cX9_below 29 = .ok (.iconst 1, 1) := by decide +kernel
theorem dX9_below_30 : decode cX9_below 30 = .ok (.goto 4, 3) := by decide +kernel
theorem dX9_below_33 : decode cX9_below 33 = .ok (.iconst 0, 1) := by decide +kernel
theorem dX9_below_34 : decode cX9_below 34 = .ok (.iadd, 1) := by decide +kernel
theorem dX9_below_35 : decode cX9_below 35 = .ok (.istore_n 2, 1) := by decide +kernel
theorem dX9_below_36 : decode cX9_below 36 = .ok (.iinc 3 1, 3) := by decide +kernel
theorem dX9_below_39 : decode cX9_below 39 = .ok (.goto (-35), 3) := by decide +kernel
theorem dX9_below_42 : decode cX9_below 42 = .ok (.iload_n 2, 1) := by decide +kernel
theorem dX9_below_43 : decode cX9_below 43 = .ok (.ireturn, 1) := by decide +kernel
theorem dX9_isFor_0 : decode cX9_isFor 0 = .ok (.iload_n 0, 1) := by decide +kernel
theorem dX9_isFor_1 : decode cX9_isFor 1 = .ok (.ifCond .ne 13, 3) := by decide +kernel
theorem dX9_isFor_4 : decode cX9_isFor 4 = .ok (.iload_n 1, 1) := by decide +kernel
theorem dX9_isFor_5 : decode cX9_isFor 5 = .ok (.iconst 0, 1) := by decide +kernel
theorem dX9_isFor_6 : decode cX9_isFor 6 = .ok (.bipush 8, 2) := by decide +kernel
theorem dX9_isFor_8 : decode cX9_isFor 8 = .ok (.invokestatic 41, 3) := by decide +kernel
theorem dX9_isFor_11 : decode cX9_isFor 11 = .ok (.goto 25, 3) := by decide +kernel
theorem dX9_isFor_14 : decode cX9_isFor 14 = .ok (.iload_n 0, 1) := by decide +kernel
theorem dX9_isFor_15 : decode cX9_isFor 15 = .ok (.iconst 1, 1) := by decide +kernel
theorem dX9_isFor_16 : decode cX9_isFor 16 = .ok (.if_icmp .ne 13, 3) := by decide +kernel
theorem dX9_isFor_19 : decode cX9_isFor 19 = .ok (.iload_n 1, 1) := by decide +kernel
theorem dX9_isFor_20 : decode cX9_isFor 20 = .ok (.iconst 1, 1) := by decide +kernel
theorem dX9_isFor_21 : decode cX9_isFor 21 = .ok (.bipush 60, 2) := by decide +kernel
theorem dX9_isFor_23 : decode cX9_isFor 23 = .ok (.invokestatic 41, 3) := by decide +kernel
theorem dX9_isFor_26 : decode cX9_isFor 26 = .ok (.goto 10, 3) := by decide +kernel
theorem dX9_isFor_29 : decode cX9_isFor 29 = .ok (.iload_n 1, 1) := by decide +kernel
theorem dX9_isFor_30 : decode cX9_isFor 30 = .ok (.iconst 1, 1) := by decide +kernel
theorem dX9_isFor_31 : decode cX9_isFor 31 = .ok (.bipush 9, 2) := by decide +kernel
theorem dX9_isFor_33 : decode cX9_isFor 33 = .ok (.invokestatic 41, 3) := by decide +kernel
theorem dX9_isFor_36 : decode cX9_isFor 36 = .ok (.ireturn, 1) := by decide +kernel
theorem dX9_set_0 : decode cX9_set 0 = .ok (.iload_n 1, 1) := by decide +kernel
theorem dX9_set_1 : decode cX9_set 1 = .ok (.iconst 0, 1) := by decide +kernel
theorem dX9_set_2 : decode cX9_set 2 = .ok (.iconst 2, 1) := by decide +kernel
theorem dX9_set_3 : decode cX9_set 3 = .ok (.invokestatic 41, 3) := by decide +kernel
theorem dX9_set_6 : decode cX9_set 6 = .ok (.ifCond .eq 11, 3) := by decide +kernel
theorem dX9_set_9 : decode cX9_set 9 = .ok (.iload_n 1, 1) := by decide +kernel
theorem dX9_set_10 : decode cX9_set 10 = .ok (.iload_n 2, 1) := by decide +kernel
theorem dX9_set_11 : decode cX9_set 11 = .ok (.invokestatic 91, 3) := by decide +kernel
theorem dX9_set_14 : decode cX9_set 14 = .ok (.ifCond .ne 6, 3) := by decide +kernel
theorem dX9_set_17 : decode cX9_set 17 = .ok (.bipush (-2), 2) := by decide +kernel
theorem dX9_set_19 : decode cX9_set 19 = .ok (.ireturn, 1) := by decide +kernel
theorem dX9_set_20 : decode cX9_set 20 = .ok (.aload_n 0, 1) := by decide +kernel
theorem dX9_set_21 : decode cX9_set 21 = .ok (.invokevirtual 57, 3) := by decide +kernel
theorem dX9_set_24 : decode cX9_set 24 = .ok (.aload_n 0, 1) := by decide +kernel
theorem dX9_set_25 : decode cX9_set 25 = .ok (.getfield 7, 3) := by decide +kernel
theorem dX9_set_28 : decode cX9_set 28 = .ok (.iconst 2, 1) := by decide +kernel
theorem dX9_set_29 : decode cX9_set 29 = .ok (.iload_n 1, 1) := by decide +kernel
theorem dX9_set_30 : decode cX9_set 30 = .ok (.iadd, 1) := by decide +kernel
theorem dX9_set_31 : decode cX9_set 31 = .ok (.iaload, 1) := by decide +kernel
theorem dX9_set_32 : decode cX9_set 32 = .ok (.istore_n 3, 1) := by decide +kernel
theorem dX9_set_33 : decode cX9_set 33 = .ok (.aload_n 0, 1) := by decide +kernel
theorem dX9_set_34 : decode cX9_set 34 = .ok (.getfield 7, 3) := by decide +kernel
theorem dX9_set_37 : decode cX9_set 37 = .ok (.iconst 2, 1) := by decide +kernel
theorem dX9_set_38 : decode cX9_set 38 = .ok (.iload_n 1, 1) := by decide +kernel
theorem dX9_set_39 : decode cX9_set 39 = .ok (.iadd, 1) := by decide +kernel
theorem dX9_set_40 : decode cX9_set 40 = .ok (.iload_n 2, 1) := by decide +kernel
theorem dX9_set_41 : decode cX9_set 41 = .ok (.iastore, 1) := by decide +kernel
theorem dX9_set_42 : decode cX9_set 42 = .ok (.iload_n 3, 1) := by decide +kernel
theorem dX9_set_43 : decode cX9_set 43 = .ok (.ireturn, 1) := by decide +kernel
theorem dX9_mayWrite_0 : decode cX9_mayWrite 0 = .ok (.iload_n 1, 1) := by decide +kernel
theorem dX9_mayWrite_1 : decode cX9_mayWrite 1 = .ok (.iconst 0, 1) := by decide +kernel
theorem dX9_mayWrite_2 : decode cX9_mayWrite 2 = .ok (.aload_n 0, 1) := by decide +kernel
theorem dX9_mayWrite_3 : decode cX9_mayWrite 3 = .ok (.getfield 7, 3) := by decide +kernel
theorem dX9_mayWrite_6 : decode cX9_mayWrite 6 = .ok (.iconst 0, 1) := by decide +kernel
theorem dX9_mayWrite_7 : decode cX9_mayWrite 7 = .ok (.iaload, 1) := by decide +kernel
theorem dX9_mayWrite_8 : decode cX9_mayWrite 8 = .ok (.invokestatic 41, 3) := by decide +kernel
theorem dX9_mayWrite_11 : decode cX9_mayWrite 11 = .ok (.ifCond .ne 5, 3) := by decide +kernel
theorem dX9_mayWrite_14 : decode cX9_mayWrite 14 = .ok (.iconst (-1), 1) := by decide +kernel
theorem dX9_mayWrite_15 : decode cX9_mayWrite 15 = .ok (.ireturn, 1) := by decide +kernel
theorem dX9_mayWrite_16 : decode cX9_mayWrite 16 = .ok (.iload_n 2, 1) := by decide +kernel
theorem dX9_mayWrite_17 : decode cX9_mayWrite 17 = .ok (.iconst 0, 1) := by decide +kernel
theorem dX9_mayWrite_18 : decode cX9_mayWrite 18 = .ok (.bipush 25, 2) := by decide +kernel
theorem dX9_mayWrite_20 : decode cX9_mayWrite 20 = .ok (.invokestatic 41, 3) := by decide +kernel
theorem dX9_mayWrite_23 : decode cX9_mayWrite 23 = .ok (.ifCond .ne 8, 3) := by decide +kernel
theorem dX9_mayWrite_26 : decode cX9_mayWrite 26 = .ok (.bipush (-2), 2) := by decide +kernel
theorem dX9_mayWrite_28 : decode cX9_mayWrite 28 = .ok (.goto 20, 3) := by decide +kernel
theorem dX9_mayWrite_31 : decode cX9_mayWrite 31 = .ok (.aload_n 0, 1) := by decide +kernel
theorem dX9_mayWrite_32 : decode cX9_mayWrite 32 = .ok (.getfield 7, 3) := by decide +kernel
theorem dX9_mayWrite_35 : decode cX9_mayWrite 35 = .ok (.iconst 0, 1) := by decide +kernel
theorem dX9_mayWrite_36 : decode cX9_mayWrite 36 = .ok (.iaload, 1) := by decide +kernel
theorem dX9_mayWrite_37 : decode cX9_mayWrite 37 = .ok (.bipush 60, 2) := by decide +kernel
theorem dX9_mayWrite_39 : decode cX9_mayWrite 39 = .ok (.if_icmp .ne 8, 3) := by decide +kernel
theorem dX9_mayWrite_42 : decode cX9_mayWrite 42 = .ok (.bipush (-4), 2) := by decide +kernel
theorem dX9_mayWrite_44 : decode cX9_mayWrite 44 = .ok (.goto 4, 3) := by decide +kernel
theorem dX9_mayWrite_47 : decode cX9_mayWrite 47 = .ok (.iconst 0, 1) := by decide +kernel
theorem dX9_mayWrite_48 : decode cX9_mayWrite 48 = .ok (.ireturn, 1) := by decide +kernel
theorem dX9_comes_0 : decode cX9_comes 0 = .ok (.aload_n 0, 1) := by decide +kernel
theorem dX9_comes_1 : decode cX9_comes 1 = .ok (.getfield 7, 3) := by decide +kernel
theorem dX9_comes_4 : decode cX9_comes 4 = .ok (.iconst 0, 1) := by decide +kernel
theorem dX9_comes_5 : decode cX9_comes 5 = .ok (.iaload, 1) := by decide +kernel
theorem dX9_comes_6 : decode cX9_comes 6 = .ok (.istore 4, 2) := by decide +kernel
theorem dX9_comes_8 : decode cX9_comes 8 = .ok (.iload 4, 2) := by decide +kernel
theorem dX9_comes_10 : decode cX9_comes 10 = .ok (.iload_n 1, 1) := by decide +kernel
theorem dX9_comes_11 : decode cX9_comes 11 = .ok (.if_icmp .le 51, 3) := by decide +kernel
theorem dX9_comes_14 : decode cX9_comes 14 = .ok (.aload_n 0, 1) := by decide +kernel
theorem dX9_comes_15 : decode cX9_comes 15 = .ok (.getfield 7, 3) := by decide +kernel
theorem dX9_comes_18 : decode cX9_comes 18 = .ok (.iconst 5, 1) := by decide +kernel
theorem dX9_comes_19 : decode cX9_comes 19 = .ok (.iload 4, 2) := by decide +kernel
theorem dX9_comes_21 : decode cX9_comes 21 = .ok (.iadd, 1) := by decide +kernel
theorem dX9_comes_22 : decode cX9_comes 22 = .ok (.aload_n 0, 1) := by decide +kernel
theorem dX9_comes_23 : decode cX9_comes 23 = .ok (.getfield 7, 3) := by decide +kernel
theorem dX9_comes_26 : decode cX9_comes 26 = .ok (.iconst 5, 1) := by decide +kernel
theorem dX9_comes_27 : decode cX9_comes 27 = .ok (.iload 4, 2) := by decide +kernel
theorem dX9_comes_29 : decode cX9_comes 29 = .ok (.iadd, 1) := by decide +kernel
theorem dX9_comes_30 : decode cX9_comes 30 = .ok (.iconst 1, 1) := by decide +kernel
theorem dX9_comes_31 : decode cX9_comes 31 = .ok (.isub, 1) := by decide +kernel
theorem dX9_comes_32 : decode cX9_comes 32 = .ok (.iaload, 1) := by decide +kernel
theorem dX9_comes_33 : decode cX9_comes 33 = .ok (.iastore, 1) := by decide +kernel
theorem dX9_comes_34 : decode cX9_comes 34 = .ok (.aload_n 0, 1) := by decide +kernel
theorem dX9_comes_35 : decode cX9_comes 35 = .ok (.getfield 7, 3) := by decide +kernel
theorem dX9_comes_38 : decode cX9_comes 38 = .ok (.bipush 65, 2) := by decide +kernel
theorem dX9_comes_40 : decode cX9_comes 40 = .ok (.iload 4, 2) := by decide +kernel
theorem dX9_comes_42 : decode cX9_comes 42 = .ok (.iadd, 1) := by decide +kernel
theorem dX9_comes_43 : decode cX9_comes 43 = .ok (.aload_n 0, 1) := by decide +kernel
theorem dX9_comes_44 : decode cX9_comes 44 = .ok (.getfield 7, 3) := by decide +kernel
theorem dX9_comes_47 : decode cX9_comes 47 = .ok (.bipush 65, 2) := by decide +kernel
theorem dX9_comes_49 : decode cX9_comes 49 = .ok (.iload 4, 2) := by decide +kernel
theorem dX9_comes_51 : decode cX9_comes 51 = .ok (.iadd, 1) := by decide +kernel
theorem dX9_comes_52 : decode cX9_comes 52 = .ok (.iconst 1, 1) := by decide +kernel
theorem dX9_comes_53 : decode cX9_comes 53 = .ok (.isub, 1) := by decide +kernel
theorem dX9_comes_54 : decode cX9_comes 54 = .ok (.iaload, 1) := by decide +kernel
theorem dX9_comes_55 : decode cX9_comes 55 = .ok (.iastore, 1) := by decide +kernel
theorem dX9_comes_56 : decode cX9_comes 56 = .ok (.iinc 4 (-1), 3) := by decide +kernel
theorem dX9_comes_59 : decode cX9_comes 59 = .ok (.goto (-51), 3) := by decide +kernel
theorem dX9_comes_62 : decode cX9_comes 62 = .ok (.aload_n 0, 1) := by decide +kernel
theorem dX9_comes_63 : decode cX9_comes 63 = .ok (.getfield 7, 3) := by decide +kernel
theorem dX9_comes_66 : decode cX9_comes 66 = .ok (.iconst 5, 1) := by decide +kernel
theorem dX9_comes_67 : decode cX9_comes 67 = .ok (.iload_n 1, 1) := by decide +kernel
theorem dX9_comes_68 : decode cX9_comes 68 = .ok (.iadd, 1) := by decide +kernel
theorem dX9_comes_69 : decode cX9_comes 69 = .ok (.iload_n 2, 1) := by decide +kernel
theorem dX9_comes_70 : decode cX9_comes 70 = .ok (.iastore, 1) := by decide +kernel
theorem dX9_comes_71 : decode cX9_comes 71 = .ok (.aload_n 0, 1) := by decide +kernel
theorem dX9_comes_72 : decode cX9_comes 72 = .ok (.getfield 7, 3) := by decide +kernel
theorem dX9_comes_75 : decode cX9_comes 75 = .ok (.bipush 65, 2) := by decide +kernel
theorem dX9_comes_77 : decode cX9_comes 77 = .ok (.iload_n 1, 1) := by decide +kernel
theorem dX9_comes_78 : decode cX9_comes 78 = .ok (.iadd, 1) := by decide +kernel
theorem dX9_comes_79 : decode cX9_comes 79 = .ok (.iload_n 3, 1) := by decide +kernel
theorem dX9_comes_80 : decode cX9_comes 80 = .ok (.iastore, 1) := by decide +kernel
theorem dX9_comes_81 : decode cX9_comes 81 = .ok (.aload_n 0, 1) := by decide +kernel
theorem dX9_comes_82 : decode cX9_comes 82 = .ok (.getfield 7, 3) := by decide +kernel
theorem dX9_comes_85 : decode cX9_comes 85 = .ok (.iconst 0, 1) := by decide +kernel
theorem dX9_comes_86 : decode cX9_comes 86 = .ok (.dup2, 1) := by decide +kernel
theorem dX9_comes_87 : decode cX9_comes 87 = .ok (.iaload, 1) := by decide +kernel
theorem dX9_comes_88 : decode cX9_comes 88 = .ok (.iconst 1, 1) := by decide +kernel
theorem dX9_comes_89 : decode cX9_comes 89 = .ok (.iadd, 1) := by decide +kernel
theorem dX9_comes_90 : decode cX9_comes 90 = .ok (.iastore, 1) := by decide +kernel
theorem dX9_comes_91 : decode cX9_comes 91 = .ok (.return_, 1) := by decide +kernel
theorem dX9_write_0 : decode cX9_write 0 = .ok (.aload_n 0, 1) := by decide +kernel
theorem dX9_write_1 : decode cX9_write 1 = .ok (.iload_n 1, 1) := by decide +kernel
theorem dX9_write_2 : decode cX9_write 2 = .ok (.iload_n 2, 1) := by decide +kernel
theorem dX9_write_3 : decode cX9_write 3 = .ok (.invokevirtual 94, 3) := by decide +kernel
theorem dX9_write_6 : decode cX9_write 6 = .ok (.istore_n 3, 1) := by decide +kernel
theorem dX9_write_7 : decode cX9_write 7 = .ok (.iload_n 3, 1) := by decide +kernel
theorem dX9_write_8 : decode cX9_write 8 = .ok (.ifCond .eq 5, 3) := by decide +kernel
theorem dX9_write_11 : decode cX9_write 11 = .ok (.iload_n 3, 1) := by decide +kernel
theorem dX9_write_12 : decode cX9_write 12 = .ok (.ireturn, 1) := by decide +kernel
theorem dX9_write_13 : decode cX9_write 13 = .ok (.aload_n 0, 1) := by decide +kernel
theorem dX9_write_14 : decode cX9_write 14 = .ok (.invokevirtual 57, 3) := by decide +kernel
theorem dX9_write_17 : decode cX9_write 17 = .ok (.aload_n 0, 1) := by decide +kernel
theorem dX9_write_18 : decode cX9_write 18 = .ok (.iload_n 1, 1) := by decide +kernel
theorem dX9_write_19 : decode cX9_write 19 = .ok (.iload_n 2, 1) := by decide +kernel
theorem dX9_write_20 : decode cX9_write 20 = .ok (.iconst 0, 1) := by decide +kernel
theorem dX9_write_21 : decode cX9_write 21 = .ok (.invokevirtual 97, 3) := by decide +kernel
theorem dX9_write_24 : decode cX9_write 24 = .ok (.aload_n 0, 1) := by decide +kernel
theorem dX9_write_25 : decode cX9_write 25 = .ok (.getfield 7, 3) := by decide +kernel
theorem dX9_write_28 : decode cX9_write 28 = .ok (.iconst 0, 1) := by decide +kernel
theorem dX9_write_29 : decode cX9_write 29 = .ok (.iaload, 1) := by decide +kernel
theorem dX9_write_30 : decode cX9_write 30 = .ok (.ireturn, 1) := by decide +kernel
theorem dX9_maySpan_0 : decode cX9_maySpan 0 = .ok (.aload_n 0, 1) := by decide +kernel
theorem dX9_maySpan_1 : decode cX9_maySpan 1 = .ok (.iload_n 1, 1) := by decide +kernel
theorem dX9_maySpan_2 : decode cX9_maySpan 2 = .ok (.invokevirtual 101, 3) := by decide +kernel
theorem dX9_maySpan_5 : decode cX9_maySpan 5 = .ok (.ifCond .eq 11, 3) := by decide +kernel
theorem dX9_maySpan_8 : decode cX9_maySpan 8 = .ok (.aload_n 0, 1) := by decide +kernel
theorem dX9_maySpan_9 : decode cX9_maySpan 9 = .ok (.iload_n 2, 1) := by decide +kernel
theorem dX9_maySpan_10 : decode cX9_maySpan 10 = .ok (.invokevirtual 101, 3) := by decide +kernel
theorem dX9_maySpan_13 : decode cX9_maySpan 13 = .ok (.ifCond .ne 7, 3) := by decide +kernel
theorem dX9_maySpan_16 : decode cX9_maySpan 16 = .ok (.iconst (-1), 1) := by decide +kernel
theorem dX9_maySpan_17 : decode cX9_maySpan 17 = .ok (.goto 14, 3) := by decide +kernel
theorem dX9_maySpan_20 : decode cX9_maySpan 20 = .ok (.iload_n 2, 1) := by decide +kernel
theorem dX9_maySpan_21 : decode cX9_maySpan 21 = .ok (.iload_n 1, 1) := by decide +kernel
theorem dX9_maySpan_22 : decode cX9_maySpan 22 = .ok (.if_icmp .ge 8, 3) := by decide +kernel
theorem dX9_maySpan_25 : decode cX9_maySpan 25 = .ok (.bipush (-2), 2) := by decide +kernel
theorem dX9_maySpan_27 : decode cX9_maySpan 27 = .ok (.goto 4, 3) := by decide +kernel
theorem dX9_maySpan_30 : decode cX9_maySpan 30 = .ok (.iconst 0, 1) := by decide +kernel
theorem dX9_maySpan_31 : decode cX9_maySpan 31 = .ok (.ireturn, 1) := by decide +kernel
theorem dX9_goes_0 : decode cX9_goes 0 = .ok (.iload_n 2, 1) := by decide +kernel
theorem dX9_goes_1 : decode cX9_goes 1 = .ok (.iload_n 1, 1) := by decide +kernel
theorem dX9_goes_2 : decode cX9_goes 2 = .ok (.isub, 1) := by decide +kernel
theorem dX9_goes_3 : decode cX9_goes 3 = .ok (.iconst 1, 1) := by decide +kernel
theorem dX9_goes_4 : decode cX9_goes 4 = .ok (.iadd, 1) := by decide +kernel
theorem dX9_goes_5 : decode cX9_goes 5 = .ok (.istore_n 3, 1) := by decide +kernel
theorem dX9_goes_6 : decode cX9_goes 6 = .ok (.aload_n 0, 1) := by decide +kernel
theorem dX9_goes_7 : decode cX9_goes 7 = .ok (.getfield 7, 3) := by decide +kernel
theorem dX9_goes_10 : decode cX9_goes 10 = .ok (.iconst 0, 1) := by decide +kernel
theorem dX9_goes_11 : decode cX9_goes 11 = .ok (.dup2, 1) := by decide +kernel
theorem dX9_goes_12 : decode cX9_goes 12 = .ok (.iaload, 1) := by decide +kernel
theorem dX9_goes_13 : decode cX9_goes 13 = .ok (.iload_n 3, 1) := by decide +kernel
theorem dX9_goes_14 : decode cX9_goes 14 = .ok (.isub, 1) := by decide +kernel
theorem dX9_goes_15 : decode cX9_goes 15 = .ok (.iastore, 1) := by decide +kernel
theorem dX9_goes_16 : decode cX9_goes 16 = .ok (.iload_n 1, 1) := by decide +kernel
theorem dX9_goes_17 : decode cX9_goes 17 = .ok (.istore 4, 2) := by decide +kernel
theorem dX9_goes_19 : decode cX9_goes 19 = .ok (.iload 4, 2) := by decide +kernel
theorem dX9_goes_21 : decode cX9_goes 21 = .ok (.aload_n 0, 1) := by decide +kernel
theorem dX9_goes_22 : decode cX9_goes 22 = .ok (.getfield 7, 3) := by decide +kernel
theorem dX9_goes_25 : decode cX9_goes 25 = .ok (.iconst 0, 1) := by decide +kernel
theorem dX9_goes_26 : decode cX9_goes 26 = .ok (.iaload, 1) := by decide +kernel
theorem dX9_goes_27 : decode cX9_goes 27 = .ok (.if_icmp .ge 51, 3) := by decide +kernel
theorem dX9_goes_30 : decode cX9_goes 30 = .ok (.aload_n 0, 1) := by decide +kernel
theorem dX9_goes_31 : decode cX9_goes 31 = .ok (.getfield 7, 3) := by decide +kernel
theorem dX9_goes_34 : decode cX9_goes 34 = .ok (.iconst 5, 1) := by decide +kernel
theorem dX9_goes_35 : decode cX9_goes 35 = .ok (.iload 4, 2) := by decide +kernel
theorem dX9_goes_37 : decode cX9_goes 37 = .ok (.iadd, 1) := by decide +kernel
theorem dX9_goes_38 : decode cX9_goes 38 = .ok (.aload_n 0, 1) := by decide +kernel
theorem dX9_goes_39 : decode cX9_goes 39 = .ok (.getfield 7, 3) := by decide +kernel
theorem dX9_goes_42 : decode cX9_goes 42 = .ok (.iconst 5, 1) := by decide +kernel
theorem dX9_goes_43 : decode cX9_goes 43 = .ok (.iload 4, 2) := by decide +kernel
theorem dX9_goes_45 : decode cX9_goes 45 = .ok (.iadd, 1) := by decide +kernel
theorem dX9_goes_46 : decode cX9_goes 46 = .ok (.iload_n 3, 1) := by decide +kernel
theorem dX9_goes_47 : decode cX9_goes 47 = .ok (.iadd, 1) := by decide +kernel
theorem dX9_goes_48 : decode cX9_goes 48 = .ok (.iaload, 1) := by decide +kernel
theorem dX9_goes_49 : decode cX9_goes 49 = .ok (.iastore, 1) := by decide +kernel
theorem dX9_goes_50 : decode cX9_goes 50 = .ok (.aload_n 0, 1) := by decide +kernel
theorem dX9_goes_51 : decode cX9_goes 51 = .ok (.getfield 7, 3) := by decide +kernel
theorem dX9_goes_54 : decode cX9_goes 54 = .ok (.bipush 65, 2) := by decide +kernel
theorem dX9_goes_56 : decode cX9_goes 56 = .ok (.iload 4, 2) := by decide +kernel
theorem dX9_goes_58 : decode cX9_goes 58 = .ok (.iadd, 1) := by decide +kernel
theorem dX9_goes_59 : decode cX9_goes 59 = .ok (.aload_n 0, 1) := by decide +kernel
theorem dX9_goes_60 : decode cX9_goes 60 = .ok (.getfield 7, 3) := by decide +kernel
theorem dX9_goes_63 : decode cX9_goes 63 = .ok (.bipush 65, 2) := by decide +kernel
theorem dX9_goes_65 : decode cX9_goes 65 = .ok (.iload 4, 2) := by decide +kernel
theorem dX9_goes_67 : decode cX9_goes 67 = .ok (.iadd, 1) := by decide +kernel
theorem dX9_goes_68 : decode cX9_goes 68 = .ok (.iload_n 3, 1) := by decide +kernel
theorem dX9_goes_69 : decode cX9_goes 69 = .ok (.iadd, 1) := by decide +kernel
theorem dX9_goes_70 : decode cX9_goes 70 = .ok (.iaload, 1) := by decide +kernel
theorem dX9_goes_71 : decode cX9_goes 71 = .ok (.iastore, 1) := by decide +kernel
theorem dX9_goes_72 : decode cX9_goes 72 = .ok (.iinc 4 1, 3) := by decide +kernel
theorem dX9_goes_75 : decode cX9_goes 75 = .ok (.goto (-56), 3) := by decide +kernel
theorem dX9_goes_78 : decode cX9_goes 78 = .ok (.return_, 1) := by decide +kernel
theorem dX9_erases_0 : decode cX9_erases 0 = .ok (.aload_n 0, 1) := by decide +kernel
theorem dX9_erases_1 : decode cX9_erases 1 = .ok (.invokevirtual 104, 3) := by decide +kernel
theorem dX9_erases_4 : decode cX9_erases 4 = .ok (.istore_n 3, 1) := by decide +kernel
theorem dX9_erases_5 : decode cX9_erases 5 = .ok (.aload_n 0, 1) := by decide +kernel
theorem dX9_erases_6 : decode cX9_erases 6 = .ok (.iload_n 1, 1) := by decide +kernel
theorem dX9_erases_7 : decode cX9_erases 7 = .ok (.iload_n 2, 1) := by decide +kernel
theorem dX9_erases_8 : decode cX9_erases 8 = .ok (.invokevirtual 108, 3) := by decide +kernel
theorem dX9_erases_11 : decode cX9_erases 11 = .ok (.aload_n 0, 1) := by decide +kernel
theorem dX9_erases_12 : decode cX9_erases 12 = .ok (.invokevirtual 104, 3) := by decide +kernel
theorem dX9_erases_15 : decode cX9_erases 15 = .ok (.iload_n 3, 1) := by decide +kernel
theorem dX9_erases_16 : decode cX9_erases 16 = .ok (.isub, 1) := by decide +kernel
theorem dX9_erases_17 : decode cX9_erases 17 = .ok (.ireturn, 1) := by decide +kernel
theorem dX9_erase_0 : decode cX9_erase 0 = .ok (.aload_n 0, 1) := by decide +kernel
theorem dX9_erase_1 : decode cX9_erase 1 = .ok (.iload_n 1, 1) := by decide +kernel
theorem dX9_erase_2 : decode cX9_erase 2 = .ok (.iload_n 2, 1) := by decide +kernel
theorem dX9_erase_3 : decode cX9_erase 3 = .ok (.invokevirtual 112, 3) := by decide +kernel
theorem dX9_erase_6 : decode cX9_erase 6 = .ok (.istore_n 3, 1) := by decide +kernel
theorem dX9_erase_7 : decode cX9_erase 7 = .ok (.iload_n 3, 1) := by decide +kernel
theorem dX9_erase_8 : decode cX9_erase 8 = .ok (.ifCond .eq 5, 3) := by decide +kernel
theorem dX9_erase_11 : decode cX9_erase 11 = .ok (.iload_n 3, 1) := by decide +kernel
theorem dX9_erase_12 : decode cX9_erase 12 = .ok (.ireturn, 1) := by decide +kernel
theorem dX9_erase_13 : decode cX9_erase 13 = .ok (.aload_n 0, 1) := by decide +kernel
theorem dX9_erase_14 : decode cX9_erase 14 = .ok (.invokevirtual 57, 3) := by decide +kernel
theorem dX9_erase_17 : decode cX9_erase 17 = .ok (.aload_n 0, 1) := by decide +kernel
theorem dX9_erase_18 : decode cX9_erase 18 = .ok (.iload_n 1, 1) := by decide +kernel
theorem dX9_erase_19 : decode cX9_erase 19 = .ok (.iload_n 2, 1) := by decide +kernel
theorem dX9_erase_20 : decode cX9_erase 20 = .ok (.invokevirtual 115, 3) := by decide +kernel
theorem dX9_erase_23 : decode cX9_erase 23 = .ok (.ireturn, 1) := by decide +kernel
theorem dX9_mayMove_0 : decode cX9_mayMove 0 = .ok (.aload_n 0, 1) := by decide +kernel
theorem dX9_mayMove_1 : decode cX9_mayMove 1 = .ok (.iload_n 1, 1) := by decide +kernel
theorem dX9_mayMove_2 : decode cX9_mayMove 2 = .ok (.iload_n 2, 1) := by decide +kernel
theorem dX9_mayMove_3 : decode cX9_mayMove 3 = .ok (.invokevirtual 112, 3) := by decide +kernel
theorem dX9_mayMove_6 : decode cX9_mayMove 6 = .ok (.istore 4, 2) := by decide +kernel
theorem dX9_mayMove_8 : decode cX9_mayMove 8 = .ok (.iload 4, 2) := by decide +kernel
theorem dX9_mayMove_10 : decode cX9_mayMove 10 = .ok (.ifCond .eq 8, 3) := by decide +kernel
theorem dX9_mayMove_13 : decode cX9_mayMove 13 = .ok (.iload 4, 2) := by decide +kernel
theorem dX9_mayMove_15 : decode cX9_mayMove 15 = .ok (.goto 29, 3) := by decide +kernel
theorem dX9_mayMove_18 : decode cX9_mayMove 18 = .ok (.iload_n 3, 1) := by decide +kernel
theorem dX9_mayMove_19 : decode cX9_mayMove 19 = .ok (.iconst 0, 1) := by decide +kernel
theorem dX9_mayMove_20 : decode cX9_mayMove 20 = .ok (.aload_n 0, 1) := by decide +kernel
theorem dX9_mayMove_21 : decode cX9_mayMove 21 = .ok (.getfield 7, 3) := by decide +kernel
theorem dX9_mayMove_24 : decode cX9_mayMove 24 = .ok (.iconst 0, 1) := by decide +kernel
theorem dX9_mayMove_25 : decode cX9_mayMove 25 = .ok (.iaload, 1) := by decide +kernel
theorem dX9_mayMove_26 : decode cX9_mayMove 26 = .ok (.iload_n 2, 1) := by decide +kernel
theorem dX9_mayMove_27 : decode cX9_mayMove 27 = .ok (.iload_n 1, 1) := by decide +kernel
theorem dX9_mayMove_28 : decode cX9_mayMove 28 = .ok (.isub, 1) := by decide +kernel
theorem dX9_mayMove_29 : decode cX9_mayMove 29 = .ok (.iconst 1, 1) := by decide +kernel
theorem dX9_mayMove_30 : decode cX9_mayMove 30 = .ok (.iadd, 1) := by decide +kernel
theorem dX9_mayMove_31 : decode cX9_mayMove 31 = .ok (.isub, 1) := by decide +kernel
theorem dX9_mayMove_32 : decode cX9_mayMove 32 = .ok (.invokestatic 41, 3) := by decide +kernel
theorem dX9_mayMove_35 : decode cX9_mayMove 35 = .ok (.ifCond .eq 7, 3) := by decide +kernel
theorem dX9_mayMove_38 : decode cX9_mayMove 38 = .ok (.iconst 0, 1) := by decide +kernel
theorem dX9_mayMove_39 : decode cX9_mayMove 39 = .ok (.goto 5, 3) := by decide +kernel
theorem dX9_mayMove_42 : decode cX9_mayMove 42 = .ok (.bipush (-2), 2) := by decide +kernel
theorem dX9_mayMove_44 : decode cX9_mayMove 44 = .ok (.ireturn, 1) := by decide +kernel
theorem dX9_moves_0 : decode cX9_moves 0 = .ok (.iload_n 2, 1) := by decide +kernel
theorem dX9_moves_1 : decode cX9_moves 1 = .ok (.iload_n 1, 1) := by decide +kernel
theorem dX9_moves_2 : decode cX9_moves 2 = .ok (.isub, 1) := by decide +kernel
theorem dX9_moves_3 : decode cX9_moves 3 = .ok (.iconst 1, 1) := by decide +kernel
theorem dX9_moves_4 : decode cX9_moves 4 = .ok (.iadd, 1) := by decide +kernel
theorem dX9_moves_5 : decode cX9_moves 5 = .ok (.istore 4, 2) := by decide +kernel
theorem dX9_moves_7 : decode cX9_moves 7 = .ok (.iconst 0, 1) := by decide +kernel
theorem dX9_moves_8 : decode cX9_moves 8 = .ok (.istore 5, 2) := by decide +kernel
theorem dX9_moves_10 : decode cX9_moves 10 = .ok (.iload 5, 2) := by decide +kernel
theorem dX9_moves_12 : decode cX9_moves 12 = .ok (.iload 4, 2) := by decide +kernel
theorem dX9_moves_14 : decode cX9_moves 14 = .ok (.if_icmp .ge 52, 3) := by decide +kernel
theorem dX9_moves_17 : decode cX9_moves 17 = .ok (.aload_n 0, 1) := by decide +kernel
theorem dX9_moves_18 : decode cX9_moves 18 = .ok (.getfield 38, 3) := by decide +kernel
theorem dX9_moves_21 : decode cX9_moves 21 = .ok (.iconst 2, 1) := by decide +kernel
theorem dX9_moves_22 : decode cX9_moves 22 = .ok (.iload 5, 2) := by decide +kernel
theorem dX9_moves_24 : decode cX9_moves 24 = .ok (.imul, 1) := by decide +kernel
theorem dX9_moves_25 : decode cX9_moves 25 = .ok (.aload_n 0, 1) := by decide +kernel
theorem dX9_moves_26 : decode cX9_moves 26 = .ok (.getfield 7, 3) := by decide +kernel
theorem dX9_moves_29 : decode cX9_moves 29 = .ok (.iconst 5, 1) := by decide +kernel
theorem dX9_moves_30 : decode cX9_moves 30 = .ok (.iload_n 1, 1) := by decide +kernel
theorem dX9_moves_31 : decode cX9_moves 31 = .ok (.iadd, 1) := by decide +kernel
theorem dX9_moves_32 : decode cX9_moves 32 = .ok (.iload 5, 2) := by decide +kernel
theorem dX9_moves_34 : decode cX9_moves 34 = .ok (.iadd, 1) := by decide +kernel
theorem dX9_moves_35 : decode cX9_moves 35 = .ok (.iaload, 1) := by decide +kernel
theorem dX9_moves_36 : decode cX9_moves 36 = .ok (.iastore, 1) := by decide +kernel
theorem dX9_moves_37 : decode cX9_moves 37 = .ok (.aload_n 0, 1) := by decide +kernel
theorem dX9_moves_38 : decode cX9_moves 38 = .ok (.getfield 38, 3) := by decide +kernel
theorem dX9_moves_41 : decode cX9_moves 41 = .ok (.iconst 2, 1) := by decide +kernel
theorem dX9_moves_42 : decode cX9_moves 42 = .ok (.iload 5, 2) := by decide +kernel
theorem dX9_moves_44 : decode cX9_moves 44 = .ok (.imul, 1) := by decide +kernel
theorem dX9_moves_45 : decode cX9_moves 45 = .ok (.iconst 1, 1) := by decide +kernel
theorem dX9_moves_46 : decode cX9_moves 46 = .ok (.iadd, 1) := by decide +kernel
theorem dX9_moves_47 : decode cX9_moves 47 = .ok (.aload_n 0, 1) := by decide +kernel
theorem dX9_moves_48 : decode cX9_moves 48 = .ok (.getfield 7, 3) := by decide +kernel
theorem dX9_moves_51 : decode cX9_moves 51 = .ok (.bipush 65, 2) := by decide +kernel
theorem dX9_moves_53 : decode cX9_moves 53 = .ok (.iload_n 1, 1) := by decide +kernel
theorem dX9_moves_54 : decode cX9_moves 54 = .ok (.iadd, 1) := by decide +kernel
theorem dX9_moves_55 : decode cX9_moves 55 = .ok (.iload 5, 2) := by decide +kernel
theorem dX9_moves_57 : decode cX9_moves 57 = .ok (.iadd, 1) := by decide +kernel
theorem dX9_moves_58 : decode cX9_moves 58 = .ok (.iaload, 1) := by decide +kernel
theorem dX9_moves_59 : decode cX9_moves 59 = .ok (.iastore, 1) := by decide +kernel
theorem dX9_moves_60 : decode cX9_moves 60 = .ok (.iinc 5 1, 3) := by decide +kernel
theorem dX9_moves_63 : decode cX9_moves 63 = .ok (.goto (-53), 3) := by decide +kernel
theorem dX9_moves_66 : decode cX9_moves 66 = .ok (.aload_n 0, 1) := by decide +kernel
theorem dX9_moves_67 : decode cX9_moves 67 = .ok (.iload_n 1, 1) := by decide +kernel
theorem dX9_moves_68 : decode cX9_moves 68 = .ok (.iload_n 2, 1) := by decide +kernel
theorem dX9_moves_69 : decode cX9_moves 69 = .ok (.invokevirtual 108, 3) := by decide +kernel
theorem dX9_moves_72 : decode cX9_moves 72 = .ok (.iconst 0, 1) := by decide +kernel
theorem dX9_moves_73 : decode cX9_moves 73 = .ok (.istore 5, 2) := by decide +kernel
theorem dX9_moves_75 : decode cX9_moves 75 = .ok (.iload 5, 2) := by decide +kernel
theorem dX9_moves_77 : decode cX9_moves 77 = .ok (.iload 4, 2) := by decide +kernel
theorem dX9_moves_79 : decode cX9_moves 79 = .ok (.if_icmp .ge 37, 3) := by decide +kernel
theorem dX9_moves_82 : decode cX9_moves 82 = .ok (.aload_n 0, 1) := by decide +kernel
theorem dX9_moves_83 : decode cX9_moves 83 = .ok (.iload_n 3, 1) := by decide +kernel
theorem dX9_moves_84 : decode cX9_moves 84 = .ok (.iload 5, 2) := by decide +kernel
theorem dX9_moves_86 : decode cX9_moves 86 = .ok (.iadd, 1) := by decide +kernel
theorem dX9_moves_87 : decode cX9_moves 87 = .ok (.aload_n 0, 1) := by decide +kernel
theorem dX9_moves_88 : decode cX9_moves 88 = .ok (.getfield 38, 3) := by decide +kernel
theorem dX9_moves_91 : decode cX9_moves 91 = .ok (.iconst 2, 1) := by decide +kernel
theorem dX9_moves_92 : decode cX9_moves 92 = .ok (.iload 5, 2) := by decide +kernel
theorem dX9_moves_94 : decode cX9_moves 94 = .ok (.imul, 1) := by decide +kernel
theorem dX9_moves_95 : decode cX9_moves 95 = .ok (.iaload, 1) := by decide +kernel
theorem dX9_moves_96 : decode cX9_moves 96 = .ok (.aload_n 0, 1) := by decide +kernel
theorem dX9_moves_97 : decode cX9_moves 97 = .ok (.getfield 38, 3) := by decide +kernel
theorem dX9_moves_100 : decode cX9_moves 100 = .ok (.iconst 2, 1) := by decide +kernel
theorem dX9_moves_101 : decode cX9_moves 101 = .ok (.iload 5, 2) := by decide +kernel
theorem dX9_moves_103 : decode cX9_moves 103 = .ok (.imul, 1) := by decide +kernel
theorem dX9_moves_104 : decode cX9_moves 104 = .ok (.iconst 1, 1) := by decide +kernel
theorem dX9_moves_105 : decode cX9_moves 105 = .ok (.iadd, 1) := by decide +kernel
theorem dX9_moves_106 : decode cX9_moves 106 = .ok (.iaload, 1) := by decide +kernel
theorem dX9_moves_107 : decode cX9_moves 107 = .ok (.invokevirtual 97, 3) := by decide +kernel
theorem dX9_moves_110 : decode cX9_moves 110 = .ok (.iinc 5 1, 3) := by decide +kernel
theorem dX9_moves_113 : decode cX9_moves 113 = .ok (.goto (-38), 3) := by decide +kernel
theorem dX9_moves_116 : decode cX9_moves 116 = .ok (.return_, 1) := by decide +kernel
theorem dX9_move_0 : decode cX9_move 0 = .ok (.aload_n 0, 1) := by decide +kernel
theorem dX9_move_1 : decode cX9_move 1 = .ok (.iload_n 1, 1) := by decide +kernel
theorem dX9_move_2 : decode cX9_move 2 = .ok (.iload_n 2, 1) := by decide +kernel
theorem dX9_move_3 : decode cX9_move 3 = .ok (.iload_n 3, 1) := by decide +kernel
theorem dX9_move_4 : decode cX9_move 4 = .ok (.invokevirtual 118, 3) := by decide +kernel
theorem dX9_move_7 : decode cX9_move 7 = .ok (.istore 4, 2) := by decide +kernel
theorem dX9_move_9 : decode cX9_move 9 = .ok (.iload 4, 2) := by decide +kernel
theorem dX9_move_11 : decode cX9_move 11 = .ok (.ifCond .eq 6, 3) := by decide +kernel
theorem dX9_move_14 : decode cX9_move 14 = .ok (.iload 4, 2) := by decide +kernel
theorem dX9_move_16 : decode cX9_move 16 = .ok (.ireturn, 1) := by decide +kernel
theorem dX9_move_17 : decode cX9_move 17 = .ok (.aload_n 0, 1) := by decide +kernel
theorem dX9_move_18 : decode cX9_move 18 = .ok (.invokevirtual 57, 3) := by decide +kernel
theorem dX9_move_21 : decode cX9_move 21 = .ok (.aload_n 0, 1) := by decide +kernel
theorem dX9_move_22 : decode cX9_move 22 = .ok (.iload_n 1, 1) := by decide +kernel
theorem dX9_move_23 : decode cX9_move 23 = .ok (.iload_n 2, 1) := by decide +kernel
theorem dX9_move_24 : decode cX9_move 24 = .ok (.iload_n 3, 1) := by decide +kernel
theorem dX9_move_25 : decode cX9_move 25 = .ok (.invokevirtual 122, 3) := by decide +kernel
theorem dX9_move_28 : decode cX9_move 28 = .ok (.aload_n 0, 1) := by decide +kernel
theorem dX9_move_29 : decode cX9_move 29 = .ok (.invokevirtual 125, 3) := by decide +kernel
theorem dX9_move_32 : decode cX9_move 32 = .ok (.ireturn, 1) := by decide +kernel
theorem dX9_mayNote_0 : decode cX9_mayNote 0 = .ok (.aload_n 0, 1) := by decide +kernel
theorem dX9_mayNote_1 : decode cX9_mayNote 1 = .ok (.iload_n 1, 1) := by decide +kernel
theorem dX9_mayNote_2 : decode cX9_mayNote 2 = .ok (.iload_n 2, 1) := by decide +kernel
theorem dX9_mayNote_3 : decode cX9_mayNote 3 = .ok (.invokevirtual 112, 3) := by decide +kernel
theorem dX9_mayNote_6 : decode cX9_mayNote 6 = .ok (.istore_n 3, 1) := by decide +kernel
theorem dX9_mayNote_7 : decode cX9_mayNote 7 = .ok (.iload_n 3, 1) := by decide +kernel
theorem dX9_mayNote_8 : decode cX9_mayNote 8 = .ok (.ifCond .eq 7, 3) := by decide +kernel
theorem dX9_mayNote_11 : decode cX9_mayNote 11 = .ok (.iload_n 3, 1) := by decide +kernel
theorem dX9_mayNote_12 : decode cX9_mayNote 12 = .ok (.goto 20, 3) := by decide +kernel
theorem dX9_mayNote_15 : decode cX9_mayNote 15 = .ok (.aload_n 0, 1) := by decide +kernel
theorem dX9_mayNote_16 : decode cX9_mayNote 16 = .ok (.getfield 7, 3) := by decide +kernel
theorem dX9_mayNote_19 : decode cX9_mayNote 19 = .ok (.iconst 1, 1) := by decide +kernel
theorem dX9_mayNote_20 : decode cX9_mayNote 20 = .ok (.iaload, 1) := by decide +kernel
theorem dX9_mayNote_21 : decode cX9_mayNote 21 = .ok (.bipush 16, 2) := by decide +kernel
theorem dX9_mayNote_23 : decode cX9_mayNote 23 = .ok (.if_icmp .ne 8, 3) := by decide +kernel
theorem dX9_mayNote_26 : decode cX9_mayNote 26 = .ok (.bipush (-4), 2) := by decide +kernel
theorem dX9_mayNote_28 : decode cX9_mayNote 28 = .ok (.goto 4, 3) := by decide +kernel
theorem dX9_mayNote_31 : decode cX9_mayNote 31 = .ok (.iconst 0, 1) := by decide +kernel
theorem dX9_mayNote_32 : decode cX9_mayNote 32 = .ok (.ireturn, 1) := by decide +kernel
theorem dX9_remembers_0 : decode cX9_remembers 0 = .ok (.bipush 125, 2) := by decide +kernel
theorem dX9_remembers_2 : decode cX9_remembers 2 = .ok (.bipush 80, 2) := by decide +kernel
theorem dX9_remembers_4 : decode cX9_remembers 4 = .ok (.iload_n 1, 1) := by decide +kernel
theorem dX9_remembers_5 : decode cX9_remembers 5 = .ok (.imul, 1) := by decide +kernel
theorem dX9_remembers_6 : decode cX9_remembers 6 = .ok (.iadd, 1) := by decide +kernel
theorem dX9_remembers_7 : decode cX9_remembers 7 = .ok (.istore 4, 2) := by decide +kernel
theorem dX9_remembers_9 : decode cX9_remembers 9 = .ok (.iconst 0, 1) := by decide +kernel
theorem dX9_remembers_10 : decode cX9_remembers 10 = .ok (.istore 5, 2) := by decide +kernel
theorem dX9_remembers_12 : decode cX9_remembers 12 = .ok (.iconst 0, 1) := by decide +kernel
theorem dX9_remembers_13 : decode cX9_remembers 13 = .ok (.istore 6, 2) := by decide +kernel
theorem dX9_remembers_15 : decode cX9_remembers 15 = .ok (.iload 5, 2) := by decide +kernel
theorem dX9_remembers_17 : decode cX9_remembers 17 = .ok (.aload_n 0, 1) := by decide +kernel
theorem dX9_remembers_18 : decode cX9_remembers 18 = .ok (.getfield 7, 3) := by decide +kernel
theorem dX9_remembers_21 : decode cX9_remembers 21 = .ok (.iconst 2, 1) := by decide +kernel
theorem dX9_remembers_22 : decode cX9_remembers 22 = .ok (.iaload, 1) := by decide +kernel
theorem dX9_remembers_23 : decode cX9_remembers 23 = .ok (.if_icmp .ge 46, 3) := by decide +kernel
theorem dX9_remembers_26 : decode cX9_remembers 26 = .ok (.iload_n 2, 1) := by decide +kernel
theorem dX9_remembers_27 : decode cX9_remembers 27 = .ok (.iconst 1, 1) := by decide +kernel
theorem dX9_remembers_28 : decode cX9_remembers 28 = .ok (.isub, 1) := by decide +kernel
theorem dX9_remembers_29 : decode cX9_remembers 29 = .ok (.iload 5, 2) := by decide +kernel
theorem dX9_remembers_31 : decode cX9_remembers 31 = .ok (.isub, 1) := by decide +kernel
theorem dX9_remembers_32 : decode cX9_remembers 32 = .ok (.ifCond .lt 37, 3) := by decide +kernel
theorem dX9_remembers_35 : decode cX9_remembers 35 = .ok (.aload_n 0, 1) := by decide +kernel
theorem dX9_remembers_36 : decode cX9_remembers 36 = .ok (.getfield 7, 3) := by decide +kernel
theorem dX9_remembers_39 : decode cX9_remembers 39 = .ok (.iload 4, 2) := by decide +kernel
theorem dX9_remembers_41 : decode cX9_remembers 41 = .ok (.bipush 62, 2) := by decide +kernel
theorem dX9_remembers_43 : decode cX9_remembers 43 = .ok (.iadd, 1) := by decide +kernel
theorem dX9_remembers_44 : decode cX9_remembers 44 = .ok (.iconst 1, 1) := by decide +kernel
theorem dX9_remembers_45 : decode cX9_remembers 45 = .ok (.iadd, 1) := by decide +kernel
theorem dX9_remembers_46 : decode cX9_remembers 46 = .ok (.iload 5, 2) := by decide +kernel
theorem dX9_remembers_48 : decode cX9_remembers 48 = .ok (.iadd, 1) := by decide +kernel
theorem dX9_remembers_49 : decode cX9_remembers 49 = .ok (.aload_n 0, 1) := by decide +kernel
theorem dX9_remembers_50 : decode cX9_remembers 50 = .ok (.getfield 7, 3) := by decide +kernel
theorem dX9_remembers_53 : decode cX9_remembers 53 = .ok (.iconst 5, 1) := by decide +kernel
theorem dX9_remembers_54 : decode cX9_remembers 54 = .ok (.iload_n 2, 1) := by decide +kernel
theorem dX9_remembers_55 : decode cX9_remembers 55 = .ok (.iadd, 1) := by decide +kernel
theorem dX9_remembers_56 : decode cX9_remembers 56 = .ok (.iconst 1, 1) := by decide +kernel
theorem dX9_remembers_57 : decode cX9_remembers 57 = .ok (.isub, 1) := by decide +kernel
theorem dX9_remembers_58 : decode cX9_remembers 58 = .ok (.iload 5, 2) := by decide +kernel
theorem dX9_remembers_60 : decode cX9_remembers 60 = .ok (.isub, 1) := by decide +kernel
theorem dX9_remembers_61 : decode cX9_remembers 61 = .ok (.iaload, 1) := by decide +kernel
theorem dX9_remembers_62 : decode cX9_remembers 62 = .ok (.iastore, 1) := by decide +kernel
theorem dX9_remembers_63 : decode cX9_remembers 63 = .ok (.iinc 5 1, 3) := by decide +kernel
theorem dX9_remembers_66 : decode cX9_remembers 66 = .ok (.goto (-51), 3) := by decide +kernel
theorem dX9_remembers_69 : decode cX9_remembers 69 = .ok (.iload 6, 2) := by decide +kernel
theorem dX9_remembers_71 : decode cX9_remembers 71 = .ok (.aload_n 0, 1) := by decide +kernel
theorem dX9_remembers_72 : decode cX9_remembers 72 = .ok (.getfield 7, 3) := by decide +kernel
theorem dX9_remembers_75 : decode cX9_remembers 75 = .ok (.iconst 2, 1) := by decide +kernel
theorem dX9_remembers_76 : decode cX9_remembers 76 = .ok (.iaload, 1) := by decide +kernel
theorem dX9_remembers_77 : decode cX9_remembers 77 = .ok (.if_icmp .ge 52, 3) := by decide +kernel
theorem dX9_remembers_80 : decode cX9_remembers 80 = .ok (.iload_n 3, 1) := by decide +kernel
theorem dX9_remembers_81 : decode cX9_remembers 81 = .ok (.iconst 1, 1) := by decide +kernel
theorem dX9_remembers_82 : decode cX9_remembers 82 = .ok (.iadd, 1) := by decide +kernel
theorem dX9_remembers_83 : decode cX9_remembers 83 = .ok (.iload 6, 2) := by decide +kernel
theorem dX9_remembers_85 : decode cX9_remembers 85 = .ok (.iadd, 1) := by decide +kernel
theorem dX9_remembers_86 : decode cX9_remembers 86 = .ok (.aload_n 0, 1) := by decide +kernel
theorem dX9_remembers_87 : decode cX9_remembers 87 = .ok (.getfield 7, 3) := by decide +kernel
theorem dX9_remembers_90 : decode cX9_remembers 90 = .ok (.iconst 0, 1) := by decide +kernel
theorem dX9_remembers_91 : decode cX9_remembers 91 = .ok (.iaload, 1) := by decide +kernel
theorem dX9_remembers_92 : decode cX9_remembers 92 = .ok (.if_icmp .ge 37, 3) := by decide +kernel
theorem dX9_remembers_95 : decode cX9_remembers 95 = .ok (.aload_n 0, 1) := by decide +kernel
theorem dX9_remembers_96 : decode cX9_remembers 96 = .ok (.getfield 7, 3) := by decide +kernel
theorem dX9_remembers_99 : decode cX9_remembers 99 = .ok (.iload 4, 2) := by decide +kernel
theorem dX9_remembers_101 : decode cX9_remembers 101 = .ok (.bipush 71, 2) := by decide +kernel
theorem dX9_remembers_103 : decode cX9_remembers 103 = .ok (.iadd, 1) := by decide +kernel
theorem dX9_remembers_104 : decode cX9_remembers 104 = .ok (.iconst 1, 1) := by decide +kernel
theorem dX9_remembers_105 : decode cX9_remembers 105 = .ok (.iadd, 1) := by decide +kernel
theorem dX9_remembers_106 : decode cX9_remembers 106 = .ok (.iload 6, 2) := by decide +kernel
theorem dX9_remembers_108 : decode cX9_remembers 108 = .ok (.iadd, 1) := by decide +kernel
theorem dX9_remembers_109 : decode cX9_remembers 109 = .ok (.aload_n 0, 1) := by decide +kernel
theorem dX9_remembers_110 : decode cX9_remembers 110 = .ok (.getfield 7, 3) := by decide +kernel
theorem dX9_remembers_113 : decode cX9_remembers 113 = .ok (.iconst 5, 1) := by decide +kernel
theorem dX9_remembers_114 : decode cX9_remembers 114 = .ok (.iload_n 3, 1) := by decide +kernel
theorem dX9_remembers_115 : decode cX9_remembers 115 = .ok (.iadd, 1) := by decide +kernel
theorem dX9_remembers_116 : decode cX9_remembers 116 = .ok (.iconst 1, 1) := by decide +kernel
theorem dX9_remembers_117 : decode cX9_remembers 117 = .ok (.iadd, 1) := by decide +kernel
theorem dX9_remembers_118 : decode cX9_remembers 118 = .ok (.iload 6, 2) := by decide +kernel
theorem dX9_remembers_120 : decode cX9_remembers 120 = .ok (.iadd, 1) := by decide +kernel
theorem dX9_remembers_121 : decode cX9_remembers 121 = .ok (.iaload, 1) := by decide +kernel
theorem dX9_remembers_122 : decode cX9_remembers 122 = .ok (.iastore, 1) := by decide +kernel
theorem dX9_remembers_123 : decode cX9_remembers 123 = .ok (.iinc 6 1, 3) := by decide +kernel
theorem dX9_remembers_126 : decode cX9_remembers 126 = .ok (.goto (-57), 3) := by decide +kernel
theorem dX9_remembers_129 : decode cX9_remembers 129 = .ok (.aload_n 0, 1) := by decide +kernel
theorem dX9_remembers_130 : decode cX9_remembers 130 = .ok (.getfield 7, 3) := by decide +kernel
theorem dX9_remembers_133 : decode cX9_remembers 133 = .ok (.iload 4, 2) := by decide +kernel
theorem dX9_remembers_135 : decode cX9_remembers 135 = .ok (.bipush 62, 2) := by decide +kernel
theorem dX9_remembers_137 : decode cX9_remembers 137 = .ok (.iadd, 1) := by decide +kernel
theorem dX9_remembers_138 : decode cX9_remembers 138 = .ok (.iload 5, 2) := by decide +kernel
theorem dX9_remembers_140 : decode cX9_remembers 140 = .ok (.iastore, 1) := by decide +kernel
theorem dX9_remembers_141 : decode cX9_remembers 141 = .ok (.aload_n 0, 1) := by decide +kernel
theorem dX9_remembers_142 : decode cX9_remembers 142 = .ok (.getfield 7, 3) := by decide +kernel
theorem dX9_remembers_145 : decode cX9_remembers 145 = .ok (.iload 4, 2) := by decide +kernel
theorem dX9_remembers_147 : decode cX9_remembers 147 = .ok (.bipush 71, 2) := by decide +kernel
theorem dX9_remembers_149 : decode cX9_remembers 149 = .ok (.iadd, 1) := by decide +kernel
theorem dX9_remembers_150 : decode cX9_remembers 150 = .ok (.iload 6, 2) := by decide +kernel
theorem dX9_remembers_152 : decode cX9_remembers 152 = .ok (.iastore, 1) := by decide +kernel
theorem dX9_remembers_153 : decode cX9_remembers 153 = .ok (.return_, 1) := by decide +kernel
theorem dX9_takes_0 : decode cX9_takes 0 = .ok (.iload_n 2, 1) := by decide +kernel
theorem dX9_takes_1 : decode cX9_takes 1 = .ok (.istore 4, 2) := by decide +kernel
theorem dX9_takes_3 : decode cX9_takes 3 = .ok (.iload 4, 2) := by decide +kernel
theorem dX9_takes_5 : decode cX9_takes 5 = .ok (.iload_n 3, 1) := by decide +kernel
theorem dX9_takes_6 : decode cX9_takes 6 = .ok (.if_icmp .gt 25, 3) := by decide +kernel
theorem dX9_takes_9 : decode cX9_takes 9 = .ok (.aload_n 0, 1) := by decide +kernel
theorem dX9_takes_10 : decode cX9_takes 10 = .ok (.getfield 7, 3) := by decide +kernel
theorem dX9_takes_13 : decode cX9_takes 13 = .ok (.bipush 65, 2) := by decide +kernel
theorem dX9_takes_15 : decode cX9_takes 15 = .ok (.iload 4, 2) := by decide +kernel
theorem dX9_takes_17 : decode cX9_takes 17 = .ok (.iadd, 1) := by decide +kernel
theorem dX9_takes_18 : decode cX9_takes 18 = .ok (.dup2, 1) := by decide +kernel
theorem dX9_takes_19 : decode cX9_takes 19 = .ok (.iaload, 1) := by decide +kernel
theorem dX9_takes_20 : decode cX9_takes 20 = .ok (.iconst 1, 1) := by decide +kernel
theorem dX9_takes_21 : decode cX9_takes 21 = .ok (.iload_n 1, 1) := by decide +kernel
theorem dX9_takes_22 : decode cX9_takes 22 = .ok (.ishl, 1) := by decide +kernel
theorem dX9_takes_23 : decode cX9_takes 23 = .ok (.ior, 1) := by decide +kernel
theorem dX9_takes_24 : decode cX9_takes 24 = .ok (.iastore, 1) := by decide +kernel
theorem dX9_takes_25 : decode cX9_takes 25 = .ok (.iinc 4 1, 3) := by decide +kernel
theorem dX9_takes_28 : decode cX9_takes 28 = .ok (.goto (-25), 3) := by decide +kernel
theorem dX9_takes_31 : decode cX9_takes 31 = .ok (.aload_n 0, 1) := by decide +kernel
theorem dX9_takes_32 : decode cX9_takes 32 = .ok (.iload_n 1, 1) := by decide +kernel
theorem dX9_takes_33 : decode cX9_takes 33 = .ok (.iload_n 2, 1) := by decide +kernel
theorem dX9_takes_34 : decode cX9_takes 34 = .ok (.iload_n 3, 1) := by decide +kernel
theorem dX9_takes_35 : decode cX9_takes 35 = .ok (.invokevirtual 128, 3) := by decide +kernel
theorem dX9_takes_38 : decode cX9_takes 38 = .ok (.return_, 1) := by decide +kernel
theorem dX9_notes_0 : decode cX9_notes 0 = .ok (.aload_n 0, 1) := by decide +kernel
theorem dX9_notes_1 : decode cX9_notes 1 = .ok (.getfield 7, 3) := by decide +kernel
theorem dX9_notes_4 : decode cX9_notes 4 = .ok (.iconst 1, 1) := by decide +kernel
theorem dX9_notes_5 : decode cX9_notes 5 = .ok (.iaload, 1) := by decide +kernel
theorem dX9_notes_6 : decode cX9_notes 6 = .ok (.istore_n 3, 1) := by decide +kernel
theorem dX9_notes_7 : decode cX9_notes 7 = .ok (.bipush 125, 2) := by decide +kernel
theorem dX9_notes_9 : decode cX9_notes 9 = .ok (.bipush 80, 2) := by decide +kernel
theorem dX9_notes_11 : decode cX9_notes 11 = .ok (.iload_n 3, 1) := by decide +kernel
theorem dX9_notes_12 : decode cX9_notes 12 = .ok (.imul, 1) := by decide +kernel
theorem dX9_notes_13 : decode cX9_notes 13 = .ok (.iadd, 1) := by decide +kernel
theorem dX9_notes_14 : decode cX9_notes 14 = .ok (.istore 4, 2) := by decide +kernel
theorem dX9_notes_16 : decode cX9_notes 16 = .ok (.aload_n 0, 1) := by decide +kernel
theorem dX9_notes_17 : decode cX9_notes 17 = .ok (.getfield 7, 3) := by decide +kernel
theorem dX9_notes_20 : decode cX9_notes 20 = .ok (.iload 4, 2) := by decide +kernel
theorem dX9_notes_22 : decode cX9_notes 22 = .ok (.iconst 0, 1) := by decide +kernel
theorem dX9_notes_23 : decode cX9_notes 23 = .ok (.iadd, 1) := by decide +kernel
theorem dX9_notes_24 : decode cX9_notes 24 = .ok (.bipush (-6), 2) := by decide +kernel
theorem dX9_notes_26 : decode cX9_notes 26 = .ok (.iastore, 1) := by decide +kernel
theorem dX9_notes_27 : decode cX9_notes 27 = .ok (.aload_n 0, 1) := by decide +kernel
theorem dX9_notes_28 : decode cX9_notes 28 = .ok (.getfield 7, 3) := by decide +kernel
theorem dX9_notes_31 : decode cX9_notes 31 = .ok (.iload 4, 2) := by decide +kernel
theorem dX9_notes_33 : decode cX9_notes 33 = .ok (.iconst 1, 1) := by decide +kernel
theorem dX9_notes_34 : decode cX9_notes 34 = .ok (.iadd, 1) := by decide +kernel
theorem dX9_notes_35 : decode cX9_notes 35 = .ok (.iload_n 2, 1) := by decide +kernel
theorem dX9_notes_36 : decode cX9_notes 36 = .ok (.iload_n 1, 1) := by decide +kernel
theorem dX9_notes_37 : decode cX9_notes 37 = .ok (.isub, 1) := by decide +kernel
theorem dX9_notes_38 : decode cX9_notes 38 = .ok (.iconst 1, 1) := by decide +kernel
theorem dX9_notes_39 : decode cX9_notes 39 = .ok (.iadd, 1) := by decide +kernel
theorem dX9_notes_40 : decode cX9_notes 40 = .ok (.iastore, 1) := by decide +kernel
theorem dX9_notes_41 : decode cX9_notes 41 = .ok (.iload_n 1, 1) := by decide +kernel
theorem dX9_notes_42 : decode cX9_notes 42 = .ok (.istore 5, 2) := by decide +kernel
theorem dX9_notes_44 : decode cX9_notes 44 = .ok (.iload 5, 2) := by decide +kernel
theorem dX9_notes_46 : decode cX9_notes 46 = .ok (.iload_n 2, 1) := by decide +kernel
theorem dX9_notes_47 : decode cX9_notes 47 = .ok (.if_icmp .gt 32, 3) := by decide +kernel
theorem dX9_notes_50 : decode cX9_notes 50 = .ok (.aload_n 0, 1) := by decide +kernel
theorem dX9_notes_51 : decode cX9_notes 51 = .ok (.getfield 7, 3) := by decide +kernel
theorem dX9_notes_54 : decode cX9_notes 54 = .ok (.iload 4, 2) := by decide +kernel
theorem dX9_notes_56 : decode cX9_notes 56 = .ok (.iconst 2, 1) := by decide +kernel
theorem dX9_notes_57 : decode cX9_notes 57 = .ok (.iadd, 1) := by decide +kernel
theorem dX9_notes_58 : decode cX9_notes 58 = .ok (.iload 5, 2) := by decide +kernel
theorem dX9_notes_60 : decode cX9_notes 60 = .ok (.iadd, 1) := by decide +kernel
theorem dX9_notes_61 : decode cX9_notes 61 = .ok (.iload_n 1, 1) := by decide +kernel
theorem dX9_notes_62 : decode cX9_notes 62 = .ok (.isub, 1) := by decide +kernel
theorem dX9_notes_63 : decode cX9_notes 63 = .ok (.aload_n 0, 1) := by decide +kernel
theorem dX9_notes_64 : decode cX9_notes 64 = .ok (.getfield 7, 3) := by decide +kernel
theorem dX9_notes_67 : decode cX9_notes 67 = .ok (.iconst 5, 1) := by decide +kernel
theorem dX9_notes_68 : decode cX9_notes 68 = .ok (.iload 5, 2) := by decide +kernel
theorem dX9_notes_70 : decode cX9_notes 70 = .ok (.iadd, 1) := by decide +kernel
theorem dX9_notes_71 : decode cX9_notes 71 = .ok (.iaload, 1) := by decide +kernel
theorem dX9_notes_72 : decode cX9_notes 72 = .ok (.iastore, 1) := by decide +kernel
theorem dX9_notes_73 : decode cX9_notes 73 = .ok (.iinc 5 1, 3) := by decide +kernel
theorem dX9_notes_76 : decode cX9_notes 76 = .ok (.goto (-32), 3) := by decide +kernel
theorem dX9_notes_79 : decode cX9_notes 79 = .ok (.aload_n 0, 1) := by decide +kernel
theorem dX9_notes_80 : decode cX9_notes 80 = .ok (.iload_n 3, 1) := by decide +kernel
theorem dX9_notes_81 : decode cX9_notes 81 = .ok (.iload_n 1, 1) := by decide +kernel
theorem dX9_notes_82 : decode cX9_notes 82 = .ok (.iload_n 2, 1) := by decide +kernel
theorem dX9_notes_83 : decode cX9_notes 83 = .ok (.invokevirtual 131, 3) := by decide +kernel
theorem dX9_notes_86 : decode cX9_notes 86 = .ok (.aload_n 0, 1) := by decide +kernel
theorem dX9_notes_87 : decode cX9_notes 87 = .ok (.getfield 7, 3) := by decide +kernel
theorem dX9_notes_90 : decode cX9_notes 90 = .ok (.iconst 1, 1) := by decide +kernel
theorem dX9_notes_91 : decode cX9_notes 91 = .ok (.dup2, 1) := by decide +kernel
theorem dX9_notes_92 : decode cX9_notes 92 = .ok (.iaload, 1) := by decide +kernel
theorem dX9_notes_93 : decode cX9_notes 93 = .ok (.iconst 1, 1) := by decide +kernel
theorem dX9_notes_94 : decode cX9_notes 94 = .ok (.iadd, 1) := by decide +kernel
theorem dX9_notes_95 : decode cX9_notes 95 = .ok (.iastore, 1) := by decide +kernel
theorem dX9_notes_96 : decode cX9_notes 96 = .ok (.iload_n 3, 1) := by decide +kernel
theorem dX9_notes_97 : decode cX9_notes 97 = .ok (.ireturn, 1) := by decide +kernel
theorem dX9_note_0 : decode cX9_note 0 = .ok (.aload_n 0, 1) := by decide +kernel
theorem dX9_note_1 : decode cX9_note 1 = .ok (.iload_n 1, 1) := by decide +kernel
theorem dX9_note_2 : decode cX9_note 2 = .ok (.iload_n 2, 1) := by decide +kernel
theorem dX9_note_3 : decode cX9_note 3 = .ok (.invokevirtual 134, 3) := by decide +kernel
theorem dX9_note_6 : decode cX9_note 6 = .ok (.istore_n 3, 1) := by decide +kernel
theorem dX9_note_7 : decode cX9_note 7 = .ok (.iload_n 3, 1) := by decide +kernel
theorem dX9_note_8 : decode cX9_note 8 = .ok (.ifCond .eq 5, 3) := by decide +kernel
theorem dX9_note_11 : decode cX9_note 11 = .ok (.iload_n 3, 1) := by decide +kernel
theorem dX9_note_12 : decode cX9_note 12 = .ok (.ireturn, 1) := by decide +kernel
theorem dX9_note_13 : decode cX9_note 13 = .ok (.aload_n 0, 1) := by decide +kernel
theorem dX9_note_14 : decode cX9_note 14 = .ok (.invokevirtual 57, 3) := by decide +kernel
theorem dX9_note_17 : decode cX9_note 17 = .ok (.aload_n 0, 1) := by decide +kernel
theorem dX9_note_18 : decode cX9_note 18 = .ok (.iload_n 1, 1) := by decide +kernel
theorem dX9_note_19 : decode cX9_note 19 = .ok (.iload_n 2, 1) := by decide +kernel
theorem dX9_note_20 : decode cX9_note 20 = .ok (.invokevirtual 137, 3) := by decide +kernel
theorem dX9_note_23 : decode cX9_note 23 = .ok (.ireturn, 1) := by decide +kernel
theorem dX9_mayReply_0 : decode cX9_mayReply 0 = .ok (.aload_n 0, 1) := by decide +kernel
theorem dX9_mayReply_1 : decode cX9_mayReply 1 = .ok (.iload_n 1, 1) := by decide +kernel
theorem dX9_mayReply_2 : decode cX9_mayReply 2 = .ok (.invokevirtual 140, 3) := by decide +kernel
theorem dX9_mayReply_5 : decode cX9_mayReply 5 = .ok (.ifCond .ne 7, 3) := by decide +kernel
theorem dX9_mayReply_8 : decode cX9_mayReply 8 = .ok (.iconst (-1), 1) := by decide +kernel
theorem dX9_mayReply_9 : decode cX9_mayReply 9 = .ok (.goto 20, 3) := by decide +kernel
theorem dX9_mayReply_12 : decode cX9_mayReply 12 = .ok (.aload_n 0, 1) := by decide +kernel
theorem dX9_mayReply_13 : decode cX9_mayReply 13 = .ok (.getfield 7, 3) := by decide +kernel
theorem dX9_mayReply_16 : decode cX9_mayReply 16 = .ok (.iconst 1, 1) := by decide +kernel
theorem dX9_mayReply_17 : decode cX9_mayReply 17 = .ok (.iaload, 1) := by decide +kernel
theorem dX9_mayReply_18 : decode cX9_mayReply 18 = .ok (.bipush 16, 2) := by decide +kernel
theorem dX9_mayReply_20 : decode cX9_mayReply 20 = .ok (.if_icmp .ne 8, 3) := by decide +kernel
theorem dX9_mayReply_23 : decode cX9_mayReply 23 = .ok (.bipush (-4), 2) := by decide +kernel
theorem dX9_mayReply_25 : decode cX9_mayReply 25 = .ok (.goto 4, 3) := by decide +kernel
theorem dX9_mayReply_28 : decode cX9_mayReply 28 = .ok (.iconst 0, 1) := by decide +kernel
theorem dX9_mayReply_29 : decode cX9_mayReply 29 = .ok (.ireturn, 1) := by decide +kernel
theorem dX9_replies_0 : decode cX9_replies 0 = .ok (.aload_n 0, 1) := by decide +kernel
theorem dX9_replies_1 : decode cX9_replies 1 = .ok (.getfield 7, 3) := by decide +kernel
theorem dX9_replies_4 : decode cX9_replies 4 = .ok (.iconst 1, 1) := by decide +kernel
theorem dX9_replies_5 : decode cX9_replies 5 = .ok (.iaload, 1) := by decide +kernel
theorem dX9_replies_6 : decode cX9_replies 6 = .ok (.istore_n 2, 1) := by decide +kernel
theorem dX9_replies_7 : decode cX9_replies 7 = .ok (.aload_n 0, 1) := by decide +kernel
theorem dX9_replies_8 : decode cX9_replies 8 = .ok (.getfield 7, 3) := by decide +kernel
theorem dX9_replies_11 : decode cX9_replies 11 = .ok (.bipush 125, 2) := by decide +kernel
theorem dX9_replies_13 : decode cX9_replies 13 = .ok (.bipush 80, 2) := by decide +kernel
theorem dX9_replies_15 : decode cX9_replies 15 = .ok (.iload_n 2, 1) := by decide +kernel
theorem dX9_replies_16 : decode cX9_replies 16 = .ok (.imul, 1) := by decide +kernel
theorem dX9_replies_17 : decode cX9_replies 17 = .ok (.iadd, 1) := by decide +kernel
theorem dX9_replies_18 : decode cX9_replies 18 = .ok (.iconst 0, 1) := by decide +kernel
theorem dX9_replies_19 : decode cX9_replies 19 = .ok (.iadd, 1) := by decide +kernel
theorem dX9_replies_20 : decode cX9_replies 20 = .ok (.iload_n 1, 1) := by decide +kernel
theorem dX9_replies_21 : decode cX9_replies 21 = .ok (.iastore, 1) := by decide +kernel
theorem dX9_replies_22 : decode cX9_replies 22 = .ok (.aload_n 0, 1) := by decide +kernel
theorem dX9_replies_23 : decode cX9_replies 23 = .ok (.getfield 7, 3) := by decide +kernel
theorem dX9_replies_26 : decode cX9_replies 26 = .ok (.bipush 125, 2) := by decide +kernel
theorem dX9_replies_28 : decode cX9_replies 28 = .ok (.bipush 80, 2) := by decide +kernel
theorem dX9_replies_30 : decode cX9_replies 30 = .ok (.iload_n 2, 1) := by decide +kernel
theorem dX9_replies_31 : decode cX9_replies 31 = .ok (.imul, 1) := by decide +kernel
theorem dX9_replies_32 : decode cX9_replies 32 = .ok (.iadd, 1) := by decide +kernel
theorem dX9_replies_33 : decode cX9_replies 33 = .ok (.iconst 1, 1) := by decide +kernel
theorem dX9_replies_34 : decode cX9_replies 34 = .ok (.iadd, 1) := by decide +kernel
theorem dX9_replies_35 : decode cX9_replies 35 = .ok (.iconst 0, 1) := by decide +kernel
theorem dX9_replies_36 : decode cX9_replies 36 = .ok (.iastore, 1) := by decide +kernel
theorem dX9_replies_37 : decode cX9_replies 37 = .ok (.aload_n 0, 1) := by decide +kernel
theorem dX9_replies_38 : decode cX9_replies 38 = .ok (.getfield 7, 3) := by decide +kernel
theorem dX9_replies_41 : decode cX9_replies 41 = .ok (.iconst 1, 1) := by decide +kernel
theorem dX9_replies_42 : decode cX9_replies 42 = .ok (.dup2, 1) := by decide +kernel
theorem dX9_replies_43 : decode cX9_replies 43 = .ok (.iaload, 1) := by decide +kernel
theorem dX9_replies_44 : decode cX9_replies 44 = .ok (.iconst 1, 1) := by decide +kernel
theorem dX9_replies_45 : decode cX9_replies 45 = .ok (.iadd, 1) := by decide +kernel
theorem dX9_replies_46 : decode cX9_replies 46 = .ok (.iastore, 1) := by decide +kernel
theorem dX9_replies_47 : decode cX9_replies 47 = .ok (.iload_n 2, 1) := by decide +kernel
theorem dX9_replies_48 : decode cX9_replies 48 = .ok (.ireturn, 1) := by decide +kernel
theorem dX9_reply_0 : decode cX9_reply 0 = .ok (.aload_n 0, 1) := by decide +kernel
theorem dX9_reply_1 : decode cX9_reply 1 = .ok (.iload_n 1, 1) := by decide +kernel
theorem dX9_reply_2 : decode cX9_reply 2 = .ok (.invokevirtual 143, 3) := by decide +kernel
theorem dX9_reply_5 : decode cX9_reply 5 = .ok (.istore_n 2, 1) := by decide +kernel
theorem dX9_reply_6 : decode cX9_reply 6 = .ok (.iload_n 2, 1) := by decide +kernel
theorem dX9_reply_7 : decode cX9_reply 7 = .ok (.ifCond .eq 5, 3) := by decide +kernel
theorem dX9_reply_10 : decode cX9_reply 10 = .ok (.iload_n 2, 1) := by decide +kernel
theorem dX9_reply_11 : decode cX9_reply 11 = .ok (.ireturn, 1) := by decide +kernel
theorem dX9_reply_12 : decode cX9_reply 12 = .ok (.aload_n 0, 1) := by decide +kernel
theorem dX9_reply_13 : decode cX9_reply 13 = .ok (.invokevirtual 57, 3) := by decide +kernel
theorem dX9_reply_16 : decode cX9_reply 16 = .ok (.aload_n 0, 1) := by decide +kernel
theorem dX9_reply_17 : decode cX9_reply 17 = .ok (.iload_n 1, 1) := by decide +kernel
theorem dX9_reply_18 : decode cX9_reply 18 = .ok (.invokevirtual 146, 3) := by decide +kernel
theorem dX9_reply_21 : decode cX9_reply 21 = .ok (.ireturn, 1) := by decide +kernel
theorem dX9_noteGoes_0 : decode cX9_noteGoes 0 = .ok (.aload_n 0, 1) := by decide +kernel
theorem dX9_noteGoes_1 : decode cX9_noteGoes 1 = .ok (.getfield 7, 3) := by decide +kernel
theorem dX9_noteGoes_4 : decode cX9_noteGoes 4 = .ok (.iconst 1, 1) := by decide +kernel
theorem dX9_noteGoes_5 : decode cX9_noteGoes 5 = .ok (.dup2, 1) := by decide +kernel
theorem dX9_noteGoes_6 : decode cX9_noteGoes 6 = .ok (.iaload, 1) := by decide +kernel
theorem dX9_noteGoes_7 : decode cX9_noteGoes 7 = .ok (.iconst 1, 1) := by decide +kernel
theorem dX9_noteGoes_8 : decode cX9_noteGoes 8 = .ok (.isub, 1) := by decide +kernel
theorem dX9_noteGoes_9 : decode cX9_noteGoes 9 = .ok (.iastore, 1) := by decide +kernel
theorem dX9_noteGoes_10 : decode cX9_noteGoes 10 = .ok (.bipush 125, 2) := by decide +kernel
theorem dX9_noteGoes_12 : decode cX9_noteGoes 12 = .ok (.bipush 80, 2) := by decide +kernel
theorem dX9_noteGoes_14 : decode cX9_noteGoes 14 = .ok (.iload_n 1, 1) := by decide +kernel
theorem dX9_noteGoes_15 : decode cX9_noteGoes 15 = .ok (.imul, 1) := by decide +kernel
theorem dX9_noteGoes_16 : decode cX9_noteGoes 16 = .ok (.iadd, 1) := by decide +kernel
theorem dX9_noteGoes_17 : decode cX9_noteGoes 17 = .ok (.istore_n 2, 1) := by decide +kernel
theorem dX9_noteGoes_18 : decode cX9_noteGoes 18 = .ok (.iload_n 2, 1) := by decide +kernel
theorem dX9_noteGoes_19 : decode cX9_noteGoes 19 = .ok (.bipush 125, 2) := by decide +kernel
theorem dX9_noteGoes_21 : decode cX9_noteGoes 21 = .ok (.bipush 80, 2) := by decide +kernel
theorem dX9_noteGoes_23 : decode cX9_noteGoes 23 = .ok (.aload_n 0, 1) := by decide +kernel
theorem dX9_noteGoes_24 : decode cX9_noteGoes 24 = .ok (.getfield 7, 3) := by decide +kernel
theorem dX9_noteGoes_27 : decode cX9_noteGoes 27 = .ok (.iconst 1, 1) := by decide +kernel
theorem dX9_noteGoes_28 : decode cX9_noteGoes 28 = .ok (.iaload, 1) := by decide +kernel
theorem dX9_noteGoes_29 : decode cX9_noteGoes 29 = .ok (.imul, 1) := by decide +kernel
theorem dX9_noteGoes_30 : decode cX9_noteGoes 30 = .ok (.iadd, 1) := by decide +kernel
theorem dX9_noteGoes_31 : decode cX9_noteGoes 31 = .ok (.if_icmp .ge 24, 3) := by decide +kernel
theorem dX9_noteGoes_34 : decode cX9_noteGoes 34 = .ok (.aload_n 0, 1) := by decide +kernel
theorem dX9_noteGoes_35 : decode cX9_noteGoes 35 = .ok (.getfield 7, 3) := by decide +kernel
theorem dX9_noteGoes_38 : decode cX9_noteGoes 38 = .ok (.iload_n 2, 1) := by decide +kernel
theorem dX9_noteGoes_39 : decode cX9_noteGoes 39 = .ok (.aload_n 0, 1) := by decide +kernel
theorem dX9_noteGoes_40 : decode cX9_noteGoes 40 = .ok (.getfield 7, 3) := by decide +kernel
theorem dX9_noteGoes_43 : decode cX9_noteGoes 43 = .ok (.iload_n 2, 1) := by decide +kernel
theorem dX9_noteGoes_44 : decode cX9_noteGoes 44 = .ok (.bipush 80, 2) := by decide +kernel
theorem dX9_noteGoes_46 : decode cX9_noteGoes 46 = .ok (.iadd, 1) := by decide +kernel
theorem dX9_noteGoes_47 : decode cX9_noteGoes 47 = .ok (.iaload, 1) := by decide +kernel
theorem dX9_noteGoes_48 : decode cX9_noteGoes 48 = .ok (.iastore, 1) := by decide +kernel
theorem dX9_noteGoes_49 : decode cX9_noteGoes 49 = .ok (.iinc 2 1, 3) := by decide +kernel
theorem dX9_noteGoes_52 : decode cX9_noteGoes 52 = .ok (.goto (-34), 3) := by decide +kernel
theorem dX9_noteGoes_55 : decode cX9_noteGoes 55 = .ok (.iconst 0, 1) := by decide +kernel
theorem dX9_noteGoes_56 : decode cX9_noteGoes 56 = .ok (.istore_n 2, 1) := by decide +kernel
theorem dX9_noteGoes_57 : decode cX9_noteGoes 57 = .ok (.iload_n 2, 1) := by decide +kernel
theorem dX9_noteGoes_58 : decode cX9_noteGoes 58 = .ok (.aload_n 0, 1) := by decide +kernel
theorem dX9_noteGoes_59 : decode cX9_noteGoes 59 = .ok (.getfield 7, 3) := by decide +kernel
theorem dX9_noteGoes_62 : decode cX9_noteGoes 62 = .ok (.iconst 1, 1) := by decide +kernel
theorem dX9_noteGoes_63 : decode cX9_noteGoes 63 = .ok (.iaload, 1) := by decide +kernel
theorem dX9_noteGoes_64 : decode cX9_noteGoes 64 = .ok (.if_icmp .ge 39, 3) := by decide +kernel
theorem dX9_noteGoes_67 : decode cX9_noteGoes 67 = .ok (.aload_n 0, 1) := by decide +kernel
theorem dX9_noteGoes_68 : decode cX9_noteGoes 68 = .ok (.getfield 7, 3) := by decide +kernel
theorem dX9_noteGoes_71 : decode cX9_noteGoes 71 = .ok (.bipush 125, 2) := by decide +kernel
theorem dX9_noteGoes_73 : decode cX9_noteGoes 73 = .ok (.bipush 80, 2) := by decide +kernel
theorem dX9_noteGoes_75 : decode cX9_noteGoes 75 = .ok (.iload_n 2, 1) := by decide +kernel
theorem dX9_noteGoes_76 : decode cX9_noteGoes 76 = .ok (.imul, 1) := by decide +kernel
theorem dX9_noteGoes_77 : decode cX9_noteGoes 77 = .ok (.iadd, 1) := by decide +kernel
theorem dX9_noteGoes_78 : decode cX9_noteGoes 78 = .ok (.dup2, 1) := by decide +kernel
theorem dX9_noteGoes_79 : decode cX9_noteGoes 79 = .ok (.iaload, 1) := by decide +kernel
theorem dX9_noteGoes_80 : decode cX9_noteGoes 80 = .ok (.aload_n 0, 1) := by decide +kernel
theorem dX9_noteGoes_81 : decode cX9_noteGoes 81 = .ok (.iload_n 2, 1) := by decide +kernel
theorem dX9_noteGoes_82 : decode cX9_noteGoes 82 = .ok (.iconst 0, 1) := by decide +kernel
theorem dX9_noteGoes_83 : decode cX9_noteGoes 83 = .ok (.invokevirtual 45, 3) := by decide +kernel
theorem dX9_noteGoes_86 : decode cX9_noteGoes 86 = .ok (.iload_n 1, 1) := by decide +kernel
theorem dX9_noteGoes_87 : decode cX9_noteGoes 87 = .ok (.if_icmp .le 7, 3) := by decide +kernel
theorem dX9_noteGoes_90 : decode cX9_noteGoes 90 = .ok (.iconst 1, 1) := by decide +kernel
theorem dX9_noteGoes_91 : decode cX9_noteGoes 91 = .ok (.goto 4, 3) := by decide +kernel
theorem dX9_noteGoes_94 : decode cX9_noteGoes 94 = .ok (.iconst 0, 1) := by decide +kernel
theorem dX9_noteGoes_95 : decode cX9_noteGoes 95 = .ok (.isub, 1) := by decide +kernel
theorem dX9_noteGoes_96 : decode cX9_noteGoes 96 = .ok (.iastore, 1) := by decide +kernel
theorem dX9_noteGoes_97 : decode cX9_noteGoes 97 = .ok (.iinc 2 1, 3) := by decide +kernel
theorem dX9_noteGoes_100 : decode cX9_noteGoes 100 = .ok (.goto (-43), 3) := by decide +kernel
theorem dX9_noteGoes_103 : decode cX9_noteGoes 103 = .ok (.iconst 1, 1) := by decide +kernel
theorem dX9_noteGoes_104 : decode cX9_noteGoes 104 = .ok (.iload_n 1, 1) := by decide +kernel
theorem dX9_noteGoes_105 : decode cX9_noteGoes 105 = .ok (.ishl, 1) := by decide +kernel
theorem dX9_noteGoes_106 : decode cX9_noteGoes 106 = .ok (.iconst 1, 1) := by decide +kernel
theorem dX9_noteGoes_107 : decode cX9_noteGoes 107 = .ok (.isub, 1) := by decide +kernel
theorem dX9_noteGoes_108 : decode cX9_noteGoes 108 = .ok (.istore_n 2, 1) := by decide +kernel
theorem dX9_noteGoes_109 : decode cX9_noteGoes 109 = .ok (.iconst 0, 1) := by decide +kernel
theorem dX9_noteGoes_110 : decode cX9_noteGoes 110 = .ok (.istore_n 3, 1) := by decide +kernel
theorem dX9_noteGoes_111 : decode cX9_noteGoes 111 = .ok (.iload_n 3, 1) := by decide +kernel
theorem dX9_noteGoes_112 : decode cX9_noteGoes 112 = .ok (.aload_n 0, 1) := by decide +kernel
theorem dX9_noteGoes_113 : decode cX9_noteGoes 113 = .ok (.getfield 7, 3) := by decide +kernel
theorem dX9_noteGoes_116 : decode cX9_noteGoes 116 = .ok (.iconst 0, 1) := by decide +kernel
theorem dX9_noteGoes_117 : decode cX9_noteGoes 117 = .ok (.iaload, 1) := by decide +kernel
theorem dX9_noteGoes_118 : decode cX9_noteGoes 118 = .ok (.if_icmp .ge 42, 3) := by decide +kernel
theorem dX9_noteGoes_121 : decode cX9_noteGoes 121 = .ok (.aload_n 0, 1) := by decide +kernel
theorem dX9_noteGoes_122 : decode cX9_noteGoes 122 = .ok (.getfield 7, 3) := by decide +kernel
theorem dX9_noteGoes_125 : decode cX9_noteGoes 125 = .ok (.bipush 65, 2) := by decide +kernel
theorem dX9_noteGoes_127 : decode cX9_noteGoes 127 = .ok (.iload_n 3, 1) := by decide +kernel
theorem dX9_noteGoes_128 : decode cX9_noteGoes 128 = .ok (.iadd, 1) := by decide +kernel
theorem dX9_noteGoes_129 : decode cX9_noteGoes 129 = .ok (.iaload, 1) := by decide +kernel
theorem dX9_noteGoes_130 : decode cX9_noteGoes 130 = .ok (.istore 4, 2) := by decide +kernel
theorem dX9_noteGoes_132 : decode cX9_noteGoes 132 = .ok (.aload_n 0, 1) := by decide +kernel
theorem dX9_noteGoes_133 : decode cX9_noteGoes 133 = .ok (.getfield 7, 3) := by decide +kernel
theorem dX9_noteGoes_136 : decode cX9_noteGoes 136 = .ok (.bipush 65, 2) := by decide +kernel
theorem dX9_noteGoes_138 : decode cX9_noteGoes 138 = .ok (.iload_n 3, 1) := by decide +kernel
theorem dX9_noteGoes_139 : decode cX9_noteGoes 139 = .ok (.iadd, 1) := by decide +kernel
theorem dX9_noteGoes_140 : decode cX9_noteGoes 140 = .ok (.iload 4, 2) := by decide +kernel
theorem dX9_noteGoes_142 : decode cX9_noteGoes 142 = .ok (.iload_n 2, 1) := by decide +kernel
theorem dX9_noteGoes_143 : decode cX9_noteGoes 143 = .ok (.iand, 1) := by decide +kernel
theorem dX9_noteGoes_144 : decode cX9_noteGoes 144 = .ok (.iload 4, 2) := by decide +kernel
theorem dX9_noteGoes_146 : decode cX9_noteGoes 146 = .ok (.iconst 1, 1) := by decide +kernel
theorem dX9_noteGoes_147 : decode cX9_noteGoes 147 = .ok (.ishr, 1) := by decide +kernel
theorem dX9_noteGoes_148 : decode cX9_noteGoes 148 = .ok (.iload_n 2, 1) := by decide +kernel
theorem dX9_noteGoes_149 : decode cX9_noteGoes 149 = .ok (.iconst (-1), 1) := by decide +kernel
theorem dX9_noteGoes_150 : decode cX9_noteGoes 150 = .ok (.ixor, 1) := by decide +kernel
theorem dX9_noteGoes_151 : decode cX9_noteGoes 151 = .ok (.iand, 1) := by decide +kernel
theorem dX9_noteGoes_152 : decode cX9_noteGoes 152 = .ok (.ior, 1) := by decide +kernel
theorem dX9_noteGoes_153 : decode cX9_noteGoes 153 = .ok (.iastore, 1) := by decide +kernel
theorem dX9_noteGoes_154 : decode cX9_noteGoes 154 = .ok (.iinc 3 1, 3) := by decide +kernel
theorem dX9_noteGoes_157 : decode cX9_noteGoes 157 = .ok (.goto (-46), 3) := by decide +kernel
theorem dX9_noteGoes_160 : decode cX9_noteGoes 160 = .ok (.return_, 1) := by decide +kernel
theorem dX9_drops_0 : decode cX9_drops 0 = .ok (.iconst 0, 1) := by decide +kernel
theorem dX9_drops_1 : decode cX9_drops 1 = .ok (.istore_n 2, 1) := by decide +kernel
theorem dX9_drops_2 : decode cX9_drops 2 = .ok (.aload_n 0, 1) := by decide +kernel
theorem dX9_drops_3 : decode cX9_drops 3 = .ok (.getfield 7, 3) := by decide +kernel
theorem dX9_drops_6 : decode cX9_drops 6 = .ok (.iconst 1, 1) := by decide +kernel
theorem dX9_drops_7 : decode cX9_drops 7 = .ok (.iaload, 1) := by decide +kernel
theorem dX9_drops_8 : decode cX9_drops 8 = .ok (.iconst 1, 1) := by decide +kernel
theorem dX9_drops_9 : decode cX9_drops 9 = .ok (.isub, 1) := by decide +kernel
theorem dX9_drops_10 : decode cX9_drops 10 = .ok (.istore_n 3, 1) := by decide +kernel
theorem dX9_drops_11 : decode cX9_drops 11 = .ok (.iload_n 3, 1) := by decide +kernel
theorem dX9_drops_12 : decode cX9_drops 12 = .ok (.iload_n 1, 1) := by decide +kernel
theorem dX9_drops_13 : decode cX9_drops 13 = .ok (.if_icmp .lt 26, 3) := by decide +kernel
theorem dX9_drops_16 : decode cX9_drops 16 = .ok (.aload_n 0, 1) := by decide +kernel
theorem dX9_drops_17 : decode cX9_drops 17 = .ok (.iload_n 3, 1) := by decide +kernel
theorem dX9_drops_18 : decode cX9_drops 18 = .ok (.iload_n 1, 1) := by decide +kernel
theorem dX9_drops_19 : decode cX9_drops 19 = .ok (.invokevirtual 88, 3) := by decide +kernel
theorem dX9_drops_22 : decode cX9_drops 22 = .ok (.ifCond .eq 11, 3) := by decide +kernel
theorem dX9_drops_25 : decode cX9_drops 25 = .ok (.aload_n 0, 1) := by decide +kernel
theorem dX9_drops_26 : decode cX9_drops 26 = .ok (.iload_n 3, 1) := by decide +kernel
theorem dX9_drops_27 : decode cX9_drops 27 = .ok (.invokevirtual 149, 3) := by decide +kernel
theorem dX9_drops_30 : decode cX9_drops 30 = .ok (.iinc 2 1, 3) := by decide +kernel
theorem dX9_drops_33 : decode cX9_drops 33 = .ok (.iinc 3 (-1), 3) := by decide +kernel
theorem dX9_drops_36 : decode cX9_drops 36 = .ok (.goto (-25), 3) := by decide +kernel
theorem dX9_drops_39 : decode cX9_drops 39 = .ok (.iload_n 2, 1) := by decide +kernel
theorem dX9_drops_40 : decode cX9_drops 40 = .ok (.ireturn, 1) := by decide +kernel
theorem dX9_drop_0 : decode cX9_drop 0 = .ok (.aload_n 0, 1) := by decide +kernel
theorem dX9_drop_1 : decode cX9_drop 1 = .ok (.iload_n 1, 1) := by decide +kernel
theorem dX9_drop_2 : decode cX9_drop 2 = .ok (.invokevirtual 140, 3) := by decide +kernel
theorem dX9_drop_5 : decode cX9_drop 5 = .ok (.ifCond .ne 5, 3) := by decide +kernel
theorem dX9_drop_8 : decode cX9_drop 8 = .ok (.iconst (-1), 1) := by decide +kernel
theorem dX9_drop_9 : decode cX9_drop 9 = .ok (.ireturn, 1) := by decide +kernel
theorem dX9_drop_10 : decode cX9_drop 10 = .ok (.aload_n 0, 1) := by decide +kernel
theorem dX9_drop_11 : decode cX9_drop 11 = .ok (.invokevirtual 57, 3) := by decide +kernel
theorem dX9_drop_14 : decode cX9_drop 14 = .ok (.aload_n 0, 1) := by decide +kernel
theorem dX9_drop_15 : decode cX9_drop 15 = .ok (.iload_n 1, 1) := by decide +kernel
theorem dX9_drop_16 : decode cX9_drop 16 = .ok (.invokevirtual 152, 3) := by decide +kernel
theorem dX9_drop_19 : decode cX9_drop 19 = .ok (.ireturn, 1) := by decide +kernel
theorem dX9_looksLike_0 : decode cX9_looksLike 0 = .ok (.aload_n 0, 1) := by decide +kernel
theorem dX9_looksLike_1 : decode cX9_looksLike 1 = .ok (.iload_n 1, 1) := by decide +kernel
theorem dX9_looksLike_2 : decode cX9_looksLike 2 = .ok (.iconst 1, 1) := by decide +kernel
theorem dX9_looksLike_3 : decode cX9_looksLike 3 = .ok (.invokevirtual 45, 3) := by decide +kernel
theorem dX9_looksLike_6 : decode cX9_looksLike 6 = .ok (.istore_n 3, 1) := by decide +kernel
theorem dX9_looksLike_7 : decode cX9_looksLike 7 = .ok (.iload_n 2, 1) := by decide +kernel
theorem dX9_looksLike_8 : decode cX9_looksLike 8 = .ok (.iload_n 3, 1) := by decide +kernel
theorem dX9_looksLike_9 : decode cX9_looksLike 9 = .ok (.iadd, 1) := by decide +kernel
theorem dX9_looksLike_10 : decode cX9_looksLike 10 = .ok (.aload_n 0, 1) := by decide +kernel
theorem dX9_looksLike_11 : decode cX9_looksLike 11 = .ok (.getfield 7, 3) := by decide +kernel
theorem dX9_looksLike_14 : decode cX9_looksLike 14 = .ok (.iconst 0, 1) := by decide +kernel
theorem dX9_looksLike_15 : decode cX9_looksLike 15 = .ok (.iaload, 1) := by decide +kernel
theorem dX9_looksLike_16 : decode cX9_looksLike 16 = .ok (.if_icmp .gt 7, 3) := by decide +kernel
theorem dX9_looksLike_19 : decode cX9_looksLike 19 = .ok (.iconst 1, 1) := by decide +kernel
theorem dX9_looksLike_20 : decode cX9_looksLike 20 = .ok (.goto 4, 3) := by decide +kernel
theorem dX9_looksLike_23 : decode cX9_looksLike 23 = .ok (.iconst 0, 1) := by decide +kernel
theorem dX9_looksLike_24 : decode cX9_looksLike 24 = .ok (.istore 4, 2) := by decide +kernel
theorem dX9_looksLike_26 : decode cX9_looksLike 26 = .ok (.iconst 0, 1) := by decide +kernel
theorem dX9_looksLike_27 : decode cX9_looksLike 27 = .ok (.istore 5, 2) := by decide +kernel
theorem dX9_looksLike_29 : decode cX9_looksLike 29 = .ok (.iload 5, 2) := by decide +kernel
theorem dX9_looksLike_31 : decode cX9_looksLike 31 = .ok (.iload_n 3, 1) := by decide +kernel
theorem dX9_looksLike_32 : decode cX9_looksLike 32 = .ok (.if_icmp .ge 44, 3) := by decide +kernel
theorem dX9_looksLike_35 : decode cX9_looksLike 35 = .ok (.iload 4, 2) := by decide +kernel
theorem dX9_looksLike_37 : decode cX9_looksLike 37 = .ok (.ifCond .eq 39, 3) := by decide +kernel
theorem dX9_looksLike_40 : decode cX9_looksLike 40 = .ok (.aload_n 0, 1) := by decide +kernel
theorem dX9_looksLike_41 : decode cX9_looksLike 41 = .ok (.getfield 7, 3) := by decide +kernel
theorem dX9_looksLike_44 : decode cX9_looksLike 44 = .ok (.iconst 5, 1) := by decide +kernel
theorem dX9_looksLike_45 : decode cX9_looksLike 45 = .ok (.iload_n 2, 1) := by decide +kernel
theorem dX9_looksLike_46 : decode cX9_looksLike 46 = .ok (.iadd, 1) := by decide +kernel
theorem dX9_looksLike_47 : decode cX9_looksLike 47 = .ok (.iload 5, 2) := by decide +kernel
theorem dX9_looksLike_49 : decode cX9_looksLike 49 = .ok (.iadd, 1) := by decide +kernel
theorem dX9_looksLike_50 : decode cX9_looksLike 50 = .ok (.iaload, 1) := by decide +kernel
theorem dX9_looksLike_51 : decode cX9_looksLike 51 = .ok (.aload_n 0, 1) := by decide +kernel
theorem dX9_looksLike_52 : decode cX9_looksLike 52 = .ok (.iload_n 1, 1) := by decide +kernel
theorem dX9_looksLike_53 : decode cX9_looksLike 53 = .ok (.iconst 2, 1) := by decide +kernel
theorem dX9_looksLike_54 : decode cX9_looksLike 54 = .ok (.iload 5, 2) := by decide +kernel
theorem dX9_looksLike_56 : decode cX9_looksLike 56 = .ok (.iadd, 1) := by decide +kernel
theorem dX9_looksLike_57 : decode cX9_looksLike 57 = .ok (.invokevirtual 45, 3) := by decide +kernel
theorem dX9_looksLike_60 : decode cX9_looksLike 60 = .ok (.if_icmp .ne 7, 3) := by decide +kernel
theorem dX9_looksLike_63 : decode cX9_looksLike 63 = .ok (.iconst 1, 1) := by decide +kernel
theorem dX9_looksLike_64 : decode cX9_looksLike 64 = .ok (.goto 4, 3) := by decide +kernel
theorem dX9_looksLike_67 : decode cX9_looksLike 67 = .ok (.iconst 0, 1) := by decide +kernel
theorem dX9_looksLike_68 : decode cX9_looksLike 68 = .ok (.istore 4, 2) := by decide +kernel
theorem dX9_looksLike_70 : decode cX9_looksLike 70 = .ok (.iinc 5 1, 3) := by decide +kernel
theorem dX9_looksLike_73 : decode cX9_looksLike 73 = .ok (.goto (-44), 3) := by decide +kernel
theorem dX9_looksLike_76 : decode cX9_looksLike 76 = .ok (.iload 4, 2) := by decide +kernel
theorem dX9_looksLike_78 : decode cX9_looksLike 78 = .ok (.ireturn, 1) := by decide +kernel
theorem dX9_likeness_0 : decode cX9_likeness 0 = .ok (.iconst 0, 1) := by decide +kernel
theorem dX9_likeness_1 : decode cX9_likeness 1 = .ok (.istore_n 3, 1) := by decide +kernel
theorem dX9_likeness_2 : decode cX9_likeness 2 = .ok (.iconst 0, 1) := by decide +kernel
theorem dX9_likeness_3 : decode cX9_likeness 3 = .ok (.istore 4, 2) := by decide +kernel
theorem dX9_likeness_5 : decode cX9_likeness 5 = .ok (.iload_n 2, 1) := by decide +kernel
theorem dX9_likeness_6 : decode cX9_likeness 6 = .ok (.aload_n 0, 1) := by decide +kernel
theorem dX9_likeness_7 : decode cX9_likeness 7 = .ok (.iload_n 1, 1) := by decide +kernel
theorem dX9_likeness_8 : decode cX9_likeness 8 = .ok (.iconst 1, 1) := by decide +kernel
theorem dX9_likeness_9 : decode cX9_likeness 9 = .ok (.invokevirtual 45, 3) := by decide +kernel
theorem dX9_likeness_12 : decode cX9_likeness 12 = .ok (.iadd, 1) := by decide +kernel
theorem dX9_likeness_13 : decode cX9_likeness 13 = .ok (.istore 5, 2) := by decide +kernel
theorem dX9_likeness_15 : decode cX9_likeness 15 = .ok (.iload_n 3, 1) := by decide +kernel
theorem dX9_likeness_16 : decode cX9_likeness 16 = .ok (.aload_n 0, 1) := by decide +kernel
theorem dX9_likeness_17 : decode cX9_likeness 17 = .ok (.iload_n 1, 1) := by decide +kernel
theorem dX9_likeness_18 : decode cX9_likeness 18 = .ok (.bipush 62, 2) := by decide +kernel
theorem dX9_likeness_20 : decode cX9_likeness 20 = .ok (.invokevirtual 45, 3) := by decide +kernel
theorem dX9_likeness_23 : decode cX9_likeness 23 = .ok (.if_icmp .ge 41, 3) := by decide +kernel
theorem dX9_likeness_26 : decode cX9_likeness 26 = .ok (.iload_n 2, 1) := by decide +kernel
theorem dX9_likeness_27 : decode cX9_likeness 27 = .ok (.iconst 1, 1) := by decide +kernel
theorem dX9_likeness_28 : decode cX9_likeness 28 = .ok (.isub, 1) := by decide +kernel
theorem dX9_likeness_29 : decode cX9_likeness 29 = .ok (.iload_n 3, 1) := by decide +kernel
theorem dX9_likeness_30 : decode cX9_likeness 30 = .ok (.isub, 1) := by decide +kernel
theorem dX9_likeness_31 : decode cX9_likeness 31 = .ok (.ifCond .lt 33, 3) := by decide +kernel
theorem dX9_likeness_34 : decode cX9_likeness 34 = .ok (.aload_n 0, 1) := by decide +kernel
theorem dX9_likeness_35 : decode cX9_likeness 35 = .ok (.getfield 7, 3) := by decide +kernel
theorem dX9_likeness_38 : decode cX9_likeness 38 = .ok (.iconst 5, 1) := by decide +kernel
theorem dX9_likeness_39 : decode cX9_likeness 39 = .ok (.iload_n 2, 1) := by decide +kernel
theorem dX9_likeness_40 : decode cX9_likeness 40 = .ok (.iadd, 1) := by decide +kernel
theorem dX9_likeness_41 : decode cX9_likeness 41 = .ok (.iconst 1, 1) := by decide +kernel
theorem dX9_likeness_42 : decode cX9_likeness 42 = .ok (.isub, 1) := by decide +kernel
theorem dX9_likeness_43 : decode cX9_likeness 43 = .ok (.iload_n 3, 1) := by decide +kernel
theorem dX9_likeness_44 : decode cX9_likeness 44 = .ok (.isub, 1) := by decide +kernel
theorem dX9_likeness_45 : decode cX9_likeness 45 = .ok (.iaload, 1) := by decide +kernel
theorem dX9_likeness_46 : decode cX9_likeness 46 = .ok (.aload_n 0, 1) := by decide +kernel
theorem dX9_likeness_47 : decode cX9_likeness 47 = .ok (.iload_n 1, 1) := by decide +kernel
theorem dX9_likeness_48 : decode cX9_likeness 48 = .ok (.bipush 63, 2) := by decide +kernel
theorem dX9_likeness_50 : decode cX9_likeness 50 = .ok (.iload_n 3, 1) := by decide +kernel
theorem dX9_likeness_51 : decode cX9_likeness 51 = .ok (.iadd, 1) := by decide +kernel
theorem dX9_likeness_52 : decode cX9_likeness 52 = .ok (.invokevirtual 45, 3) := by decide +kernel
theorem dX9_likeness_55 : decode cX9_likeness 55 = .ok (.if_icmp .ne 9, 3) := by decide +kernel
theorem dX9_likeness_58 : decode cX9_likeness 58 = .ok (.iinc 3 1, 3) := by decide +kernel
theorem dX9_likeness_61 : decode cX9_likeness 61 = .ok (.goto (-46), 3) := by decide +kernel
theorem dX9_likeness_64 : decode cX9_likeness 64 = .ok (.iload 4, 2) := by decide +kernel
theorem dX9_likeness_66 : decode cX9_likeness 66 = .ok (.aload_n 0, 1) := by decide +kernel
theorem dX9_likeness_67 : decode cX9_likeness 67 = .ok (.iload_n 1, 1) := by decide +kernel
theorem dX9_likeness_68 : decode cX9_likeness 68 = .ok (.bipush 71, 2) := by decide +kernel
theorem dX9_likeness_70 : decode cX9_likeness 70 = .ok (.invokevirtual 45, 3) := by decide +kernel
theorem dX9_likeness_73 : decode cX9_likeness 73 = .ok (.if_icmp .ge 48, 3) := by decide +kernel
theorem dX9_likeness_76 : decode cX9_likeness 76 = .ok (.iload 5, 2) := by decide +kernel
theorem dX9_likeness_78 : decode cX9_likeness 78 = .ok (.iload 4, 2) := by decide +kernel
theorem dX9_likeness_80 : decode cX9_likeness 80 = .ok (.iadd, 1) := by decide +kernel
theorem dX9_likeness_81 : decode cX9_likeness 81 = .ok (.aload_n 0, 1) := by decide +kernel
theorem dX9_likeness_82 : decode cX9_likeness 82 = .ok (.getfield 7, 3) := by decide +kernel
theorem dX9_likeness_85 : decode cX9_likeness 85 = .ok (.iconst 0, 1) := by decide +kernel
theorem dX9_likeness_86 : decode cX9_likeness 86 = .ok (.iaload, 1) := by decide +kernel
theorem dX9_likeness_87 : decode cX9_likeness 87 = .ok (.if_icmp .ge 34, 3) := by decide +kernel
theorem dX9_likeness_90 : decode cX9_likeness 90 = .ok (.aload_n 0, 1) := by decide +kernel
theorem dX9_likeness_91 : decode cX9_likeness 91 = .ok (.getfield 7, 3) := by decide +kernel
theorem dX9_likeness_94 : decode cX9_likeness 94 = .ok (.iconst 5, 1) := by decide +kernel
theorem dX9_likeness_95 : decode cX9_likeness 95 = .ok (.iload 5, 2) := by decide +kernel
theorem dX9_likeness_97 : decode cX9_likeness 97 = .ok (.iadd, 1) := by decide +kernel
theorem dX9_likeness_98 : decode cX9_likeness 98 = .ok (.iload 4, 2) := by decide +kernel
theorem dX9_likeness_100 : decode cX9_likeness 100 = .ok (.iadd, 1) := by decide +kernel
theorem dX9_likeness_101 : decode cX9_likeness 101 = .ok (.iaload, 1) := by decide +kernel
theorem dX9_likeness_102 : decode cX9_likeness 102 = .ok (.aload_n 0, 1) := by decide +kernel
theorem dX9_likeness_103 : decode cX9_likeness 103 = .ok (.iload_n 1, 1) := by decide +kernel
theorem dX9_likeness_104 : decode cX9_likeness 104 = .ok (.bipush 72, 2) := by decide +kernel
theorem dX9_likeness_106 : decode cX9_likeness 106 = .ok (.iload 4, 2) := by decide +kernel
theorem dX9_likeness_108 : decode cX9_likeness 108 = .ok (.iadd, 1) := by decide +kernel
theorem dX9_likeness_109 : decode cX9_likeness 109 = .ok (.invokevirtual 45, 3) := by decide +kernel
theorem dX9_likeness_112 : decode cX9_likeness 112 = .ok (.if_icmp .ne 9, 3) := by decide +kernel
theorem dX9_likeness_115 : decode cX9_likeness 115 = .ok (.iinc 4 1, 3) := by decide +kernel
theorem dX9_likeness_118 : decode cX9_likeness 118 = .ok (.goto (-54), 3) := by decide +kernel
theorem dX9_likeness_121 : decode cX9_likeness 121 = .ok (.iload_n 3, 1) := by decide +kernel
theorem dX9_likeness_122 : decode cX9_likeness 122 = .ok (.iload 4, 2) := by decide +kernel
theorem dX9_likeness_124 : decode cX9_likeness 124 = .ok (.iadd, 1) := by decide +kernel
theorem dX9_likeness_125 : decode cX9_likeness 125 = .ok (.ireturn, 1) := by decide +kernel
theorem dX9_possible_0 : decode cX9_possible 0 = .ok (.bipush (-6), 2) := by decide +kernel
theorem dX9_possible_2 : decode cX9_possible 2 = .ok (.istore_n 3, 1) := by decide +kernel
theorem dX9_possible_3 : decode cX9_possible 3 = .ok (.bipush (-6), 2) := by decide +kernel
theorem dX9_possible_5 : decode cX9_possible 5 = .ok (.istore 4, 2) := by decide +kernel
theorem dX9_possible_7 : decode cX9_possible 7 = .ok (.iconst 0, 1) := by decide +kernel
theorem dX9_possible_8 : decode cX9_possible 8 = .ok (.istore 5, 2) := by decide +kernel
theorem dX9_possible_10 : decode cX9_possible 10 = .ok (.iconst 0, 1) := by decide +kernel
theorem dX9_possible_11 : decode cX9_possible 11 = .ok (.istore 6, 2) := by decide +kernel
theorem dX9_possible_13 : decode cX9_possible 13 = .ok (.iload 6, 2) := by decide +kernel
theorem dX9_possible_15 : decode cX9_possible 15 = .ok (.aload_n 0, 1) := by decide +kernel
theorem dX9_possible_16 : decode cX9_possible 16 = .ok (.getfield 7, 3) := by decide +kernel
theorem dX9_possible_19 : decode cX9_possible 19 = .ok (.iconst 0, 1) := by decide +kernel
theorem dX9_possible_20 : decode cX9_possible 20 = .ok (.iaload, 1) := by decide +kernel
theorem dX9_possible_21 : decode cX9_possible 21 = .ok (.if_icmp .ge 52, 3) := by decide +kernel
theorem dX9_possible_24 : decode cX9_possible 24 = .ok (.aload_n 0, 1) := by decide +kernel
theorem dX9_possible_25 : decode cX9_possible 25 = .ok (.iload_n 1, 1) := by decide +kernel
theorem dX9_possible_26 : decode cX9_possible 26 = .ok (.iload 6, 2) := by decide +kernel
theorem dX9_possible_28 : decode cX9_possible 28 = .ok (.invokevirtual 155, 3) := by decide +kernel
theorem dX9_possible_31 : decode cX9_possible 31 = .ok (.ifCond .eq 36, 3) := by decide +kernel
theorem dX9_possible_34 : decode cX9_possible 34 = .ok (.iinc 5 1, 3) := by decide +kernel
theorem dX9_possible_37 : decode cX9_possible 37 = .ok (.iload_n 3, 1) := by decide +kernel
theorem dX9_possible_38 : decode cX9_possible 38 = .ok (.bipush (-6), 2) := by decide +kernel
theorem dX9_possible_40 : decode cX9_possible 40 = .ok (.if_icmp .eq 15, 3) := by decide +kernel
theorem dX9_possible_43 : decode cX9_possible 43 = .ok (.aload_n 0, 1) := by decide +kernel
theorem dX9_possible_44 : decode cX9_possible 44 = .ok (.iload_n 1, 1) := by decide +kernel
theorem dX9_possible_45 : decode cX9_possible 45 = .ok (.iload 6, 2) := by decide +kernel
theorem dX9_possible_47 : decode cX9_possible 47 = .ok (.invokevirtual 158, 3) := by decide +kernel
theorem dX9_possible_50 : decode cX9_possible 50 = .ok (.iload 4, 2) := by decide +kernel
theorem dX9_possible_52 : decode cX9_possible 52 = .ok (.if_icmp .le 15, 3) := by decide +kernel
theorem dX9_possible_55 : decode cX9_possible 55 = .ok (.iload 6, 2) := by decide +kernel
theorem dX9_possible_57 : decode cX9_possible 57 = .ok (.istore_n 3, 1) := by decide +kernel
theorem dX9_possible_58 : decode cX9_possible 58 = .ok (.aload_n 0, 1) := by decide +kernel
theorem dX9_possible_59 : decode cX9_possible 59 = .ok (.iload_n 1, 1) := by decide +kernel
theorem dX9_possible_60 : decode cX9_possible 60 = .ok (.iload 6, 2) := by decide +kernel
theorem dX9_possible_62 : decode cX9_possible 62 = .ok (.invokevirtual 158, 3) := by decide +kernel
theorem dX9_possible_65 : decode cX9_possible 65 = .ok (.istore 4, 2) := by decide +kernel
theorem dX9_possible_67 : decode cX9_possible 67 = .ok (.iinc 6 1, 3) := by decide +kernel
theorem dX9_possible_70 : decode cX9_possible 70 = .ok (.goto (-57), 3) := by decide +kernel
theorem dX9_possible_73 : decode cX9_possible 73 = .ok (.iload_n 2, 1) := by decide +kernel
theorem dX9_possible_74 : decode cX9_possible 74 = .ok (.ifCond .eq 9, 3) := by decide +kernel
theorem dX9_possible_77 : decode cX9_possible 77 = .ok (.iload_n 3, 1) := by decide +kernel
theorem dX9_possible_78 : decode cX9_possible 78 = .ok (.bipush (-6), 2) := by decide +kernel
theorem dX9_possible_80 : decode cX9_possible 80 = .ok (.if_icmp .ne 7, 3) := by decide +kernel
theorem dX9_possible_83 : decode cX9_possible 83 = .ok (.iload_n 3, 1) := by decide +kernel
theorem dX9_possible_84 : decode cX9_possible 84 = .ok (.goto 15, 3) := by decide +kernel
theorem dX9_possible_87 : decode cX9_possible 87 = .ok (.iload_n 2, 1) := by decide +kernel
theorem dX9_possible_88 : decode cX9_possible 88 = .ok (.iconst 1, 1) := by decide +kernel
theorem dX9_possible_89 : decode cX9_possible 89 = .ok (.if_icmp .ne 8, 3) := by decide +kernel
theorem dX9_possible_92 : decode cX9_possible 92 = .ok (.iload 4, 2) := by decide +kernel
theorem dX9_possible_94 : decode cX9_possible 94 = .ok (.goto 5, 3) := by decide +kernel
theorem dX9_possible_97 : decode cX9_possible 97 = .ok (.iload 5, 2) := by decide +kernel
theorem dX9_possible_99 : decode cX9_possible 99 = .ok (.ireturn, 1) := by decide +kernel
theorem dX9_mayReclaim_0 : decode cX9_mayReclaim 0 = .ok (.aload_n 0, 1) := by decide +kernel
theorem dX9_mayReclaim_1 : decode cX9_mayReclaim 1 = .ok (.iload_n 1, 1) := by decide +kernel
theorem dX9_mayReclaim_2 : decode cX9_mayReclaim 2 = .ok (.invokevirtual 140, 3) := by decide +kernel
theorem dX9_mayReclaim_5 : decode cX9_mayReclaim 5 = .ok (.ifCond .ne 5, 3) := by decide +kernel
theorem dX9_mayReclaim_8 : decode cX9_mayReclaim 8 = .ok (.iconst (-1), 1) := by decide +kernel
theorem dX9_mayReclaim_9 : decode cX9_mayReclaim 9 = .ok (.ireturn, 1) := by decide +kernel
theorem dX9_mayReclaim_10 : decode cX9_mayReclaim 10 = .ok (.aload_n 0, 1) := by decide +kernel
theorem dX9_mayReclaim_11 : decode cX9_mayReclaim 11 = .ok (.iload_n 1, 1) := by decide +kernel
theorem dX9_mayReclaim_12 : decode cX9_mayReclaim 12 = .ok (.invokevirtual 85, 3) := by decide +kernel
theorem dX9_mayReclaim_15 : decode cX9_mayReclaim 15 = .ok (.ifCond .eq 14, 3) := by decide +kernel
theorem dX9_mayReclaim_18 : decode cX9_mayReclaim 18 = .ok (.aload_n 0, 1) := by decide +kernel
theorem dX9_mayReclaim_19 : decode cX9_mayReclaim 19 = .ok (.iload_n 1, 1) := by decide +kernel
theorem dX9_mayReclaim_20 : decode cX9_mayReclaim 20 = .ok (.iconst 0, 1) := by decide +kernel
theorem dX9_mayReclaim_21 : decode cX9_mayReclaim 21 = .ok (.invokevirtual 161, 3) := by decide +kernel
theorem dX9_mayReclaim_24 : decode cX9_mayReclaim 24 = .ok (.bipush (-6), 2) := by decide +kernel
theorem dX9_mayReclaim_26 : decode cX9_mayReclaim 26 = .ok (.if_icmp .ne 8, 3) := by decide +kernel
theorem dX9_mayReclaim_29 : decode cX9_mayReclaim 29 = .ok (.bipush (-5), 2) := by decide +kernel
theorem dX9_mayReclaim_31 : decode cX9_mayReclaim 31 = .ok (.goto 4, 3) := by decide +kernel
theorem dX9_mayReclaim_34 : decode cX9_mayReclaim 34 = .ok (.iconst 0, 1) := by decide +kernel
theorem dX9_mayReclaim_35 : decode cX9_mayReclaim 35 = .ok (.ireturn, 1) := by decide +kernel
theorem dX9_reclaims_0 : decode cX9_reclaims 0 = .ok (.aload_n 0, 1) := by decide +kernel
theorem dX9_reclaims_1 : decode cX9_reclaims 1 = .ok (.iload_n 1, 1) := by decide +kernel
theorem dX9_reclaims_2 : decode cX9_reclaims 2 = .ok (.iconst 0, 1) := by decide +kernel
theorem dX9_reclaims_3 : decode cX9_reclaims 3 = .ok (.invokevirtual 161, 3) := by decide +kernel
theorem dX9_reclaims_6 : decode cX9_reclaims 6 = .ok (.istore_n 2, 1) := by decide +kernel
theorem dX9_reclaims_7 : decode cX9_reclaims 7 = .ok (.aload_n 0, 1) := by decide +kernel
theorem dX9_reclaims_8 : decode cX9_reclaims 8 = .ok (.iload_n 1, 1) := by decide +kernel
theorem dX9_reclaims_9 : decode cX9_reclaims 9 = .ok (.iload_n 2, 1) := by decide +kernel
theorem dX9_reclaims_10 : decode cX9_reclaims 10 = .ok (.iload_n 2, 1) := by decide +kernel
theorem dX9_reclaims_11 : decode cX9_reclaims 11 = .ok (.aload_n 0, 1) := by decide +kernel
theorem dX9_reclaims_12 : decode cX9_reclaims 12 = .ok (.iload_n 1, 1) := by decide +kernel
theorem dX9_reclaims_13 : decode cX9_reclaims 13 = .ok (.iconst 1, 1) := by decide +kernel
theorem dX9_reclaims_14 : decode cX9_reclaims 14 = .ok (.invokevirtual 45, 3) := by decide +kernel
theorem dX9_reclaims_17 : decode cX9_reclaims 17 = .ok (.iadd, 1) := by decide +kernel
theorem dX9_reclaims_18 : decode cX9_reclaims 18 = .ok (.iconst 1, 1) := by decide +kernel
theorem dX9_reclaims_19 : decode cX9_reclaims 19 = .ok (.isub, 1) := by decide +kernel
theorem dX9_reclaims_20 : decode cX9_reclaims 20 = .ok (.invokevirtual 131, 3) := by decide +kernel
theorem dX9_reclaims_23 : decode cX9_reclaims 23 = .ok (.iload_n 2, 1) := by decide +kernel
theorem dX9_reclaims_24 : decode cX9_reclaims 24 = .ok (.ireturn, 1) := by decide +kernel
theorem dX9_reclaim_0 : decode cX9_reclaim 0 = .ok (.aload_n 0, 1) := by decide +kernel
theorem dX9_reclaim_1 : decode cX9_reclaim 1 = .ok (.iload_n 1, 1) := by decide +kernel
theorem dX9_reclaim_2 : decode cX9_reclaim 2 = .ok (.invokevirtual 164, 3) := by decide +kernel
theorem dX9_reclaim_5 : decode cX9_reclaim 5 = .ok (.istore_n 2, 1) := by decide +kernel
theorem dX9_reclaim_6 : decode cX9_reclaim 6 = .ok (.iload_n 2, 1) := by decide +kernel
theorem dX9_reclaim_7 : decode cX9_reclaim 7 = .ok (.ifCond .eq 5, 3) := by decide +kernel
theorem dX9_reclaim_10 : decode cX9_reclaim 10 = .ok (.iload_n 2, 1) := by decide +kernel
theorem dX9_reclaim_11 : decode cX9_reclaim 11 = .ok (.ireturn, 1) := by decide +kernel
theorem dX9_reclaim_12 : decode cX9_reclaim 12 = .ok (.aload_n 0, 1) := by decide +kernel
theorem dX9_reclaim_13 : decode cX9_reclaim 13 = .ok (.invokevirtual 57, 3) := by decide +kernel
theorem dX9_reclaim_16 : decode cX9_reclaim 16 = .ok (.aload_n 0, 1) := by decide +kernel
theorem dX9_reclaim_17 : decode cX9_reclaim 17 = .ok (.iload_n 1, 1) := by decide +kernel
theorem dX9_reclaim_18 : decode cX9_reclaim 18 = .ok (.invokevirtual 167, 3) := by decide +kernel
theorem dX9_reclaim_21 : decode cX9_reclaim 21 = .ok (.ireturn, 1) := by decide +kernel
theorem dX9_prints_0 : decode cX9_prints 0 = .ok (.iconst 0, 1) := by decide +kernel
theorem dX9_prints_1 : decode cX9_prints 1 = .ok (.istore_n 2, 1) := by decide +kernel
theorem dX9_prints_2 : decode cX9_prints 2 = .ok (.iload_n 2, 1) := by decide +kernel
theorem dX9_prints_3 : decode cX9_prints 3 = .ok (.bipush 80, 2) := by decide +kernel
theorem dX9_prints_5 : decode cX9_prints 5 = .ok (.if_icmp .ge 16, 3) := by decide +kernel
theorem dX9_prints_8 : decode cX9_prints 8 = .ok (.aload_n 0, 1) := by decide +kernel
theorem dX9_prints_9 : decode cX9_prints 9 = .ok (.getfield 35, 3) := by decide +kernel
theorem dX9_prints_12 : decode cX9_prints 12 = .ok (.iload_n 2, 1) := by decide +kernel
theorem dX9_prints_13 : decode cX9_prints 13 = .ok (.iconst 0, 1) := by decide +kernel
theorem dX9_prints_14 : decode cX9_prints 14 = .ok (.iastore, 1) := by decide +kernel
theorem dX9_prints_15 : decode cX9_prints 15 = .ok (.iinc 2 1, 3) := by decide +kernel
theorem dX9_prints_18 : decode cX9_prints 18 = .ok (.goto (-16), 3) := by decide +kernel
theorem dX9_prints_21 : decode cX9_prints 21 = .ok (.iconst 0, 1) := by decide +kernel
theorem dX9_prints_22 : decode cX9_prints 22 = .ok (.istore_n 2, 1) := by decide +kernel
theorem dX9_prints_23 : decode cX9_prints 23 = .ok (.iload_n 2, 1) := by decide +kernel
theorem dX9_prints_24 : decode cX9_prints 24 = .ok (.aload_n 0, 1) := by decide +kernel
theorem dX9_prints_25 : decode cX9_prints 25 = .ok (.getfield 7, 3) := by decide +kernel
theorem dX9_prints_28 : decode cX9_prints 28 = .ok (.iconst 1, 1) := by decide +kernel
theorem dX9_prints_29 : decode cX9_prints 29 = .ok (.iaload, 1) := by decide +kernel
theorem dX9_prints_30 : decode cX9_prints 30 = .ok (.if_icmp .ge 17, 3) := by decide +kernel
theorem dX9_prints_33 : decode cX9_prints 33 = .ok (.aload_n 0, 1) := by decide +kernel
theorem dX9_prints_34 : decode cX9_prints 34 = .ok (.getfield 29, 3) := by decide +kernel
theorem dX9_prints_37 : decode cX9_prints 37 = .ok (.iload_n 2, 1) := by decide +kernel
theorem dX9_prints_38 : decode cX9_prints 38 = .ok (.bipush (-6), 2) := by decide +kernel
theorem dX9_prints_40 : decode cX9_prints 40 = .ok (.iastore, 1) := by decide +kernel
theorem dX9_prints_41 : decode cX9_prints 41 = .ok (.iinc 2 1, 3) := by decide +kernel
theorem dX9_prints_44 : decode cX9_prints 44 = .ok (.goto (-21), 3) := by decide +kernel
theorem dX9_prints_47 : decode cX9_prints 47 = .ok (.iconst 0, 1) := by decide +kernel
theorem dX9_prints_48 : decode cX9_prints 48 = .ok (.istore_n 2, 1) := by decide +kernel
theorem dX9_prints_49 : decode cX9_prints 49 = .ok (.iload_n 2, 1) := by decide +kernel
theorem dX9_prints_50 : decode cX9_prints 50 = .ok (.aload_n 0, 1) := by decide +kernel
theorem dX9_prints_51 : decode cX9_prints 51 = .ok (.getfield 7, 3) := by decide +kernel
theorem dX9_prints_54 : decode cX9_prints 54 = .ok (.iconst 0, 1) := by decide +kernel
theorem dX9_prints_55 : decode cX9_prints 55 = .ok (.iaload, 1) := by decide +kernel
theorem dX9_prints_56 : decode cX9_prints 56 = .ok (.if_icmp .ge 98, 3) := by decide +kernel
theorem dX9_prints_59 : decode cX9_prints 59 = .ok (.iconst 0, 1) := by decide +kernel
theorem dX9_prints_60 : decode cX9_prints 60 = .ok (.istore_n 3, 1) := by decide +kernel
theorem dX9_prints_61 : decode cX9_prints 61 = .ok (.iload_n 3, 1) := by decide +kernel
theorem dX9_prints_62 : decode cX9_prints 62 = .ok (.aload_n 0, 1) := by decide +kernel
theorem dX9_prints_63 : decode cX9_prints 63 = .ok (.getfield 7, 3) := by decide +kernel
theorem dX9_prints_66 : decode cX9_prints 66 = .ok (.iconst 1, 1) := by decide +kernel
theorem dX9_prints_67 : decode cX9_prints 67 = .ok (.iaload, 1) := by decide +kernel
theorem dX9_prints_68 : decode cX9_prints 68 = .ok (.if_icmp .ge 80, 3) := by decide +kernel
theorem dX9_prints_71 : decode cX9_prints 71 = .ok (.aload_n 0, 1) := by decide +kernel
theorem dX9_prints_72 : decode cX9_prints 72 = .ok (.iload_n 3, 1) := by decide +kernel
theorem dX9_prints_73 : decode cX9_prints 73 = .ok (.invokevirtual 81, 3) := by decide +kernel
theorem dX9_prints_76 : decode cX9_prints 76 = .ok (.aload_n 0, 1) := by decide +kernel
theorem dX9_prints_77 : decode cX9_prints 77 = .ok (.getfield 75, 3) := by decide +kernel
theorem dX9_prints_80 : decode cX9_prints 80 = .ok (.iload_n 2, 1) := by decide +kernel
theorem dX9_prints_81 : decode cX9_prints 81 = .ok (.if_icmp .ne 61, 3) := by decide +kernel
theorem dX9_prints_84 : decode cX9_prints 84 = .ok (.aload_n 0, 1) := by decide +kernel
theorem dX9_prints_85 : decode cX9_prints 85 = .ok (.getfield 32, 3) := by decide +kernel
theorem dX9_prints_88 : decode cX9_prints 88 = .ok (.iload_n 3, 1) := by decide +kernel
theorem dX9_prints_89 : decode cX9_prints 89 = .ok (.iload_n 2, 1) := by decide +kernel
theorem dX9_prints_90 : decode cX9_prints 90 = .ok (.aload_n 0, 1) := by decide +kernel
theorem dX9_prints_91 : decode cX9_prints 91 = .ok (.getfield 7, 3) := by decide +kernel
theorem dX9_prints_94 : decode cX9_prints 94 = .ok (.iconst 3, 1) := by decide +kernel
theorem dX9_prints_95 : decode cX9_prints 95 = .ok (.iaload, 1) := by decide +kernel
theorem dX9_prints_96 : decode cX9_prints 96 = .ok (.idiv, 1) := by decide +kernel
theorem dX9_prints_97 : decode cX9_prints 97 = .ok (.iastore, 1) := by decide +kernel
theorem dX9_prints_98 : decode cX9_prints 98 = .ok (.aload_n 0, 1) := by decide +kernel
theorem dX9_prints_99 : decode cX9_prints 99 = .ok (.getfield 32, 3) := by decide +kernel
theorem dX9_prints_102 : decode cX9_prints 102 = .ok (.iload_n 3, 1) := by decide +kernel
theorem dX9_prints_103 : decode cX9_prints 103 = .ok (.iaload, 1) := by decide +kernel
theorem dX9_prints_104 : decode cX9_prints 104 = .ok (.istore 4, 2) := by decide +kernel
theorem dX9_prints_106 : decode cX9_prints 106 = .ok (.aload_n 0, 1) := by decide +kernel
theorem dX9_prints_107 : decode cX9_prints 107 = .ok (.getfield 35, 3) := by decide +kernel
theorem dX9_prints_110 : decode cX9_prints 110 = .ok (.iload 4, 2) := by decide +kernel
theorem dX9_prints_112 : decode cX9_prints 112 = .ok (.iaload, 1) := by decide +kernel
theorem dX9_prints_113 : decode cX9_prints 113 = .ok (.iload_n 1, 1) := by decide +kernel
theorem dX9_prints_114 : decode cX9_prints 114 = .ok (.if_icmp .lt 9, 3) := by decide +kernel
theorem dX9_prints_117 : decode cX9_prints 117 = .ok (.iinc 4 1, 3) := by decide +kernel
theorem dX9_prints_120 : decode cX9_prints 120 = .ok (.goto (-14), 3) := by decide +kernel
theorem dX9_prints_123 : decode cX9_prints 123 = .ok (.aload_n 0, 1) := by decide +kernel
theorem dX9_prints_124 : decode cX9_prints 124 = .ok (.getfield 35, 3) := by decide +kernel
theorem dX9_prints_127 : decode cX9_prints 127 = .ok (.iload 4, 2) := by decide +kernel
theorem dX9_prints_129 : decode cX9_prints 129 = .ok (.dup2, 1) := by decide +kernel
theorem dX9_prints_130 : decode cX9_prints 130 = .ok (.iaload, 1) := by decide +kernel
theorem dX9_prints_131 : decode cX9_prints 131 = .ok (.iconst 1, 1) := by decide +kernel
theorem dX9_prints_132 : decode cX9_prints 132 = .ok (.iadd, 1) := by decide +kernel
theorem dX9_prints_133 : decode cX9_prints 133 = .ok (.iastore, 1) := by decide +kernel
theorem dX9_prints_134 : decode cX9_prints 134 = .ok (.aload_n 0, 1) := by decide +kernel
theorem dX9_prints_135 : decode cX9_prints 135 = .ok (.getfield 29, 3) := by decide +kernel
theorem dX9_prints_138 : decode cX9_prints 138 = .ok (.iload_n 3, 1) := by decide +kernel
theorem dX9_prints_139 : decode cX9_prints 139 = .ok (.iload 4, 2) := by decide +kernel
theorem dX9_prints_141 : decode cX9_prints 141 = .ok (.iastore, 1) := by decide +kernel
theorem dX9_prints_142 : decode cX9_prints 142 = .ok (.iinc 3 1, 3) := by decide +kernel
theorem dX9_prints_145 : decode cX9_prints 145 = .ok (.goto (-84), 3) := by decide +kernel
theorem dX9_prints_148 : decode cX9_prints 148 = .ok (.iinc 2 1, 3) := by decide +kernel
theorem dX9_prints_151 : decode cX9_prints 151 = .ok (.goto (-102), 3) := by decide +kernel
theorem dX9_prints_154 : decode cX9_prints 154 = .ok (.return_, 1) := by decide +kernel
theorem dX9_leaders_0 : decode cX9_leaders 0 = .ok (.iconst 0, 1) := by decide +kernel
theorem dX9_leaders_1 : decode cX9_leaders 1 = .ok (.istore_n 2, 1) := by decide +kernel
theorem dX9_leaders_2 : decode cX9_leaders 2 = .ok (.iconst 0, 1) := by decide +kernel
theorem dX9_leaders_3 : decode cX9_leaders 3 = .ok (.istore_n 3, 1) := by decide +kernel
theorem dX9_leaders_4 : decode cX9_leaders 4 = .ok (.iconst 0, 1) := by decide +kernel
theorem dX9_leaders_5 : decode cX9_leaders 5 = .ok (.istore 4, 2) := by decide +kernel
theorem dX9_leaders_7 : decode cX9_leaders 7 = .ok (.iload 4, 2) := by decide +kernel
theorem dX9_leaders_9 : decode cX9_leaders 9 = .ok (.aload_n 0, 1) := by decide +kernel
theorem dX9_leaders_10 : decode cX9_leaders 10 = .ok (.getfield 7, 3) := by decide +kernel
theorem dX9_leaders_13 : decode cX9_leaders 13 = .ok (.iconst 1, 1) := by decide +kernel
theorem dX9_leaders_14 : decode cX9_leaders 14 = .ok (.iaload, 1) := by decide +kernel
theorem dX9_leaders_15 : decode cX9_leaders 15 = .ok (.if_icmp .ge 60, 3) := by decide +kernel
theorem dX9_leaders_18 : decode cX9_leaders 18 = .ok (.aload_n 0, 1) := by decide +kernel
theorem dX9_leaders_19 : decode cX9_leaders 19 = .ok (.getfield 29, 3) := by decide +kernel
theorem dX9_leaders_22 : decode cX9_leaders 22 = .ok (.iload 4, 2) := by decide +kernel
theorem dX9_leaders_24 : decode cX9_leaders 24 = .ok (.iaload, 1) := by decide +kernel
theorem dX9_leaders_25 : decode cX9_leaders 25 = .ok (.bipush (-6), 2) := by decide +kernel
theorem dX9_leaders_27 : decode cX9_leaders 27 = .ok (.if_icmp .ne 7, 3) := by decide +kernel
theorem dX9_leaders_30 : decode cX9_leaders 30 = .ok (.iconst 0, 1) := by decide +kernel
theorem dX9_leaders_31 : decode cX9_leaders 31 = .ok (.goto 18, 3) := by decide +kernel
theorem dX9_leaders_34 : decode cX9_leaders 34 = .ok (.aload_n 0, 1) := by decide +kernel
theorem dX9_leaders_35 : decode cX9_leaders 35 = .ok (.getfield 29, 3) := by decide +kernel
theorem dX9_leaders_38 : decode cX9_leaders 38 = .ok (.iload 4, 2) := by decide +kernel
theorem dX9_leaders_40 : decode cX9_leaders 40 = .ok (.iaload, 1) := by decide +kernel
theorem dX9_leaders_41 : decode cX9_leaders 41 = .ok (.aload_n 0, 1) := by decide +kernel
theorem dX9_leaders_42 : decode cX9_leaders 42 = .ok (.getfield 32, 3) := by decide +kernel
theorem dX9_leaders_45 : decode cX9_leaders 45 = .ok (.iload 4, 2) := by decide +kernel
theorem dX9_leaders_47 : decode cX9_leaders 47 = .ok (.iaload, 1) := by decide +kernel
theorem dX9_leaders_48 : decode cX9_leaders 48 = .ok (.isub, 1) := by decide +kernel
theorem dX9_leaders_49 : decode cX9_leaders 49 = .ok (.istore 5, 2) := by decide +kernel
theorem dX9_leaders_51 : decode cX9_leaders 51 = .ok (.iload_n 2, 1) := by decide +kernel
theorem dX9_leaders_52 : decode cX9_leaders 52 = .ok (.iload 5, 2) := by decide +kernel
theorem dX9_leaders_54 : decode cX9_leaders 54 = .ok (.iadd, 1) := by decide +kernel
theorem dX9_leaders_55 : decode cX9_leaders 55 = .ok (.istore_n 2, 1) := by decide +kernel
theorem dX9_leaders_56 : decode cX9_leaders 56 = .ok (.iload 5, 2) := by decide +kernel
theorem dX9_leaders_58 : decode cX9_leaders 58 = .ok (.iload_n 3, 1) := by decide +kernel
theorem dX9_leaders_59 : decode cX9_leaders 59 = .ok (.if_icmp .le 8, 3) := by decide +kernel
theorem dX9_leaders_62 : decode cX9_leaders 62 = .ok (.iload 5, 2) := by decide +kernel
theorem dX9_leaders_64 : decode cX9_leaders 64 = .ok (.goto 4, 3) := by decide +kernel
theorem dX9_leaders_67 : decode cX9_leaders 67 = .ok (.iload_n 3, 1) := by decide +kernel
theorem dX9_leaders_68 : decode cX9_leaders 68 = .ok (.istore_n 3, 1) := by decide +kernel
theorem dX9_leaders_69 : decode cX9_leaders 69 = .ok (.iinc 4 1, 3) := by decide +kernel
theorem dX9_leaders_72 : decode cX9_leaders 72 = .ok (.goto (-65), 3) := by decide +kernel
theorem dX9_leaders_75 : decode cX9_leaders 75 = .ok (.iload_n 1, 1) := by decide +kernel
theorem dX9_leaders_76 : decode cX9_leaders 76 = .ok (.ifCond .eq 7, 3) := by decide +kernel
theorem dX9_leaders_79 : decode cX9_leaders 79 = .ok (.iload_n 2, 1) := by decide +kernel
theorem dX9_leaders_80 : decode cX9_leaders 80 = .ok (.goto 4, 3) := by decide +kernel
theorem dX9_leaders_83 : decode cX9_leaders 83 = .ok (.iload_n 3, 1) := by decide +kernel
theorem dX9_leaders_84 : decode cX9_leaders 84 = .ok (.ireturn, 1) := by decide +kernel
theorem dX9_lastLine_0 : decode cX9_lastLine 0 = .ok (.bipush (-6), 2) := by decide +kernel
theorem dX9_lastLine_2 : decode cX9_lastLine 2 = .ok (.istore_n 1, 1) := by decide +kernel
theorem dX9_lastLine_3 : decode cX9_lastLine 3 = .ok (.iconst 0, 1) := by decide +kernel
theorem dX9_lastLine_4 : decode cX9_lastLine 4 = .ok (.istore_n 2, 1) := by decide +kernel
theorem dX9_lastLine_5 : decode cX9_lastLine 5 = .ok (.iload_n 2, 1) := by decide +kernel
theorem dX9_lastLine_6 : decode cX9_lastLine 6 = .ok (.aload_n 0, 1) := by decide +kernel
theorem dX9_lastLine_7 : decode cX9_lastLine 7 = .ok (.getfield 7, 3) := by decide +kernel
theorem dX9_lastLine_10 : decode cX9_lastLine 10 = .ok (.iconst 1, 1) := by decide +kernel
theorem dX9_lastLine_11 : decode cX9_lastLine 11 = .ok (.iaload, 1) := by decide +kernel
theorem dX9_lastLine_12 : decode cX9_lastLine 12 = .ok (.if_icmp .ge 30, 3) := by decide +kernel
theorem dX9_lastLine_15 : decode cX9_lastLine 15 = .ok (.aload_n 0, 1) := by decide +kernel
theorem dX9_lastLine_16 : decode cX9_lastLine 16 = .ok (.getfield 29, 3) := by decide +kernel
theorem dX9_lastLine_19 : decode cX9_lastLine 19 = .ok (.iload_n 2, 1) := by decide +kernel
theorem dX9_lastLine_20 : decode cX9_lastLine 20 = .ok (.iaload, 1) := by decide +kernel
theorem dX9_lastLine_21 : decode cX9_lastLine 21 = .ok (.iload_n 1, 1) := by decide +kernel
theorem dX9_lastLine_22 : decode cX9_lastLine 22 = .ok (.if_icmp .le 12, 3) := by decide +kernel
theorem dX9_lastLine_25 : decode cX9_lastLine 25 = .ok (.aload_n 0, 1) := by decide +kernel
theorem dX9_lastLine_26 : decode cX9_lastLine 26 = .ok (.getfield 29, 3) := by decide +kernel
theorem dX9_lastLine_29 : decode cX9_lastLine 29 = .ok (.iload_n 2, 1) := by decide +kernel
theorem dX9_lastLine_30 : decode cX9_lastLine 30 = .ok (.iaload, 1) := by decide +kernel
theorem dX9_lastLine_31 : decode cX9_lastLine 31 = .ok (.goto 4, 3) := by decide +kernel
theorem dX9_lastLine_34 : decode cX9_lastLine 34 = .ok (.iload_n 1, 1) := by decide +kernel
theorem dX9_lastLine_35 : decode cX9_lastLine 35 = .ok (.istore_n 1, 1) := by decide +kernel
theorem dX9_lastLine_36 : decode cX9_lastLine 36 = .ok (.iinc 2 1, 3) := by decide +kernel
theorem dX9_lastLine_39 : decode cX9_lastLine 39 = .ok (.goto (-34), 3) := by decide +kernel
theorem dX9_lastLine_42 : decode cX9_lastLine 42 = .ok (.iload_n 1, 1) := by decide +kernel
theorem dX9_lastLine_43 : decode cX9_lastLine 43 = .ok (.ireturn, 1) := by decide +kernel
theorem dX9_letter_0 : decode cX9_letter 0 = .ok (.aload_n 0, 1) := by decide +kernel
theorem dX9_letter_1 : decode cX9_letter 1 = .ok (.iload_n 1, 1) := by decide +kernel
theorem dX9_letter_2 : decode cX9_letter 2 = .ok (.invokevirtual 101, 3) := by decide +kernel
theorem dX9_letter_5 : decode cX9_letter 5 = .ok (.ifCond .eq 14, 3) := by decide +kernel
theorem dX9_letter_8 : decode cX9_letter 8 = .ok (.aload_n 0, 1) := by decide +kernel
theorem dX9_letter_9 : decode cX9_letter 9 = .ok (.getfield 7, 3) := by decide +kernel
theorem dX9_letter_12 : decode cX9_letter 12 = .ok (.iconst 5, 1) := by decide +kernel
theorem dX9_letter_13 : decode cX9_letter 13 = .ok (.iload_n 1, 1) := by decide +kernel
theorem dX9_letter_14 : decode cX9_letter 14 = .ok (.iadd, 1) := by decide +kernel
theorem dX9_letter_15 : decode cX9_letter 15 = .ok (.iaload, 1) := by decide +kernel
theorem dX9_letter_16 : decode cX9_letter 16 = .ok (.goto 4, 3) := by decide +kernel
theorem dX9_letter_19 : decode cX9_letter 19 = .ok (.iconst (-1), 1) := by decide +kernel
theorem dX9_letter_20 : decode cX9_letter 20 = .ok (.ireturn, 1) := by decide +kernel
theorem dX9_ofNote_0 : decode cX9_ofNote 0 = .ok (.iload_n 2, 1) := by decide +kernel
theorem dX9_ofNote_1 : decode cX9_ofNote 1 = .ok (.ifCond .ne 29, 3) := by decide +kernel
theorem dX9_ofNote_4 : decode cX9_ofNote 4 = .ok (.aload_n 0, 1) := by decide +kernel
theorem dX9_ofNote_5 : decode cX9_ofNote 5 = .ok (.iload_n 1, 1) := by decide +kernel
theorem dX9_ofNote_6 : decode cX9_ofNote 6 = .ok (.invokevirtual 64, 3) := by decide +kernel
theorem dX9_ofNote_9 : decode cX9_ofNote 9 = .ok (.ifCond .eq 7, 3) := by decide +kernel
theorem dX9_ofNote_12 : decode cX9_ofNote 12 = .ok (.iconst 2, 1) := by decide +kernel
theorem dX9_ofNote_13 : decode cX9_ofNote 13 = .ok (.goto 16, 3) := by decide +kernel
theorem dX9_ofNote_16 : decode cX9_ofNote 16 = .ok (.aload_n 0, 1) := by decide +kernel
theorem dX9_ofNote_17 : decode cX9_ofNote 17 = .ok (.iload_n 1, 1) := by decide +kernel
theorem dX9_ofNote_18 : decode cX9_ofNote 18 = .ok (.invokevirtual 85, 3) := by decide +kernel
theorem dX9_ofNote_21 : decode cX9_ofNote 21 = .ok (.ifCond .eq 7, 3) := by decide +kernel
theorem dX9_ofNote_24 : decode cX9_ofNote 24 = .ok (.iconst 1, 1) := by decide +kernel
theorem dX9_ofNote_25 : decode cX9_ofNote 25 = .ok (.goto 4, 3) := by decide +kernel
theorem dX9_ofNote_28 : decode cX9_ofNote 28 = .ok (.iconst 0, 1) := by decide +kernel
theorem dX9_ofNote_29 : decode cX9_ofNote 29 = .ok (.ireturn, 1) := by decide +kernel
theorem dX9_ofNote_30 : decode cX9_ofNote 30 = .ok (.iload_n 2, 1) := by decide +kernel
theorem dX9_ofNote_31 : decode cX9_ofNote 31 = .ok (.iconst 3, 1) := by decide +kernel
theorem dX9_ofNote_32 : decode cX9_ofNote 32 = .ok (.if_icmp .ge 30, 3) := by decide +kernel
theorem dX9_ofNote_35 : decode cX9_ofNote 35 = .ok (.aload_n 0, 1) := by decide +kernel
theorem dX9_ofNote_36 : decode cX9_ofNote 36 = .ok (.aload_n 0, 1) := by decide +kernel
theorem dX9_ofNote_37 : decode cX9_ofNote 37 = .ok (.iload_n 1, 1) := by decide +kernel
theorem dX9_ofNote_38 : decode cX9_ofNote 38 = .ok (.iconst 0, 1) := by decide +kernel
theorem dX9_ofNote_39 : decode cX9_ofNote 39 = .ok (.invokevirtual 170, 3) := by decide +kernel
theorem dX9_ofNote_42 : decode cX9_ofNote 42 = .ok (.invokevirtual 81, 3) := by decide +kernel
theorem dX9_ofNote_45 : decode cX9_ofNote 45 = .ok (.iload_n 2, 1) := by decide +kernel
theorem dX9_ofNote_46 : decode cX9_ofNote 46 = .ok (.iconst 1, 1) := by decide +kernel
theorem dX9_ofNote_47 : decode cX9_ofNote 47 = .ok (.if_icmp .ne 10, 3) := by decide +kernel
theorem dX9_ofNote_50 : decode cX9_ofNote 50 = .ok (.aload_n 0, 1) := by decide +kernel
theorem dX9_ofNote_51 : decode cX9_ofNote 51 = .ok (.getfield 75, 3) := by decide +kernel
theorem dX9_ofNote_54 : decode cX9_ofNote 54 = .ok (.goto 7, 3) := by decide +kernel
theorem dX9_ofNote_57 : decode cX9_ofNote 57 = .ok (.aload_n 0, 1) := by decide +kernel
theorem dX9_ofNote_58 : decode cX9_ofNote 58 = .ok (.getfield 78, 3) := by decide +kernel
theorem dX9_ofNote_61 : decode cX9_ofNote 61 = .ok (.ireturn, 1) := by decide +kernel
theorem dX9_ofNote_62 : decode cX9_ofNote 62 = .ok (.iload_n 2, 1) := by decide +kernel
theorem dX9_ofNote_63 : decode cX9_ofNote 63 = .ok (.iconst 5, 1) := by decide +kernel
theorem dX9_ofNote_64 : decode cX9_ofNote 64 = .ok (.if_icmp .le 39, 3) := by decide +kernel
theorem dX9_ofNote_67 : decode cX9_ofNote 67 = .ok (.iload_n 2, 1) := by decide +kernel
theorem dX9_ofNote_68 : decode cX9_ofNote 68 = .ok (.bipush 6, 2) := by decide +kernel
theorem dX9_ofNote_70 : decode cX9_ofNote 70 = .ok (.if_icmp .ne 12, 3) := by decide +kernel
theorem dX9_ofNote_73 : decode cX9_ofNote 73 = .ok (.aload_n 0, 1) := by decide +kernel
theorem dX9_ofNote_74 : decode cX9_ofNote 74 = .ok (.iload_n 1, 1) := by decide +kernel
theorem dX9_ofNote_75 : decode cX9_ofNote 75 = .ok (.iconst 0, 1) := by decide +kernel
theorem dX9_ofNote_76 : decode cX9_ofNote 76 = .ok (.invokevirtual 45, 3) := by decide +kernel
theorem dX9_ofNote_79 : decode cX9_ofNote 79 = .ok (.goto 23, 3) := by decide +kernel
theorem dX9_ofNote_82 : decode cX9_ofNote 82 = .ok (.iload_n 2, 1) := by decide +kernel
theorem dX9_ofNote_83 : decode cX9_ofNote 83 = .ok (.bipush 7, 2) := by decide +kernel
theorem dX9_ofNote_85 : decode cX9_ofNote 85 = .ok (.if_icmp .ne 11, 3) := by decide +kernel
theorem dX9_ofNote_88 : decode cX9_ofNote 88 = .ok (.aload_n 0, 1) := by decide +kernel
theorem dX9_ofNote_89 : decode cX9_ofNote 89 = .ok (.iload_n 1, 1) := by decide +kernel
theorem dX9_ofNote_90 : decode cX9_ofNote 90 = .ok (.invokevirtual 174, 3) := by decide +kernel
theorem dX9_ofNote_93 : decode cX9_ofNote 93 = .ok (.goto 9, 3) := by decide +kernel
theorem dX9_ofNote_96 : decode cX9_ofNote 96 = .ok (.aload_n 0, 1) := by decide +kernel
theorem dX9_ofNote_97 : decode cX9_ofNote 97 = .ok (.iload_n 1, 1) := by decide +kernel
theorem dX9_ofNote_98 : decode cX9_ofNote 98 = .ok (.iconst 1, 1) := by decide +kernel
theorem dX9_ofNote_99 : decode cX9_ofNote 99 = .ok (.invokevirtual 170, 3) := by decide +kernel
theorem dX9_ofNote_102 : decode cX9_ofNote 102 = .ok (.ireturn, 1) := by decide +kernel
theorem dX9_ofNote_103 : decode cX9_ofNote 103 = .ok (.aload_n 0, 1) := by decide +kernel
theorem dX9_ofNote_104 : decode cX9_ofNote 104 = .ok (.iload_n 1, 1) := by decide +kernel
theorem dX9_ofNote_105 : decode cX9_ofNote 105 = .ok (.invokevirtual 81, 3) := by decide +kernel
theorem dX9_ofNote_108 : decode cX9_ofNote 108 = .ok (.aload_n 0, 1) := by decide +kernel
theorem dX9_ofNote_109 : decode cX9_ofNote 109 = .ok (.iload_n 1, 1) := by decide +kernel
theorem dX9_ofNote_110 : decode cX9_ofNote 110 = .ok (.invokevirtual 64, 3) := by decide +kernel
theorem dX9_ofNote_113 : decode cX9_ofNote 113 = .ok (.ifCond .eq 8, 3) := by decide +kernel
theorem dX9_ofNote_116 : decode cX9_ofNote 116 = .ok (.bipush (-6), 2) := by decide +kernel
theorem dX9_ofNote_118 : decode cX9_ofNote 118 = .ok (.goto 34, 3) := by decide +kernel
theorem dX9_ofNote_121 : decode cX9_ofNote 121 = .ok (.iload_n 2, 1) := by decide +kernel
theorem dX9_ofNote_122 : decode cX9_ofNote 122 = .ok (.iconst 3, 1) := by decide +kernel
theorem dX9_ofNote_123 : decode cX9_ofNote 123 = .ok (.if_icmp .ne 12, 3) := by decide +kernel
theorem dX9_ofNote_126 : decode cX9_ofNote 126 = .ok (.aload_n 0, 1) := by decide +kernel
theorem dX9_ofNote_127 : decode cX9_ofNote 127 = .ok (.iload_n 1, 1) := by decide +kernel
theorem dX9_ofNote_128 : decode cX9_ofNote 128 = .ok (.iconst 1, 1) := by decide +kernel
theorem dX9_ofNote_129 : decode cX9_ofNote 129 = .ok (.invokevirtual 45, 3) := by decide +kernel
theorem dX9_ofNote_132 : decode cX9_ofNote 132 = .ok (.goto 20, 3) := by decide +kernel
theorem dX9_ofNote_135 : decode cX9_ofNote 135 = .ok (.iload_n 2, 1) := by decide +kernel
theorem dX9_ofNote_136 : decode cX9_ofNote 136 = .ok (.iconst 4, 1) := by decide +kernel
theorem dX9_ofNote_137 : decode cX9_ofNote 137 = .ok (.if_icmp .ne 11, 3) := by decide +kernel
theorem dX9_ofNote_140 : decode cX9_ofNote 140 = .ok (.aload_n 0, 1) := by decide +kernel
theorem dX9_ofNote_141 : decode cX9_ofNote 141 = .ok (.iload_n 1, 1) := by decide +kernel
theorem dX9_ofNote_142 : decode cX9_ofNote 142 = .ok (.invokevirtual 68, 3) := by decide +kernel
theorem dX9_ofNote_145 : decode cX9_ofNote 145 = .ok (.goto 7, 3) := by decide +kernel
theorem dX9_ofNote_148 : decode cX9_ofNote 148 = .ok (.aload_n 0, 1) := by decide +kernel
theorem dX9_ofNote_149 : decode cX9_ofNote 149 = .ok (.getfield 72, 3) := by decide +kernel
theorem dX9_ofNote_152 : decode cX9_ofNote 152 = .ok (.ireturn, 1) := by decide +kernel
theorem dX9_of_0 : decode cX9_of 0 = .ok (.aload_n 0, 1) := by decide +kernel
theorem dX9_of_1 : decode cX9_of 1 = .ok (.iload_n 1, 1) := by decide +kernel
theorem dX9_of_2 : decode cX9_of 2 = .ok (.invokevirtual 140, 3) := by decide +kernel
theorem dX9_of_5 : decode cX9_of 5 = .ok (.ifCond .ne 5, 3) := by decide +kernel
theorem dX9_of_8 : decode cX9_of 8 = .ok (.iconst (-1), 1) := by decide +kernel
theorem dX9_of_9 : decode cX9_of 9 = .ok (.ireturn, 1) := by decide +kernel
theorem dX9_of_10 : decode cX9_of 10 = .ok (.iload_n 2, 1) := by decide +kernel
theorem dX9_of_11 : decode cX9_of 11 = .ok (.iconst 0, 1) := by decide +kernel
theorem dX9_of_12 : decode cX9_of 12 = .ok (.bipush 8, 2) := by decide +kernel
theorem dX9_of_14 : decode cX9_of 14 = .ok (.invokestatic 41, 3) := by decide +kernel
theorem dX9_of_17 : decode cX9_of 17 = .ok (.ifCond .eq 12, 3) := by decide +kernel
theorem dX9_of_20 : decode cX9_of 20 = .ok (.aload_n 0, 1) := by decide +kernel
theorem dX9_of_21 : decode cX9_of 21 = .ok (.iload_n 1, 1) := by decide +kernel
theorem dX9_of_22 : decode cX9_of 22 = .ok (.iload_n 2, 1) := by decide +kernel
theorem dX9_of_23 : decode cX9_of 23 = .ok (.invokevirtual 177, 3) := by decide +kernel
theorem dX9_of_26 : decode cX9_of 26 = .ok (.goto 5, 3) := by decide +kernel
theorem dX9_of_29 : decode cX9_of 29 = .ok (.bipush (-2), 2) := by decide +kernel
theorem dX9_of_31 : decode cX9_of 31 = .ok (.ireturn, 1) := by decide +kernel
theorem dX9_word_0 : decode cX9_word 0 = .ok (.aload_n 0, 1) := by decide +kernel
theorem dX9_word_1 : decode cX9_word 1 = .ok (.iload_n 1, 1) := by decide +kernel
theorem dX9_word_2 : decode cX9_word 2 = .ok (.invokevirtual 140, 3) := by decide +kernel
theorem dX9_word_5 : decode cX9_word 5 = .ok (.ifCond .ne 5, 3) := by decide +kernel
theorem dX9_word_8 : decode cX9_word 8 = .ok (.iconst (-1), 1) := by decide +kernel
theorem dX9_word_9 : decode cX9_word 9 = .ok (.ireturn, 1) := by decide +kernel
theorem dX9_word_10 : decode cX9_word 10 = .ok (.aload_n 0, 1) := by decide +kernel
theorem dX9_word_11 : decode cX9_word 11 = .ok (.iload_n 1, 1) := by decide +kernel
theorem dX9_word_12 : decode cX9_word 12 = .ok (.invokevirtual 64, 3) := by decide +kernel
theorem dX9_word_15 : decode cX9_word 15 = .ok (.ifCond .eq 6, 3) := by decide +kernel
theorem dX9_word_18 : decode cX9_word 18 = .ok (.bipush (-6), 2) := by decide +kernel
theorem dX9_word_20 : decode cX9_word 20 = .ok (.ireturn, 1) := by decide +kernel
theorem dX9_word_21 : decode cX9_word 21 = .ok (.iload_n 2, 1) := by decide +kernel
theorem dX9_word_22 : decode cX9_word 22 = .ok (.iconst 0, 1) := by decide +kernel
theorem dX9_word_23 : decode cX9_word 23 = .ok (.aload_n 0, 1) := by decide +kernel
theorem dX9_word_24 : decode cX9_word 24 = .ok (.iload_n 1, 1) := by decide +kernel
theorem dX9_word_25 : decode cX9_word 25 = .ok (.iconst 1, 1) := by decide +kernel
theorem dX9_word_26 : decode cX9_word 26 = .ok (.invokevirtual 45, 3) := by decide +kernel
theorem dX9_word_29 : decode cX9_word 29 = .ok (.iconst 1, 1) := by decide +kernel
theorem dX9_word_30 : decode cX9_word 30 = .ok (.isub, 1) := by decide +kernel
theorem dX9_word_31 : decode cX9_word 31 = .ok (.invokestatic 41, 3) := by decide +kernel
theorem dX9_word_34 : decode cX9_word 34 = .ok (.ifCond .eq 14, 3) := by decide +kernel
theorem dX9_word_37 : decode cX9_word 37 = .ok (.aload_n 0, 1) := by decide +kernel
theorem dX9_word_38 : decode cX9_word 38 = .ok (.iload_n 1, 1) := by decide +kernel
theorem dX9_word_39 : decode cX9_word 39 = .ok (.iconst 2, 1) := by decide +kernel
theorem dX9_word_40 : decode cX9_word 40 = .ok (.iload_n 2, 1) := by decide +kernel
theorem dX9_word_41 : decode cX9_word 41 = .ok (.iadd, 1) := by decide +kernel
theorem dX9_word_42 : decode cX9_word 42 = .ok (.invokevirtual 45, 3) := by decide +kernel
theorem dX9_word_45 : decode cX9_word 45 = .ok (.goto 4, 3) := by decide +kernel
theorem dX9_word_48 : decode cX9_word 48 = .ok (.iconst (-1), 1) := by decide +kernel
theorem dX9_word_49 : decode cX9_word 49 = .ok (.ireturn, 1) := by decide +kernel
theorem dX9_at_0 : decode cX9_at 0 = .ok (.aload_n 0, 1) := by decide +kernel
theorem dX9_at_1 : decode cX9_at 1 = .ok (.iload_n 1, 1) := by decide +kernel
theorem dX9_at_2 : decode cX9_at 2 = .ok (.invokevirtual 101, 3) := by decide +kernel
theorem dX9_at_5 : decode cX9_at 5 = .ok (.ifCond .eq 15, 3) := by decide +kernel
theorem dX9_at_8 : decode cX9_at 8 = .ok (.aload_n 0, 1) := by decide +kernel
theorem dX9_at_9 : decode cX9_at 9 = .ok (.getfield 7, 3) := by decide +kernel
theorem dX9_at_12 : decode cX9_at 12 = .ok (.bipush 65, 2) := by decide +kernel
theorem dX9_at_14 : decode cX9_at 14 = .ok (.iload_n 1, 1) := by decide +kernel
theorem dX9_at_15 : decode cX9_at 15 = .ok (.iadd, 1) := by decide +kernel
theorem dX9_at_16 : decode cX9_at 16 = .ok (.iaload, 1) := by decide +kernel
theorem dX9_at_17 : decode cX9_at 17 = .ok (.goto 4, 3) := by decide +kernel
theorem dX9_at_20 : decode cX9_at 20 = .ok (.iconst (-1), 1) := by decide +kernel
theorem dX9_at_21 : decode cX9_at 21 = .ok (.ireturn, 1) := by decide +kernel
theorem dX9_printed_0 : decode cX9_printed 0 = .ok (.aload_n 0, 1) := by decide +kernel
theorem dX9_printed_1 : decode cX9_printed 1 = .ok (.iload_n 1, 1) := by decide +kernel
theorem dX9_printed_2 : decode cX9_printed 2 = .ok (.invokevirtual 140, 3) := by decide +kernel
theorem dX9_printed_5 : decode cX9_printed 5 = .ok (.ifCond .ne 5, 3) := by decide +kernel
theorem dX9_printed_8 : decode cX9_printed 8 = .ok (.iconst (-1), 1) := by decide +kernel
theorem dX9_printed_9 : decode cX9_printed 9 = .ok (.ireturn, 1) := by decide +kernel
theorem dX9_printed_10 : decode cX9_printed 10 = .ok (.iload_n 2, 1) := by decide +kernel
theorem dX9_printed_11 : decode cX9_printed 11 = .ok (.iconst 0, 1) := by decide +kernel
theorem dX9_printed_12 : decode cX9_printed 12 = .ok (.iconst 1, 1) := by decide +kernel
theorem dX9_printed_13 : decode cX9_printed 13 = .ok (.invokestatic 41, 3) := by decide +kernel
theorem dX9_printed_16 : decode cX9_printed 16 = .ok (.ifCond .ne 6, 3) := by decide +kernel
theorem dX9_printed_19 : decode cX9_printed 19 = .ok (.bipush (-2), 2) := by decide +kernel
theorem dX9_printed_21 : decode cX9_printed 21 = .ok (.ireturn, 1) := by decide +kernel
theorem dX9_printed_22 : decode cX9_printed 22 = .ok (.aload_n 0, 1) := by decide +kernel
theorem dX9_printed_23 : decode cX9_printed 23 = .ok (.aload_n 0, 1) := by decide +kernel
theorem dX9_printed_24 : decode cX9_printed 24 = .ok (.getfield 7, 3) := by decide +kernel
theorem dX9_printed_27 : decode cX9_printed 27 = .ok (.iconst 4, 1) := by decide +kernel
theorem dX9_printed_28 : decode cX9_printed 28 = .ok (.iaload, 1) := by decide +kernel
theorem dX9_printed_29 : decode cX9_printed 29 = .ok (.invokevirtual 180, 3) := by decide +kernel
theorem dX9_printed_32 : decode cX9_printed 32 = .ok (.aload_n 0, 1) := by decide +kernel
theorem dX9_printed_33 : decode cX9_printed 33 = .ok (.getfield 29, 3) := by decide +kernel
theorem dX9_printed_36 : decode cX9_printed 36 = .ok (.iload_n 1, 1) := by decide +kernel
theorem dX9_printed_37 : decode cX9_printed 37 = .ok (.iaload, 1) := by decide +kernel
theorem dX9_printed_38 : decode cX9_printed 38 = .ok (.bipush (-6), 2) := by decide +kernel
theorem dX9_printed_40 : decode cX9_printed 40 = .ok (.if_icmp .eq 7, 3) := by decide +kernel
theorem dX9_printed_43 : decode cX9_printed 43 = .ok (.iload_n 2, 1) := by decide +kernel
theorem dX9_printed_44 : decode cX9_printed 44 = .ok (.ifCond .ne 12, 3) := by decide +kernel
theorem dX9_printed_47 : decode cX9_printed 47 = .ok (.aload_n 0, 1) := by decide +kernel
theorem dX9_printed_48 : decode cX9_printed 48 = .ok (.getfield 29, 3) := by decide +kernel
theorem dX9_printed_51 : decode cX9_printed 51 = .ok (.iload_n 1, 1) := by decide +kernel
theorem dX9_printed_52 : decode cX9_printed 52 = .ok (.iaload, 1) := by decide +kernel
theorem dX9_printed_53 : decode cX9_printed 53 = .ok (.goto 16, 3) := by decide +kernel
theorem dX9_printed_56 : decode cX9_printed 56 = .ok (.aload_n 0, 1) := by decide +kernel
theorem dX9_printed_57 : decode cX9_printed 57 = .ok (.getfield 29, 3) := by decide +kernel
theorem dX9_printed_60 : decode cX9_printed 60 = .ok (.iload_n 1, 1) := by decide +kernel
theorem dX9_printed_61 : decode cX9_printed 61 = .ok (.iaload, 1) := by decide +kernel
theorem dX9_printed_62 : decode cX9_printed 62 = .ok (.aload_n 0, 1) := by decide +kernel
theorem dX9_printed_63 : decode cX9_printed 63 = .ok (.getfield 32, 3) := by decide +kernel
theorem dX9_printed_66 : decode cX9_printed 66 = .ok (.iload_n 1, 1) := by decide +kernel
theorem dX9_printed_67 : decode cX9_printed 67 = .ok (.iaload, 1) := by decide +kernel
theorem dX9_printed_68 : decode cX9_printed 68 = .ok (.isub, 1) := by decide +kernel
theorem dX9_printed_69 : decode cX9_printed 69 = .ok (.ireturn, 1) := by decide +kernel
theorem dX9_replyCount_0 : decode cX9_replyCount 0 = .ok (.iconst 0, 1) := by decide +kernel
theorem dX9_replyCount_1 : decode cX9_replyCount 1 = .ok (.istore_n 1, 1) := by decide +kernel
theorem dX9_replyCount_2 : decode cX9_replyCount 2 = .ok (.iconst 0, 1) := by decide +kernel
theorem dX9_replyCount_3 : decode cX9_replyCount 3 = .ok (.istore_n 2, 1) := by decide +kernel
theorem dX9_replyCount_4 : decode cX9_replyCount 4 = .ok (.iload_n 2, 1) := by decide +kernel
theorem dX9_replyCount_5 : decode cX9_replyCount 5 = .ok (.aload_n 0, 1) := by decide +kernel
theorem dX9_replyCount_6 : decode cX9_replyCount 6 = .ok (.getfield 7, 3) := by decide +kernel
theorem dX9_replyCount_9 : decode cX9_replyCount 9 = .ok (.iconst 1, 1) := by decide +kernel
theorem dX9_replyCount_10 : decode cX9_replyCount 10 = .ok (.iaload, 1) := by decide +kernel
theorem dX9_replyCount_11 : decode cX9_replyCount 11 = .ok (.if_icmp .ge 25, 3) := by decide +kernel
theorem dX9_replyCount_14 : decode cX9_replyCount 14 = .ok (.iload_n 1, 1) := by decide +kernel
theorem dX9_replyCount_15 : decode cX9_replyCount 15 = .ok (.aload_n 0, 1) := by decide +kernel
theorem dX9_replyCount_16 : decode cX9_replyCount 16 = .ok (.iload_n 2, 1) := by decide +kernel
theorem dX9_replyCount_17 : decode cX9_replyCount 17 = .ok (.invokevirtual 64, 3) := by decide +kernel
theorem dX9_replyCount_20 : decode cX9_replyCount 20 = .ok (.ifCond .eq 7, 3) := by decide +kernel
theorem dX9_replyCount_23 : decode cX9_replyCount 23 = .ok (.iconst 1, 1) := by decide +kernel
theorem dX9_replyCount_24 : decode cX9_replyCount 24 = .ok (.goto 4, 3) := by decide +kernel
theorem dX9_replyCount_27 : decode cX9_replyCount 27 = .ok (.iconst 0, 1) := by decide +kernel
theorem dX9_replyCount_28 : decode cX9_replyCount 28 = .ok (.iadd, 1) := by decide +kernel
theorem dX9_replyCount_29 : decode cX9_replyCount 29 = .ok (.istore_n 1, 1) := by decide +kernel
theorem dX9_replyCount_30 : decode cX9_replyCount 30 = .ok (.iinc 2 1, 3) := by decide +kernel
theorem dX9_replyCount_33 : decode cX9_replyCount 33 = .ok (.goto (-29), 3) := by decide +kernel
theorem dX9_replyCount_36 : decode cX9_replyCount 36 = .ok (.iload_n 1, 1) := by decide +kernel
theorem dX9_replyCount_37 : decode cX9_replyCount 37 = .ok (.ireturn, 1) := by decide +kernel
theorem dX9_count_0 : decode cX9_count 0 = .ok (.iload_n 1, 1) := by decide +kernel
theorem dX9_count_1 : decode cX9_count 1 = .ok (.iconst 0, 1) := by decide +kernel
theorem dX9_count_2 : decode cX9_count 2 = .ok (.bipush 12, 2) := by decide +kernel
theorem dX9_count_4 : decode cX9_count 4 = .ok (.invokestatic 41, 3) := by decide +kernel
theorem dX9_count_7 : decode cX9_count 7 = .ok (.ifCond .ne 6, 3) := by decide +kernel
theorem dX9_count_10 : decode cX9_count 10 = .ok (.bipush (-2), 2) := by decide +kernel
theorem dX9_count_12 : decode cX9_count 12 = .ok (.ireturn, 1) := by decide +kernel
theorem dX9_count_13 : decode cX9_count 13 = .ok (.iload_n 1, 1) := by decide +kernel
theorem dX9_count_14 : decode cX9_count 14 = .ok (.iconst 4, 1) := by decide +kernel
theorem dX9_count_15 : decode cX9_count 15 = .ok (.if_icmp .ge 34, 3) := by decide +kernel
theorem dX9_count_18 : decode cX9_count 18 = .ok (.iload_n 1, 1) := by decide +kernel
theorem dX9_count_19 : decode cX9_count 19 = .ok (.iconst 2, 1) := by decide +kernel
theorem dX9_count_20 : decode cX9_count 20 = .ok (.if_icmp .ge 12, 3) := by decide +kernel
theorem dX9_count_23 : decode cX9_count 23 = .ok (.aload_n 0, 1) := by decide +kernel
theorem dX9_count_24 : decode cX9_count 24 = .ok (.getfield 7, 3) := by decide +kernel
theorem dX9_count_27 : decode cX9_count 27 = .ok (.iload_n 1, 1) := by decide +kernel
theorem dX9_count_28 : decode cX9_count 28 = .ok (.iaload, 1) := by decide +kernel
theorem dX9_count_29 : decode cX9_count 29 = .ok (.goto 19, 3) := by decide +kernel
theorem dX9_count_32 : decode cX9_count 32 = .ok (.iload_n 1, 1) := by decide +kernel
theorem dX9_count_33 : decode cX9_count 33 = .ok (.iconst 2, 1) := by decide +kernel
theorem dX9_count_34 : decode cX9_count 34 = .ok (.if_icmp .ne 10, 3) := by decide +kernel
theorem dX9_count_37 : decode cX9_count 37 = .ok (.aload_n 0, 1) := by decide +kernel
theorem dX9_count_38 : decode cX9_count 38 = .ok (.invokevirtual 104, 3) := by decide +kernel
theorem dX9_count_41 : decode cX9_count 41 = .ok (.goto 7, 3) := by decide +kernel
theorem dX9_count_44 : decode cX9_count 44 = .ok (.aload_n 0, 1) := by decide +kernel
theorem dX9_count_45 : decode cX9_count 45 = .ok (.invokevirtual 183, 3) := by decide +kernel
theorem dX9_count_48 : decode cX9_count 48 = .ok (.ireturn, 1) := by decide +kernel
theorem dX9_count_49 : decode cX9_count 49 = .ok (.iload_n 1, 1) := by decide +kernel
theorem dX9_count_50 : decode cX9_count 50 = .ok (.bipush 7, 2) := by decide +kernel
theorem dX9_count_52 : decode cX9_count 52 = .ok (.if_icmp .le 41, 3) := by decide +kernel
theorem dX9_count_55 : decode cX9_count 55 = .ok (.iload_n 1, 1) := by decide +kernel
theorem dX9_count_56 : decode cX9_count 56 = .ok (.bipush 11, 2) := by decide +kernel
theorem dX9_count_58 : decode cX9_count 58 = .ok (.if_icmp .ge 17, 3) := by decide +kernel
theorem dX9_count_61 : decode cX9_count 61 = .ok (.aload_n 0, 1) := by decide +kernel
theorem dX9_count_62 : decode cX9_count 62 = .ok (.getfield 7, 3) := by decide +kernel
theorem dX9_count_65 : decode cX9_count 65 = .ok (.iconst 2, 1) := by decide +kernel
theorem dX9_count_66 : decode cX9_count 66 = .ok (.iload_n 1, 1) := by decide +kernel
theorem dX9_count_67 : decode cX9_count 67 = .ok (.iadd, 1) := by decide +kernel
theorem dX9_count_68 : decode cX9_count 68 = .ok (.bipush 8, 2) := by decide +kernel
theorem dX9_count_70 : decode cX9_count 70 = .ok (.isub, 1) := by decide +kernel
theorem dX9_count_71 : decode cX9_count 71 = .ok (.iaload, 1) := by decide +kernel
theorem dX9_count_72 : decode cX9_count 72 = .ok (.goto 20, 3) := by decide +kernel
theorem dX9_count_75 : decode cX9_count 75 = .ok (.iload_n 1, 1) := by decide +kernel
theorem dX9_count_76 : decode cX9_count 76 = .ok (.bipush 11, 2) := by decide +kernel
theorem dX9_count_78 : decode cX9_count 78 = .ok (.if_icmp .ne 10, 3) := by decide +kernel
theorem dX9_count_81 : decode cX9_count 81 = .ok (.aload_n 0, 1) := by decide +kernel
theorem dX9_count_82 : decode cX9_count 82 = .ok (.getfield 186, 3) := by decide +kernel
theorem dX9_count_85 : decode cX9_count 85 = .ok (.goto 7, 3) := by decide +kernel
theorem dX9_count_88 : decode cX9_count 88 = .ok (.aload_n 0, 1) := by decide +kernel
theorem dX9_count_89 : decode cX9_count 89 = .ok (.getfield 49, 3) := by decide +kernel
theorem dX9_count_92 : decode cX9_count 92 = .ok (.ireturn, 1) := by decide +kernel
theorem dX9_count_93 : decode cX9_count 93 = .ok (.aload_n 0, 1) := by decide +kernel
theorem dX9_count_94 : decode cX9_count 94 = .ok (.aload_n 0, 1) := by decide +kernel
theorem dX9_count_95 : decode cX9_count 95 = .ok (.getfield 7, 3) := by decide +kernel
theorem dX9_count_98 : decode cX9_count 98 = .ok (.iconst 4, 1) := by decide +kernel
theorem dX9_count_99 : decode cX9_count 99 = .ok (.iaload, 1) := by decide +kernel
theorem dX9_count_100 : decode cX9_count 100 = .ok (.invokevirtual 180, 3) := by decide +kernel
theorem dX9_count_103 : decode cX9_count 103 = .ok (.iload_n 1, 1) := by decide +kernel
theorem dX9_count_104 : decode cX9_count 104 = .ok (.iconst 4, 1) := by decide +kernel
theorem dX9_count_105 : decode cX9_count 105 = .ok (.if_icmp .ne 10, 3) := by decide +kernel
theorem dX9_count_108 : decode cX9_count 108 = .ok (.aload_n 0, 1) := by decide +kernel
theorem dX9_count_109 : decode cX9_count 109 = .ok (.invokevirtual 125, 3) := by decide +kernel
theorem dX9_count_112 : decode cX9_count 112 = .ok (.goto 51, 3) := by decide +kernel
theorem dX9_count_115 : decode cX9_count 115 = .ok (.iload_n 1, 1) := by decide +kernel
theorem dX9_count_116 : decode cX9_count 116 = .ok (.iconst 5, 1) := by decide +kernel
theorem dX9_count_117 : decode cX9_count 117 = .ok (.if_icmp .ne 28, 3) := by decide +kernel
theorem dX9_count_120 : decode cX9_count 120 = .ok (.aload_n 0, 1) := by decide +kernel
theorem dX9_count_121 : decode cX9_count 121 = .ok (.getfield 7, 3) := by decide +kernel
theorem dX9_count_124 : decode cX9_count 124 = .ok (.iconst 0, 1) := by decide +kernel
theorem dX9_count_125 : decode cX9_count 125 = .ok (.iaload, 1) := by decide +kernel
theorem dX9_count_126 : decode cX9_count 126 = .ok (.aload_n 0, 1) := by decide +kernel
theorem dX9_count_127 : decode cX9_count 127 = .ok (.getfield 7, 3) := by decide +kernel
theorem dX9_count_130 : decode cX9_count 130 = .ok (.iconst 3, 1) := by decide +kernel
theorem dX9_count_131 : decode cX9_count 131 = .ok (.iaload, 1) := by decide +kernel
theorem dX9_count_132 : decode cX9_count 132 = .ok (.iadd, 1) := by decide +kernel
theorem dX9_count_133 : decode cX9_count 133 = .ok (.iconst 1, 1) := by decide +kernel
theorem dX9_count_134 : decode cX9_count 134 = .ok (.isub, 1) := by decide +kernel
theorem dX9_count_135 : decode cX9_count 135 = .ok (.aload_n 0, 1) := by decide +kernel
theorem dX9_count_136 : decode cX9_count 136 = .ok (.getfield 7, 3) := by decide +kernel
theorem dX9_count_139 : decode cX9_count 139 = .ok (.iconst 3, 1) := by decide +kernel
theorem dX9_count_140 : decode cX9_count 140 = .ok (.iaload, 1) := by decide +kernel
theorem dX9_count_141 : decode cX9_count 141 = .ok (.idiv, 1) := by decide +kernel
theorem dX9_count_142 : decode cX9_count 142 = .ok (.goto 21, 3) := by decide +kernel
theorem dX9_count_145 : decode cX9_count 145 = .ok (.iload_n 1, 1) := by decide +kernel
theorem dX9_count_146 : decode cX9_count 146 = .ok (.bipush 6, 2) := by decide +kernel
theorem dX9_count_148 : decode cX9_count 148 = .ok (.if_icmp .ne 10, 3) := by decide +kernel
theorem dX9_count_151 : decode cX9_count 151 = .ok (.aload_n 0, 1) := by decide +kernel
theorem dX9_count_152 : decode cX9_count 152 = .ok (.invokevirtual 189, 3) := by decide +kernel
theorem dX9_count_155 : decode cX9_count 155 = .ok (.goto 8, 3) := by decide +kernel
theorem dX9_count_158 : decode cX9_count 158 = .ok (.aload_n 0, 1) := by decide +kernel
theorem dX9_count_159 : decode cX9_count 159 = .ok (.iconst 1, 1) := by decide +kernel
theorem dX9_count_160 : decode cX9_count 160 = .ok (.invokevirtual 192, 3) := by decide +kernel
theorem dX9_count_163 : decode cX9_count 163 = .ok (.ireturn, 1) := by decide +kernel
theorem dX9_orphansIf_0 : decode cX9_orphansIf 0 = .ok (.aload_n 0, 1) := by decide +kernel
theorem dX9_orphansIf_1 : decode cX9_orphansIf 1 = .ok (.iload_n 1, 1) := by decide +kernel
theorem dX9_orphansIf_2 : decode cX9_orphansIf 2 = .ok (.iload_n 2, 1) := by decide +kernel
theorem dX9_orphansIf_3 : decode cX9_orphansIf 3 = .ok (.invokevirtual 112, 3) := by decide +kernel
theorem dX9_orphansIf_6 : decode cX9_orphansIf 6 = .ok (.istore_n 3, 1) := by decide +kernel
theorem dX9_orphansIf_7 : decode cX9_orphansIf 7 = .ok (.iload_n 3, 1) := by decide +kernel
theorem dX9_orphansIf_8 : decode cX9_orphansIf 8 = .ok (.ifCond .eq 5, 3) := by decide +kernel
theorem dX9_orphansIf_11 : decode cX9_orphansIf 11 = .ok (.iload_n 3, 1) := by decide +kernel
theorem dX9_orphansIf_12 : decode cX9_orphansIf 12 = .ok (.ireturn, 1) := by decide +kernel
theorem dX9_orphansIf_13 : decode cX9_orphansIf 13 = .ok (.iconst 0, 1) := by decide +kernel
theorem dX9_orphansIf_14 : decode cX9_orphansIf 14 = .ok (.istore 4, 2) := by decide +kernel
theorem dX9_orphansIf_16 : decode cX9_orphansIf 16 = .ok (.iconst 0, 1) := by decide +kernel
theorem dX9_orphansIf_17 : decode cX9_orphansIf 17 = .ok (.istore 5, 2) := by decide +kernel
theorem dX9_orphansIf_19 : decode cX9_orphansIf 19 = .ok (.iconst 0, 1) := by decide +kernel
theorem dX9_orphansIf_20 : decode cX9_orphansIf 20 = .ok (.istore 6, 2) := by decide +kernel
theorem dX9_orphansIf_22 : decode cX9_orphansIf 22 = .ok (.iload 6, 2) := by decide +kernel
theorem dX9_orphansIf_24 : decode cX9_orphansIf 24 = .ok (.aload_n 0, 1) := by decide +kernel
theorem dX9_orphansIf_25 : decode cX9_orphansIf 25 = .ok (.getfield 7, 3) := by decide +kernel
theorem dX9_orphansIf_28 : decode cX9_orphansIf 28 = .ok (.iconst 0, 1) := by decide +kernel
theorem dX9_orphansIf_29 : decode cX9_orphansIf 29 = .ok (.iaload, 1) := by decide +kernel
theorem dX9_orphansIf_30 : decode cX9_orphansIf 30 = .ok (.if_icmp .ge 67, 3) := by decide +kernel
theorem dX9_orphansIf_33 : decode cX9_orphansIf 33 = .ok (.iload 4, 2) := by decide +kernel
theorem dX9_orphansIf_35 : decode cX9_orphansIf 35 = .ok (.iload 6, 2) := by decide +kernel
theorem dX9_orphansIf_37 : decode cX9_orphansIf 37 = .ok (.iload_n 1, 1) := by decide +kernel
theorem dX9_orphansIf_38 : decode cX9_orphansIf 38 = .ok (.iload_n 2, 1) := by decide +kernel
theorem dX9_orphansIf_39 : decode cX9_orphansIf 39 = .ok (.invokestatic 41, 3) := by decide +kernel
theorem dX9_orphansIf_42 : decode cX9_orphansIf 42 = .ok (.ifCond .eq 16, 3) := by decide +kernel
theorem dX9_orphansIf_45 : decode cX9_orphansIf 45 = .ok (.aload_n 0, 1) := by decide +kernel
theorem dX9_orphansIf_46 : decode cX9_orphansIf 46 = .ok (.getfield 7, 3) := by decide +kernel
theorem dX9_orphansIf_49 : decode cX9_orphansIf 49 = .ok (.bipush 65, 2) := by decide +kernel
theorem dX9_orphansIf_51 : decode cX9_orphansIf 51 = .ok (.iload 6, 2) := by decide +kernel
theorem dX9_orphansIf_53 : decode cX9_orphansIf 53 = .ok (.iadd, 1) := by decide +kernel
theorem dX9_orphansIf_54 : decode cX9_orphansIf 54 = .ok (.iaload, 1) := by decide +kernel
theorem dX9_orphansIf_55 : decode cX9_orphansIf 55 = .ok (.goto 4, 3) := by decide +kernel
theorem dX9_orphansIf_58 : decode cX9_orphansIf 58 = .ok (.iconst 0, 1) := by decide +kernel
theorem dX9_orphansIf_59 : decode cX9_orphansIf 59 = .ok (.ior, 1) := by decide +kernel
theorem dX9_orphansIf_60 : decode cX9_orphansIf 60 = .ok (.istore 4, 2) := by decide +kernel
theorem dX9_orphansIf_62 : decode cX9_orphansIf 62 = .ok (.iload 5, 2) := by decide +kernel
theorem dX9_orphansIf_64 : decode cX9_orphansIf 64 = .ok (.iload 6, 2) := by decide +kernel
theorem dX9_orphansIf_66 : decode cX9_orphansIf 66 = .ok (.iload_n 1, 1) := by decide +kernel
theorem dX9_orphansIf_67 : decode cX9_orphansIf 67 = .ok (.iload_n 2, 1) := by decide +kernel
theorem dX9_orphansIf_68 : decode cX9_orphansIf 68 = .ok (.invokestatic 41, 3) := by decide +kernel
theorem dX9_orphansIf_71 : decode cX9_orphansIf 71 = .ok (.ifCond .eq 7, 3) := by decide +kernel
theorem dX9_orphansIf_74 : decode cX9_orphansIf 74 = .ok (.iconst 0, 1) := by decide +kernel
theorem dX9_orphansIf_75 : decode cX9_orphansIf 75 = .ok (.goto 13, 3) := by decide +kernel
theorem dX9_orphansIf_78 : decode cX9_orphansIf 78 = .ok (.aload_n 0, 1) := by decide +kernel
theorem dX9_orphansIf_79 : decode cX9_orphansIf 79 = .ok (.getfield 7, 3) := by decide +kernel
theorem dX9_orphansIf_82 : decode cX9_orphansIf 82 = .ok (.bipush 65, 2) := by decide +kernel
theorem dX9_orphansIf_84 : decode cX9_orphansIf 84 = .ok (.iload 6, 2) := by decide +kernel
theorem dX9_orphansIf_86 : decode cX9_orphansIf 86 = .ok (.iadd, 1) := by decide +kernel
theorem dX9_orphansIf_87 : decode cX9_orphansIf 87 = .ok (.iaload, 1) := by decide +kernel
theorem dX9_orphansIf_88 : decode cX9_orphansIf 88 = .ok (.ior, 1) := by decide +kernel
theorem dX9_orphansIf_89 : decode cX9_orphansIf 89 = .ok (.istore 5, 2) := by decide +kernel
theorem dX9_orphansIf_91 : decode cX9_orphansIf 91 = .ok (.iinc 6 1, 3) := by decide +kernel
theorem dX9_orphansIf_94 : decode cX9_orphansIf 94 = .ok (.goto (-72), 3) := by decide +kernel
theorem dX9_orphansIf_97 : decode cX9_orphansIf 97 = .ok (.iload 4, 2) := by decide +kernel
theorem dX9_orphansIf_99 : decode cX9_orphansIf 99 = .ok (.iload 5, 2) := by decide +kernel
theorem dX9_orphansIf_101 : decode cX9_orphansIf 101 = .ok (.iconst (-1), 1) := by decide +kernel
theorem dX9_orphansIf_102 : decode cX9_orphansIf 102 = .ok (.ixor, 1) := by decide +kernel
theorem dX9_orphansIf_103 : decode cX9_orphansIf 103 = .ok (.iand, 1) := by decide +kernel
theorem dX9_orphansIf_104 : decode cX9_orphansIf 104 = .ok (.ireturn, 1) := by decide +kernel
theorem dX9_could_0 : decode cX9_could 0 = .ok (.aload_n 0, 1) := by decide +kernel
theorem dX9_could_1 : decode cX9_could 1 = .ok (.iload_n 1, 1) := by decide +kernel
theorem dX9_could_2 : decode cX9_could 2 = .ok (.invokevirtual 140, 3) := by decide +kernel
theorem dX9_could_5 : decode cX9_could 5 = .ok (.ifCond .ne 5, 3) := by decide +kernel
theorem dX9_could_8 : decode cX9_could 8 = .ok (.iconst (-1), 1) := by decide +kernel
theorem dX9_could_9 : decode cX9_could 9 = .ok (.ireturn, 1) := by decide +kernel
theorem dX9_could_10 : decode cX9_could 10 = .ok (.iload_n 2, 1) := by decide +kernel
theorem dX9_could_11 : decode cX9_could 11 = .ok (.iconst 0, 1) := by decide +kernel
theorem dX9_could_12 : decode cX9_could 12 = .ok (.iconst 2, 1) := by decide +kernel
theorem dX9_could_13 : decode cX9_could 13 = .ok (.invokestatic 41, 3) := by decide +kernel
theorem dX9_could_16 : decode cX9_could 16 = .ok (.ifCond .ne 6, 3) := by decide +kernel
theorem dX9_could_19 : decode cX9_could 19 = .ok (.bipush (-2), 2) := by decide +kernel
theorem dX9_could_21 : decode cX9_could 21 = .ok (.ireturn, 1) := by decide +kernel
theorem dX9_could_22 : decode cX9_could 22 = .ok (.aload_n 0, 1) := by decide +kernel
theorem dX9_could_23 : decode cX9_could 23 = .ok (.iload_n 1, 1) := by decide +kernel
theorem dX9_could_24 : decode cX9_could 24 = .ok (.invokevirtual 85, 3) := by decide +kernel
theorem dX9_could_27 : decode cX9_could 27 = .ok (.ifCond .eq 12, 3) := by decide +kernel
theorem dX9_could_30 : decode cX9_could 30 = .ok (.aload_n 0, 1) := by decide +kernel
theorem dX9_could_31 : decode cX9_could 31 = .ok (.iload_n 1, 1) := by decide +kernel
theorem dX9_could_32 : decode cX9_could 32 = .ok (.iload_n 2, 1) := by decide +kernel
theorem dX9_could_33 : decode cX9_could 33 = .ok (.invokevirtual 161, 3) := by decide +kernel
theorem dX9_could_36 : decode cX9_could 36 = .ok (.goto 5, 3) := by decide +kernel
theorem dX9_could_39 : decode cX9_could 39 = .ok (.bipush (-5), 2) := by decide +kernel
theorem dX9_could_41 : decode cX9_could 41 = .ok (.ireturn, 1) := by decide +kernel
theorem dX9_leastRoom_0 : decode cX9_leastRoom 0 = .ok (.iload_n 1, 1) := by decide +kernel
theorem dX9_leastRoom_1 : decode cX9_leastRoom 1 = .ok (.iconst 0, 1) := by decide +kernel
theorem dX9_leastRoom_2 : decode cX9_leastRoom 2 = .ok (.bipush 60, 2) := by decide +kernel
theorem dX9_leastRoom_4 : decode cX9_leastRoom 4 = .ok (.invokestatic 41, 3) := by decide +kernel
theorem dX9_leastRoom_7 : decode cX9_leastRoom 7 = .ok (.ifCond .ne 6, 3) := by decide +kernel
theorem dX9_leastRoom_10 : decode cX9_leastRoom 10 = .ok (.bipush (-2), 2) := by decide +kernel
theorem dX9_leastRoom_12 : decode cX9_leastRoom 12 = .ok (.ireturn, 1) := by decide +kernel
theorem dX9_leastRoom_13 : decode cX9_leastRoom 13 = .ok (.iconst 1, 1) := by decide +kernel
theorem dX9_leastRoom_14 : decode cX9_leastRoom 14 = .ok (.istore_n 2, 1) := by decide +kernel
theorem dX9_leastRoom_15 : decode cX9_leastRoom 15 = .ok (.iload_n 2, 1) := by decide +kernel
theorem dX9_leastRoom_16 : decode cX9_leastRoom 16 = .ok (.bipush 9, 2) := by decide +kernel
theorem dX9_leastRoom_18 : decode cX9_leastRoom 18 = .ok (.if_icmp .gt 25, 3) := by decide +kernel
theorem dX9_leastRoom_21 : decode cX9_leastRoom 21 = .ok (.aload_n 0, 1) := by decide +kernel
theorem dX9_leastRoom_22 : decode cX9_leastRoom 22 = .ok (.iload_n 2, 1) := by decide +kernel
theorem dX9_leastRoom_23 : decode cX9_leastRoom 23 = .ok (.invokevirtual 180, 3) := by decide +kernel
theorem dX9_leastRoom_26 : decode cX9_leastRoom 26 = .ok (.aload_n 0, 1) := by decide +kernel
theorem dX9_leastRoom_27 : decode cX9_leastRoom 27 = .ok (.iconst 0, 1) := by decide +kernel
theorem dX9_leastRoom_28 : decode cX9_leastRoom 28 = .ok (.invokevirtual 192, 3) := by decide +kernel
theorem dX9_leastRoom_31 : decode cX9_leastRoom 31 = .ok (.iload_n 1, 1) := by decide +kernel
theorem dX9_leastRoom_32 : decode cX9_leastRoom 32 = .ok (.if_icmp .gt 5, 3) := by decide +kernel
theorem dX9_leastRoom_35 : decode cX9_leastRoom 35 = .ok (.iload_n 2, 1) := by decide +kernel
theorem dX9_leastRoom_36 : decode cX9_leastRoom 36 = .ok (.ireturn, 1) := by decide +kernel
theorem dX9_leastRoom_37 : decode cX9_leastRoom 37 = .ok (.iinc 2 1, 3) := by decide +kernel
theorem dX9_leastRoom_40 : decode cX9_leastRoom 40 = .ok (.goto (-25), 3) := by decide +kernel
theorem dX9_leastRoom_43 : decode cX9_leastRoom 43 = .ok (.bipush (-6), 2) := by decide +kernel
theorem dX9_leastRoom_45 : decode cX9_leastRoom 45 = .ok (.ireturn, 1) := by decide +kernel
theorem dX9_byteOf_0 : decode cX9_byteOf 0 = .ok (.lload_n 0, 1) := by decide +kernel
theorem dX9_byteOf_1 : decode cX9_byteOf 1 = .ok (.bipush 8, 2) := by decide +kernel
theorem dX9_byteOf_3 : decode cX9_byteOf 3 = .ok (.iload_n 2, 1) := by decide +kernel
theorem dX9_byteOf_4 : decode cX9_byteOf 4 = .ok (.imul, 1) := by decide +kernel
theorem dX9_byteOf_5 : decode cX9_byteOf 5 = .ok (.lshr, 1) := by decide +kernel
theorem dX9_byteOf_6 : decode cX9_byteOf 6 = .ok (.ldc2_w 196, 3) := by decide +kernel
theorem dX9_byteOf_9 : decode cX9_byteOf 9 = .ok (.land, 1) := by decide +kernel
theorem dX9_byteOf_10 : decode cX9_byteOf 10 = .ok (.l2i, 1) := by decide +kernel
theorem dX9_byteOf_11 : decode cX9_byteOf 11 = .ok (.ireturn, 1) := by decide +kernel
theorem dX9_toldBy_0 : decode cX9_toldBy 0 = .ok (.iconst 0, 1) := by decide +kernel
theorem dX9_toldBy_1 : decode cX9_toldBy 1 = .ok (.istore_n 2, 1) := by decide +kernel
theorem dX9_toldBy_2 : decode cX9_toldBy 2 = .ok (.iload_n 2, 1) := by decide +kernel
theorem dX9_toldBy_3 : decode cX9_toldBy 3 = .ok (.bipush 8, 2) := by decide +kernel
theorem dX9_toldBy_5 : decode cX9_toldBy 5 = .ok (.if_icmp .ge 35, 3) := by decide +kernel
theorem dX9_toldBy_8 : decode cX9_toldBy 8 = .ok (.lload_n 0, 1) := by decide +kernel
theorem dX9_toldBy_9 : decode cX9_toldBy 9 = .ok (.iload_n 2, 1) := by decide +kernel
theorem dX9_toldBy_10 : decode cX9_toldBy 10 = .ok (.invokestatic 198, 3) := by decide +kernel
theorem dX9_toldBy_13 : decode cX9_toldBy 13 = .ok (.ifCond .eq 27, 3) := by decide +kernel
theorem dX9_toldBy_16 : decode cX9_toldBy 16 = .ok (.lload_n 0, 1) := by decide +kernel
theorem dX9_toldBy_17 : decode cX9_toldBy 17 = .ok (.iload_n 2, 1) := by decide +kernel
theorem dX9_toldBy_18 : decode cX9_toldBy 18 = .ok (.invokestatic 198, 3) := by decide +kernel
theorem dX9_toldBy_21 : decode cX9_toldBy 21 = .ok (.bipush 33, 2) := by decide +kernel
theorem dX9_toldBy_23 : decode cX9_toldBy 23 = .ok (.bipush 126, 2) := by decide +kernel
theorem dX9_toldBy_25 : decode cX9_toldBy 25 = .ok (.invokestatic 41, 3) := by decide +kernel
theorem dX9_toldBy_28 : decode cX9_toldBy 28 = .ok (.ifCond .ne 6, 3) := by decide +kernel
theorem dX9_toldBy_31 : decode cX9_toldBy 31 = .ok (.bipush (-2), 2) := by decide +kernel
theorem dX9_toldBy_33 : decode cX9_toldBy 33 = .ok (.ireturn, 1) := by decide +kernel
theorem dX9_toldBy_34 : decode cX9_toldBy 34 = .ok (.iinc 2 1, 3) := by decide +kernel
theorem dX9_toldBy_37 : decode cX9_toldBy 37 = .ok (.goto (-35), 3) := by decide +kernel
theorem dX9_toldBy_40 : decode cX9_toldBy 40 = .ok (.iload_n 2, 1) := by decide +kernel
theorem dX9_toldBy_41 : decode cX9_toldBy 41 = .ok (.istore_n 3, 1) := by decide +kernel
theorem dX9_toldBy_42 : decode cX9_toldBy 42 = .ok (.iload_n 3, 1) := by decide +kernel
theorem dX9_toldBy_43 : decode cX9_toldBy 43 = .ok (.bipush 8, 2) := by decide +kernel
theorem dX9_toldBy_45 : decode cX9_toldBy 45 = .ok (.if_icmp .ge 20, 3) := by decide +kernel
theorem dX9_toldBy_48 : decode cX9_toldBy 48 = .ok (.lload_n 0, 1) := by decide +kernel
theorem dX9_toldBy_49 : decode cX9_toldBy 49 = .ok (.iload_n 3, 1) := by decide +kernel
theorem dX9_toldBy_50 : decode cX9_toldBy 50 = .ok (.invokestatic 198, 3) := by decide +kernel
theorem dX9_toldBy_53 : decode cX9_toldBy 53 = .ok (.ifCond .eq 6, 3) := by decide +kernel
theorem dX9_toldBy_56 : decode cX9_toldBy 56 = .ok (.bipush (-2), 2) := by decide +kernel
theorem dX9_toldBy_58 : decode cX9_toldBy 58 = .ok (.ireturn, 1) := by decide +kernel
theorem dX9_toldBy_59 : decode cX9_toldBy 59 = .ok (.iinc 3 1, 3) := by decide +kernel
theorem dX9_toldBy_62 : decode cX9_toldBy 62 = .ok (.goto (-20), 3) := by decide +kernel
theorem dX9_toldBy_65 : decode cX9_toldBy 65 = .ok (.iload_n 2, 1) := by decide +kernel
theorem dX9_toldBy_66 : decode cX9_toldBy 66 = .ok (.ifCond .ne 8, 3) := by decide +kernel
theorem dX9_toldBy_69 : decode cX9_toldBy 69 = .ok (.bipush (-2), 2) := by decide +kernel
theorem dX9_toldBy_71 : decode cX9_toldBy 71 = .ok (.goto 4, 3) := by decide +kernel
theorem dX9_toldBy_74 : decode cX9_toldBy 74 = .ok (.iload_n 2, 1) := by decide +kernel
theorem dX9_toldBy_75 : decode cX9_toldBy 75 = .ok (.ireturn, 1) := by decide +kernel
theorem dX9_put_0 : decode cX9_put 0 = .ok (.lload_n 1, 1) := by decide +kernel
theorem dX9_put_1 : decode cX9_put 1 = .ok (.invokestatic 202, 3) := by decide +kernel
theorem dX9_put_4 : decode cX9_put 4 = .ok (.istore_n 3, 1) := by decide +kernel
theorem dX9_put_5 : decode cX9_put 5 = .ok (.iload_n 3, 1) := by decide +kernel
theorem dX9_put_6 : decode cX9_put 6 = .ok (.ifCond .ge 5, 3) := by decide +kernel
theorem dX9_put_9 : decode cX9_put 9 = .ok (.iload_n 3, 1) := by decide +kernel
theorem dX9_put_10 : decode cX9_put 10 = .ok (.ireturn, 1) := by decide +kernel
theorem dX9_put_11 : decode cX9_put 11 = .ok (.aload_n 0, 1) := by decide +kernel
theorem dX9_put_12 : decode cX9_put 12 = .ok (.getfield 186, 3) := by decide +kernel
theorem dX9_put_15 : decode cX9_put 15 = .ok (.iload_n 3, 1) := by decide +kernel
theorem dX9_put_16 : decode cX9_put 16 = .ok (.iadd, 1) := by decide +kernel
theorem dX9_put_17 : decode cX9_put 17 = .ok (.bipush 80, 2) := by decide +kernel
theorem dX9_put_19 : decode cX9_put 19 = .ok (.if_icmp .le 6, 3) := by decide +kernel
theorem dX9_put_22 : decode cX9_put 22 = .ok (.bipush (-4), 2) := by decide +kernel
theorem dX9_put_24 : decode cX9_put 24 = .ok (.ireturn, 1) := by decide +kernel
theorem dX9_put_25 : decode cX9_put 25 = .ok (.iload_n 3, 1) := by decide +kernel
theorem dX9_put_26 : decode cX9_put 26 = .ok (.iconst 1, 1) := by decide +kernel
theorem dX9_put_27 : decode cX9_put 27 = .ok (.isub, 1) := by decide +kernel
theorem dX9_put_28 : decode cX9_put 28 = .ok (.istore 4, 2) := by decide +kernel
theorem dX9_put_30 : decode cX9_put 30 = .ok (.iload 4, 2) := by decide +kernel
theorem dX9_put_32 : decode cX9_put 32 = .ok (.ifCond .lt 34, 3) := by decide +kernel
theorem dX9_put_35 : decode cX9_put 35 = .ok (.aload_n 0, 1) := by decide +kernel
theorem dX9_put_36 : decode cX9_put 36 = .ok (.getfield 23, 3) := by decide +kernel
theorem dX9_put_39 : decode cX9_put 39 = .ok (.aload_n 0, 1) := by decide +kernel
theorem dX9_put_40 : decode cX9_put 40 = .ok (.getfield 186, 3) := by decide +kernel
theorem dX9_put_43 : decode cX9_put 43 = .ok (.lload_n 1, 1) := by decide +kernel
theorem dX9_put_44 : decode cX9_put 44 = .ok (.iload 4, 2) := by decide +kernel
theorem dX9_put_46 : decode cX9_put 46 = .ok (.invokestatic 198, 3) := by decide +kernel
theorem dX9_put_49 : decode cX9_put 49 = .ok (.iastore, 1) := by decide +kernel
theorem dX9_put_50 : decode cX9_put 50 = .ok (.aload_n 0, 1) := by decide +kernel
theorem dX9_put_51 : decode cX9_put 51 = .ok (.dup, 1) := by decide +kernel
theorem dX9_put_52 : decode cX9_put 52 = .ok (.getfield 186, 3) := by decide +kernel
theorem dX9_put_55 : decode cX9_put 55 = .ok (.iconst 1, 1) := by decide +kernel
theorem dX9_put_56 : decode cX9_put 56 = .ok (.iadd, 1) := by decide +kernel
theorem dX9_put_57 : decode cX9_put 57 = .ok (.putfield 186, 3) := by decide +kernel
theorem dX9_put_60 : decode cX9_put 60 = .ok (.iinc 4 (-1), 3) := by decide +kernel
theorem dX9_put_63 : decode cX9_put 63 = .ok (.goto (-33), 3) := by decide +kernel
theorem dX9_put_66 : decode cX9_put 66 = .ok (.aload_n 0, 1) := by decide +kernel
theorem dX9_put_67 : decode cX9_put 67 = .ok (.getfield 186, 3) := by decide +kernel
theorem dX9_put_70 : decode cX9_put 70 = .ok (.ireturn, 1) := by decide +kernel
theorem dX9_wipe_0 : decode cX9_wipe 0 = .ok (.aload_n 0, 1) := by decide +kernel
theorem dX9_wipe_1 : decode cX9_wipe 1 = .ok (.getfield 186, 3) := by decide +kernel
theorem dX9_wipe_4 : decode cX9_wipe 4 = .ok (.istore_n 1, 1) := by decide +kernel
theorem dX9_wipe_5 : decode cX9_wipe 5 = .ok (.aload_n 0, 1) := by decide +kernel
theorem dX9_wipe_6 : decode cX9_wipe 6 = .ok (.iconst 0, 1) := by decide +kernel
theorem dX9_wipe_7 : decode cX9_wipe 7 = .ok (.putfield 186, 3) := by decide +kernel
theorem dX9_wipe_10 : decode cX9_wipe 10 = .ok (.iload_n 1, 1) := by decide +kernel
theorem dX9_wipe_11 : decode cX9_wipe 11 = .ok (.ireturn, 1) := by decide +kernel
theorem dX9_isAt_0 : decode cX9_isAt 0 = .ok (.aload_n 0, 1) := by decide +kernel
theorem dX9_isAt_1 : decode cX9_isAt 1 = .ok (.getfield 206, 3) := by decide +kernel
theorem dX9_isAt_4 : decode cX9_isAt 4 = .ok (.aload_n 0, 1) := by decide +kernel
theorem dX9_isAt_5 : decode cX9_isAt 5 = .ok (.getfield 186, 3) := by decide +kernel
theorem dX9_isAt_8 : decode cX9_isAt 8 = .ok (.if_icmp .ge 24, 3) := by decide +kernel
theorem dX9_isAt_11 : decode cX9_isAt 11 = .ok (.aload_n 0, 1) := by decide +kernel
theorem dX9_isAt_12 : decode cX9_isAt 12 = .ok (.getfield 23, 3) := by decide +kernel
theorem dX9_isAt_15 : decode cX9_isAt 15 = .ok (.aload_n 0, 1) := by decide +kernel
theorem dX9_isAt_16 : decode cX9_isAt 16 = .ok (.getfield 206, 3) := by decide +kernel
theorem dX9_isAt_19 : decode cX9_isAt 19 = .ok (.iaload, 1) := by decide +kernel
theorem dX9_isAt_20 : decode cX9_isAt 20 = .ok (.iload_n 1, 1) := by decide +kernel
theorem dX9_isAt_21 : decode cX9_isAt 21 = .ok (.iload_n 2, 1) := by decide +kernel
theorem dX9_isAt_22 : decode cX9_isAt 22 = .ok (.invokestatic 41, 3) := by decide +kernel
theorem dX9_isAt_25 : decode cX9_isAt 25 = .ok (.ifCond .eq 7, 3) := by decide +kernel
theorem dX9_isAt_28 : decode cX9_isAt 28 = .ok (.iconst 1, 1) := by decide +kernel
theorem dX9_isAt_29 : decode cX9_isAt 29 = .ok (.goto 4, 3) := by decide +kernel
theorem dX9_isAt_32 : decode cX9_isAt 32 = .ok (.iconst 0, 1) := by decide +kernel
theorem dX9_isAt_33 : decode cX9_isAt 33 = .ok (.ireturn, 1) := by decide +kernel
theorem dX9_isSign_0 : decode cX9_isSign 0 = .ok (.aload_n 0, 1) := by decide +kernel
theorem dX9_isSign_1 : decode cX9_isSign 1 = .ok (.iload_n 1, 1) := by decide +kernel
theorem dX9_isSign_2 : decode cX9_isSign 2 = .ok (.iload_n 1, 1) := by decide +kernel
theorem dX9_isSign_3 : decode cX9_isSign 3 = .ok (.invokevirtual 209, 3) := by decide +kernel
theorem dX9_isSign_6 : decode cX9_isSign 6 = .ok (.istore_n 2, 1) := by decide +kernel
theorem dX9_isSign_7 : decode cX9_isSign 7 = .ok (.aload_n 0, 1) := by decide +kernel
theorem dX9_isSign_8 : decode cX9_isSign 8 = .ok (.dup, 1) := by decide +kernel
theorem dX9_isSign_9 : decode cX9_isSign 9 = .ok (.getfield 206, 3) := by decide +kernel
theorem dX9_isSign_12 : decode cX9_isSign 12 = .ok (.iload_n 2, 1) := by decide +kernel
theorem dX9_isSign_13 : decode cX9_isSign 13 = .ok (.ifCond .eq 7, 3) := by decide +kernel
theorem dX9_isSign_16 : decode cX9_isSign 16 = .ok (.iconst 1, 1) := by decide +kernel
theorem dX9_isSign_17 : decode cX9_isSign 17 = .ok (.goto 4, 3) := by decide +kernel
theorem dX9_isSign_20 : decode cX9_isSign 20 = .ok (.iconst 0, 1) := by decide +kernel
theorem dX9_isSign_21 : decode cX9_isSign 21 = .ok (.iadd, 1) := by decide +kernel
theorem dX9_isSign_22 : decode cX9_isSign 22 = .ok (.putfield 206, 3) := by decide +kernel
theorem dX9_isSign_25 : decode cX9_isSign 25 = .ok (.iload_n 2, 1) := by decide +kernel
theorem dX9_isSign_26 : decode cX9_isSign 26 = .ok (.ireturn, 1) := by decide +kernel
theorem dX9_isNumber_0 : decode cX9_isNumber 0 = .ok (.aload_n 0, 1) := by decide +kernel
theorem dX9_isNumber_1 : decode cX9_isNumber 1 = .ok (.bipush 48, 2) := by decide +kernel
theorem dX9_isNumber_3 : decode cX9_isNumber 3 = .ok (.bipush 57, 2) := by decide +kernel
theorem dX9_isNumber_5 : decode cX9_isNumber 5 = .ok (.invokevirtual 209, 3) := by decide +kernel
theorem dX9_isNumber_8 : decode cX9_isNumber 8 = .ok (.ifCond .ne 5, 3) := by decide +kernel
theorem dX9_isNumber_11 : decode cX9_isNumber 11 = .ok (.iconst 0, 1) := by decide +kernel
theorem dX9_isNumber_12 : decode cX9_isNumber 12 = .ok (.ireturn, 1) := by decide +kernel
theorem dX9_isNumber_13 : decode cX9_isNumber 13 = .ok (.aload_n 0, 1) := by decide +kernel
theorem dX9_isNumber_14 : decode cX9_isNumber 14 = .ok (.getfield 23, 3) := by decide +kernel
theorem dX9_isNumber_17 : decode cX9_isNumber 17 = .ok (.aload_n 0, 1) := by decide +kernel
theorem dX9_isNumber_18 : decode cX9_isNumber 18 = .ok (.getfield 206, 3) := by decide +kernel
theorem dX9_isNumber_21 : decode cX9_isNumber 21 = .ok (.iaload, 1) := by decide +kernel
theorem dX9_isNumber_22 : decode cX9_isNumber 22 = .ok (.bipush 48, 2) := by decide +kernel
theorem dX9_isNumber_24 : decode cX9_isNumber 24 = .ok (.isub, 1) := by decide +kernel
theorem dX9_isNumber_25 : decode cX9_isNumber 25 = .ok (.istore_n 2, 1) := by decide +kernel
theorem dX9_isNumber_26 : decode cX9_isNumber 26 = .ok (.aload_n 0, 1) := by decide +kernel
theorem dX9_isNumber_27 : decode cX9_isNumber 27 = .ok (.dup, 1) := by decide +kernel
theorem dX9_isNumber_28 : decode cX9_isNumber 28 = .ok (.getfield 206, 3) := by decide +kernel
theorem dX9_isNumber_31 : decode cX9_isNumber 31 = .ok (.iconst 1, 1) := by decide +kernel
theorem dX9_isNumber_32 : decode cX9_isNumber 32 = .ok (.iadd, 1) := by decide +kernel
theorem dX9_isNumber_33 : decode cX9_isNumber 33 = .ok (.putfield 206, 3) := by decide +kernel
theorem dX9_isNumber_36 : decode cX9_isNumber 36 = .ok (.iload_n 2, 1) := by decide +kernel
theorem dX9_isNumber_37 : decode cX9_isNumber 37 = .ok (.ifCond .le 42, 3) := by decide +kernel
theorem dX9_isNumber_40 : decode cX9_isNumber 40 = .ok (.aload_n 0, 1) := by decide +kernel
theorem dX9_isNumber_41 : decode cX9_isNumber 41 = .ok (.bipush 48, 2) := by decide +kernel
theorem dX9_isNumber_43 : decode cX9_isNumber 43 = .ok (.bipush 57, 2) := by decide +kernel
theorem dX9_isNumber_45 : decode cX9_isNumber 45 = .ok (.invokevirtual 209, 3) := by decide +kernel
theorem dX9_isNumber_48 : decode cX9_isNumber 48 = .ok (.ifCond .eq 31, 3) := by decide +kernel
theorem dX9_isNumber_51 : decode cX9_isNumber 51 = .ok (.bipush 10, 2) := by decide +kernel
theorem dX9_isNumber_53 : decode cX9_isNumber 53 = .ok (.iload_n 2, 1) := by decide +kernel
theorem dX9_isNumber_54 : decode cX9_isNumber 54 = .ok (.imul, 1) := by decide +kernel
theorem dX9_isNumber_55 : decode cX9_isNumber 55 = .ok (.aload_n 0, 1) := by decide +kernel
theorem dX9_isNumber_56 : decode cX9_isNumber 56 = .ok (.getfield 23, 3) := by decide +kernel
theorem dX9_isNumber_59 : decode cX9_isNumber 59 = .ok (.aload_n 0, 1) := by decide +kernel
theorem dX9_isNumber_60 : decode cX9_isNumber 60 = .ok (.getfield 206, 3) := by decide +kernel
theorem dX9_isNumber_63 : decode cX9_isNumber 63 = .ok (.iaload, 1) := by decide +kernel
theorem dX9_isNumber_64 : decode cX9_isNumber 64 = .ok (.iadd, 1) := by decide +kernel
theorem dX9_isNumber_65 : decode cX9_isNumber 65 = .ok (.bipush 48, 2) := by decide +kernel
theorem dX9_isNumber_67 : decode cX9_isNumber 67 = .ok (.isub, 1) := by decide +kernel
theorem dX9_isNumber_68 : decode cX9_isNumber 68 = .ok (.istore_n 2, 1) := by decide +kernel
theorem dX9_isNumber_69 : decode cX9_isNumber 69 = .ok (.aload_n 0, 1) := by decide +kernel
theorem dX9_isNumber_70 : decode cX9_isNumber 70 = .ok (.dup, 1) := by decide +kernel
theorem dX9_isNumber_71 : decode cX9_isNumber 71 = .ok (.getfield 206, 3) := by decide +kernel
theorem dX9_isNumber_74 : decode cX9_isNumber 74 = .ok (.iconst 1, 1) := by decide +kernel
theorem dX9_isNumber_75 : decode cX9_isNumber 75 = .ok (.iadd, 1) := by decide +kernel
theorem dX9_isNumber_76 : decode cX9_isNumber 76 = .ok (.putfield 206, 3) := by decide +kernel
theorem dX9_isNumber_79 : decode cX9_isNumber 79 = .ok (.aload_n 0, 1) := by decide +kernel
theorem dX9_isNumber_80 : decode cX9_isNumber 80 = .ok (.getfield 26, 3) := by decide +kernel
theorem dX9_isNumber_83 : decode cX9_isNumber 83 = .ok (.iconst 4, 1) := by decide +kernel
theorem dX9_isNumber_84 : decode cX9_isNumber 84 = .ok (.aload_n 0, 1) := by decide +kernel
theorem dX9_isNumber_85 : decode cX9_isNumber 85 = .ok (.getfield 212, 3) := by decide +kernel
theorem dX9_isNumber_88 : decode cX9_isNumber 88 = .ok (.imul, 1) := by decide +kernel
theorem dX9_isNumber_89 : decode cX9_isNumber 89 = .ok (.iload_n 1, 1) := by decide +kernel
theorem dX9_isNumber_90 : decode cX9_isNumber 90 = .ok (.iadd, 1) := by decide +kernel
theorem dX9_isNumber_91 : decode cX9_isNumber 91 = .ok (.iload_n 2, 1) := by decide +kernel
theorem dX9_isNumber_92 : decode cX9_isNumber 92 = .ok (.iastore, 1) := by decide +kernel
theorem dX9_isNumber_93 : decode cX9_isNumber 93 = .ok (.iconst 1, 1) := by decide +kernel
theorem dX9_isNumber_94 : decode cX9_isNumber 94 = .ok (.ireturn, 1) := by decide +kernel
theorem dX9_isWord_0 : decode cX9_isWord 0 = .ok (.aload_n 0, 1) := by decide +kernel
theorem dX9_isWord_1 : decode cX9_isWord 1 = .ok (.getfield 26, 3) := by decide +kernel
theorem dX9_isWord_4 : decode cX9_isWord 4 = .ok (.iconst 4, 1) := by decide +kernel
theorem dX9_isWord_5 : decode cX9_isWord 5 = .ok (.aload_n 0, 1) := by decide +kernel
theorem dX9_isWord_6 : decode cX9_isWord 6 = .ok (.getfield 212, 3) := by decide +kernel
theorem dX9_isWord_9 : decode cX9_isWord 9 = .ok (.imul, 1) := by decide +kernel
theorem dX9_isWord_10 : decode cX9_isWord 10 = .ok (.iconst 2, 1) := by decide +kernel
theorem dX9_isWord_11 : decode cX9_isWord 11 = .ok (.iadd, 1) := by decide +kernel
theorem dX9_isWord_12 : decode cX9_isWord 12 = .ok (.aload_n 0, 1) := by decide +kernel
theorem dX9_isWord_13 : decode cX9_isWord 13 = .ok (.getfield 206, 3) := by decide +kernel
theorem dX9_isWord_16 : decode cX9_isWord 16 = .ok (.iastore, 1) := by decide +kernel
theorem dX9_isWord_17 : decode cX9_isWord 17 = .ok (.aload_n 0, 1) := by decide +kernel
theorem dX9_isWord_18 : decode cX9_isWord 18 = .ok (.bipush 97, 2) := by decide +kernel
theorem dX9_isWord_20 : decode cX9_isWord 20 = .ok (.bipush 122, 2) := by decide +kernel
theorem dX9_isWord_22 : decode cX9_isWord 22 = .ok (.invokevirtual 209, 3) := by decide +kernel
theorem dX9_isWord_25 : decode cX9_isWord 25 = .ok (.ifCond .eq 16, 3) := by decide +kernel
theorem dX9_isWord_28 : decode cX9_isWord 28 = .ok (.aload_n 0, 1) := by decide +kernel
theorem dX9_isWord_29 : decode cX9_isWord 29 = .ok (.dup, 1) := by decide +kernel
theorem dX9_isWord_30 : decode cX9_isWord 30 = .ok (.getfield 206, 3) := by decide +kernel
theorem dX9_isWord_33 : decode cX9_isWord 33 = .ok (.iconst 1, 1) := by decide +kernel
theorem dX9_isWord_34 : decode cX9_isWord 34 = .ok (.iadd, 1) := by decide +kernel
theorem dX9_isWord_35 : decode cX9_isWord 35 = .ok (.putfield 206, 3) := by decide +kernel
theorem dX9_isWord_38 : decode cX9_isWord 38 = .ok (.goto (-21), 3) := by decide +kernel
theorem dX9_isWord_41 : decode cX9_isWord 41 = .ok (.aload_n 0, 1) := by decide +kernel
theorem dX9_isWord_42 : decode cX9_isWord 42 = .ok (.getfield 26, 3) := by decide +kernel
theorem dX9_isWord_45 : decode cX9_isWord 45 = .ok (.iconst 4, 1) := by decide +kernel
theorem dX9_isWord_46 : decode cX9_isWord 46 = .ok (.aload_n 0, 1) := by decide +kernel
theorem dX9_isWord_47 : decode cX9_isWord 47 = .ok (.getfield 212, 3) := by decide +kernel
theorem dX9_isWord_50 : decode cX9_isWord 50 = .ok (.imul, 1) := by decide +kernel
theorem dX9_isWord_51 : decode cX9_isWord 51 = .ok (.iconst 3, 1) := by decide +kernel
theorem dX9_isWord_52 : decode cX9_isWord 52 = .ok (.iadd, 1) := by decide +kernel
theorem dX9_isWord_53 : decode cX9_isWord 53 = .ok (.aload_n 0, 1) := by decide +kernel
theorem dX9_isWord_54 : decode cX9_isWord 54 = .ok (.getfield 206, 3) := by decide +kernel
theorem dX9_isWord_57 : decode cX9_isWord 57 = .ok (.aload_n 0, 1) := by decide +kernel
theorem dX9_isWord_58 : decode cX9_isWord 58 = .ok (.getfield 26, 3) := by decide +kernel
theorem dX9_isWord_61 : decode cX9_isWord 61 = .ok (.iconst 4, 1) := by decide +kernel
theorem dX9_isWord_62 : decode cX9_isWord 62 = .ok (.aload_n 0, 1) := by decide +kernel
theorem dX9_isWord_63 : decode cX9_isWord 63 = .ok (.getfield 212, 3) := by decide +kernel
theorem dX9_isWord_66 : decode cX9_isWord 66 = .ok (.imul, 1) := by decide +kernel
theorem dX9_isWord_67 : decode cX9_isWord 67 = .ok (.iconst 2, 1) := by decide +kernel
theorem dX9_isWord_68 : decode cX9_isWord 68 = .ok (.iadd, 1) := by decide +kernel
theorem dX9_isWord_69 : decode cX9_isWord 69 = .ok (.iaload, 1) := by decide +kernel
theorem dX9_isWord_70 : decode cX9_isWord 70 = .ok (.isub, 1) := by decide +kernel
theorem dX9_isWord_71 : decode cX9_isWord 71 = .ok (.iastore, 1) := by decide +kernel
theorem dX9_isWord_72 : decode cX9_isWord 72 = .ok (.aload_n 0, 1) := by decide +kernel
theorem dX9_isWord_73 : decode cX9_isWord 73 = .ok (.getfield 26, 3) := by decide +kernel
theorem dX9_isWord_76 : decode cX9_isWord 76 = .ok (.iconst 4, 1) := by decide +kernel
theorem dX9_isWord_77 : decode cX9_isWord 77 = .ok (.aload_n 0, 1) := by decide +kernel
theorem dX9_isWord_78 : decode cX9_isWord 78 = .ok (.getfield 212, 3) := by decide +kernel
theorem dX9_isWord_81 : decode cX9_isWord 81 = .ok (.imul, 1) := by decide +kernel
theorem dX9_isWord_82 : decode cX9_isWord 82 = .ok (.iconst 3, 1) := by decide +kernel
theorem dX9_isWord_83 : decode cX9_isWord 83 = .ok (.iadd, 1) := by decide +kernel
theorem dX9_isWord_84 : decode cX9_isWord 84 = .ok (.iaload, 1) := by decide +kernel
theorem dX9_isWord_85 : decode cX9_isWord 85 = .ok (.ifCond .le 7, 3) := by decide +kernel
theorem dX9_isWord_88 : decode cX9_isWord 88 = .ok (.iconst 1, 1) := by decide +kernel
theorem dX9_isWord_89 : decode cX9_isWord 89 = .ok (.goto 4, 3) := by decide +kernel
theorem dX9_isWord_92 : decode cX9_isWord 92 = .ok (.iconst 0, 1) := by decide +kernel
theorem dX9_isWord_93 : decode cX9_isWord 93 = .ok (.ireturn, 1) := by decide +kernel
theorem dX9_isSpan_0 : decode cX9_isSpan 0 = .ok (.aload_n 0, 1) := by decide +kernel
theorem dX9_isSpan_1 : decode cX9_isSpan 1 = .ok (.iconst 1, 1) := by decide +kernel
theorem dX9_isSpan_2 : decode cX9_isSpan 2 = .ok (.invokevirtual 215, 3) := by decide +kernel
theorem dX9_isSpan_5 : decode cX9_isSpan 5 = .ok (.ifCond .eq 24, 3) := by decide +kernel
theorem dX9_isSpan_8 : decode cX9_isSpan 8 = .ok (.aload_n 0, 1) := by decide +kernel
theorem dX9_isSpan_9 : decode cX9_isSpan 9 = .ok (.bipush 45, 2) := by decide +kernel
theorem dX9_isSpan_11 : decode cX9_isSpan 11 = .ok (.invokevirtual 218, 3) := by decide +kernel
theorem dX9_isSpan_14 : decode cX9_isSpan 14 = .ok (.ifCond .eq 15, 3) := by decide +kernel
theorem dX9_isSpan_17 : decode cX9_isSpan 17 = .ok (.aload_n 0, 1) := by decide +kernel
theorem dX9_isSpan_18 : decode cX9_isSpan 18 = .ok (.iconst 2, 1) := by decide +kernel
theorem dX9_isSpan_19 : decode cX9_isSpan 19 = .ok (.invokevirtual 215, 3) := by decide +kernel
theorem dX9_isSpan_22 : decode cX9_isSpan 22 = .ok (.ifCond .eq 7, 3) := by decide +kernel
theorem dX9_isSpan_25 : decode cX9_isSpan 25 = .ok (.iconst 1, 1) := by decide +kernel
theorem dX9_isSpan_26 : decode cX9_isSpan 26 = .ok (.goto 4, 3) := by decide +kernel
theorem dX9_isSpan_29 : decode cX9_isSpan 29 = .ok (.iconst 0, 1) := by decide +kernel
theorem dX9_isSpan_30 : decode cX9_isSpan 30 = .ok (.ireturn, 1) := by decide +kernel
theorem dX9_isOrder_0 : decode cX9_isOrder 0 = .ok (.aload_n 0, 1) := by decide +kernel
theorem dX9_isOrder_1 : decode cX9_isOrder 1 = .ok (.getfield 206, 3) := by decide +kernel
theorem dX9_isOrder_4 : decode cX9_isOrder 4 = .ok (.aload_n 0, 1) := by decide +kernel
theorem dX9_isOrder_5 : decode cX9_isOrder 5 = .ok (.getfield 186, 3) := by decide +kernel
theorem dX9_isOrder_8 : decode cX9_isOrder 8 = .ok (.if_icmp .ge 15, 3) := by decide +kernel
theorem dX9_isOrder_11 : decode cX9_isOrder 11 = .ok (.aload_n 0, 1) := by decide +kernel
theorem dX9_isOrder_12 : decode cX9_isOrder 12 = .ok (.getfield 23, 3) := by decide +kernel
theorem dX9_isOrder_15 : decode cX9_isOrder 15 = .ok (.aload_n 0, 1) := by decide +kernel
theorem dX9_isOrder_16 : decode cX9_isOrder 16 = .ok (.getfield 206, 3) := by decide +kernel
theorem dX9_isOrder_19 : decode cX9_isOrder 19 = .ok (.iaload, 1) := by decide +kernel
theorem dX9_isOrder_20 : decode cX9_isOrder 20 = .ok (.goto 4, 3) := by decide +kernel
theorem dX9_isOrder_23 : decode cX9_isOrder 23 = .ok (.iconst 0, 1) := by decide +kernel
theorem dX9_isOrder_24 : decode cX9_isOrder 24 = .ok (.istore_n 1, 1) := by decide +kernel
theorem dX9_isOrder_25 : decode cX9_isOrder 25 = .ok (.aload_n 0, 1) := by decide +kernel
theorem dX9_isOrder_26 : decode cX9_isOrder 26 = .ok (.getfield 26, 3) := by decide +kernel
theorem dX9_isOrder_29 : decode cX9_isOrder 29 = .ok (.iconst 4, 1) := by decide +kernel
theorem dX9_isOrder_30 : decode cX9_isOrder 30 = .ok (.aload_n 0, 1) := by decide +kernel
theorem dX9_isOrder_31 : decode cX9_isOrder 31 = .ok (.getfield 212, 3) := by decide +kernel
theorem dX9_isOrder_34 : decode cX9_isOrder 34 = .ok (.imul, 1) := by decide +kernel
theorem dX9_isOrder_35 : decode cX9_isOrder 35 = .ok (.iload_n 1, 1) := by decide +kernel
theorem dX9_isOrder_36 : decode cX9_isOrder 36 = .ok (.iastore, 1) := by decide +kernel
theorem dX9_isOrder_37 : decode cX9_isOrder 37 = .ok (.iload_n 1, 1) := by decide +kernel
theorem dX9_isOrder_38 : decode cX9_isOrder 38 = .ok (.lookupswitch 177 #[(43, 66), (45, 106), (99, 161), (109, 121), (110, 106), (114, 161), (120, 161)], 66) := by decide +kernel
theorem dX9_isOrder_104 : decode cX9_isOrder 104 = .ok (.aload_n 0, 1) := by decide +kernel
theorem dX9_isOrder_105 : decode cX9_isOrder 105 = .ok (.dup, 1) := by decide +kernel
theorem dX9_isOrder_106 : decode cX9_isOrder 106 = .ok (.getfield 206, 3) := by decide +kernel
theorem dX9_isOrder_109 : decode cX9_isOrder 109 = .ok (.iconst 1, 1) := by decide +kernel
theorem dX9_isOrder_110 : decode cX9_isOrder 110 = .ok (.iadd, 1) := by decide +kernel
theorem dX9_isOrder_111 : decode cX9_isOrder 111 = .ok (.putfield 206, 3) := by decide +kernel
theorem dX9_isOrder_114 : decode cX9_isOrder 114 = .ok (.aload_n 0, 1) := by decide +kernel
theorem dX9_isOrder_115 : decode cX9_isOrder 115 = .ok (.iconst 1, 1) := by decide +kernel
theorem dX9_isOrder_116 : decode cX9_isOrder 116 = .ok (.invokevirtual 215, 3) := by decide +kernel
theorem dX9_isOrder_119 : decode cX9_isOrder 119 = .ok (.ifCond .eq 23, 3) := by decide +kernel
theorem dX9_isOrder_122 : decode cX9_isOrder 122 = .ok (.aload_n 0, 1) := by decide +kernel
theorem dX9_isOrder_123 : decode cX9_isOrder 123 = .ok (.bipush 61, 2) := by decide +kernel
theorem dX9_isOrder_125 : decode cX9_isOrder 125 = .ok (.invokevirtual 218, 3) := by decide +kernel
theorem dX9_isOrder_128 : decode cX9_isOrder 128 = .ok (.ifCond .eq 14, 3) := by decide +kernel
theorem dX9_isOrder_131 : decode cX9_isOrder 131 = .ok (.aload_n 0, 1) := by decide +kernel
theorem dX9_isOrder_132 : decode cX9_isOrder 132 = .ok (.invokevirtual 221, 3) := by decide +kernel
theorem dX9_isOrder_135 : decode cX9_isOrder 135 = .ok (.ifCond .eq 7, 3) := by decide +kernel
theorem dX9_isOrder_138 : decode cX9_isOrder 138 = .ok (.iconst 1, 1) := by decide +kernel
theorem dX9_isOrder_139 : decode cX9_isOrder 139 = .ok (.goto 4, 3) := by decide +kernel
theorem dX9_isOrder_142 : decode cX9_isOrder 142 = .ok (.iconst 0, 1) := by decide +kernel
theorem dX9_isOrder_143 : decode cX9_isOrder 143 = .ok (.ireturn, 1) := by decide +kernel
theorem dX9_isOrder_144 : decode cX9_isOrder 144 = .ok (.aload_n 0, 1) := by decide +kernel
theorem dX9_isOrder_145 : decode cX9_isOrder 145 = .ok (.dup, 1) := by decide +kernel
theorem dX9_isOrder_146 : decode cX9_isOrder 146 = .ok (.getfield 206, 3) := by decide +kernel
theorem dX9_isOrder_149 : decode cX9_isOrder 149 = .ok (.iconst 1, 1) := by decide +kernel
theorem dX9_isOrder_150 : decode cX9_isOrder 150 = .ok (.iadd, 1) := by decide +kernel
theorem dX9_isOrder_151 : decode cX9_isOrder 151 = .ok (.putfield 206, 3) := by decide +kernel
theorem dX9_isOrder_154 : decode cX9_isOrder 154 = .ok (.aload_n 0, 1) := by decide +kernel
theorem dX9_isOrder_155 : decode cX9_isOrder 155 = .ok (.invokevirtual 225, 3) := by decide +kernel
theorem dX9_isOrder_158 : decode cX9_isOrder 158 = .ok (.ireturn, 1) := by decide +kernel
theorem dX9_isOrder_159 : decode cX9_isOrder 159 = .ok (.aload_n 0, 1) := by decide +kernel
theorem dX9_isOrder_160 : decode cX9_isOrder 160 = .ok (.dup, 1) := by decide +kernel
theorem dX9_isOrder_161 : decode cX9_isOrder 161 = .ok (.getfield 206, 3) := by decide +kernel
theorem dX9_isOrder_164 : decode cX9_isOrder 164 = .ok (.iconst 1, 1) := by decide +kernel
theorem dX9_isOrder_165 : decode cX9_isOrder 165 = .ok (.iadd, 1) := by decide +kernel
theorem dX9_isOrder_166 : decode cX9_isOrder 166 = .ok (.putfield 206, 3) := by decide +kernel
theorem dX9_isOrder_169 : decode cX9_isOrder 169 = .ok (.aload_n 0, 1) := by decide +kernel
theorem dX9_isOrder_170 : decode cX9_isOrder 170 = .ok (.invokevirtual 225, 3) := by decide +kernel
theorem dX9_isOrder_173 : decode cX9_isOrder 173 = .ok (.ifCond .eq 24, 3) := by decide +kernel
theorem dX9_isOrder_176 : decode cX9_isOrder 176 = .ok (.aload_n 0, 1) := by decide +kernel
theorem dX9_isOrder_177 : decode cX9_isOrder 177 = .ok (.bipush 62, 2) := by decide +kernel
theorem dX9_isOrder_179 : decode cX9_isOrder 179 = .ok (.invokevirtual 218, 3) := by decide +kernel
theorem dX9_isOrder_182 : decode cX9_isOrder 182 = .ok (.ifCond .eq 15, 3) := by decide +kernel
theorem dX9_isOrder_185 : decode cX9_isOrder 185 = .ok (.aload_n 0, 1) := by decide +kernel
theorem dX9_isOrder_186 : decode cX9_isOrder 186 = .ok (.iconst 3, 1) := by decide +kernel
theorem dX9_isOrder_187 : decode cX9_isOrder 187 = .ok (.invokevirtual 215, 3) := by decide +kernel
theorem dX9_isOrder_190 : decode cX9_isOrder 190 = .ok (.ifCond .eq 7, 3) := by decide +kernel
theorem dX9_isOrder_193 : decode cX9_isOrder 193 = .ok (.iconst 1, 1) := by decide +kernel
theorem dX9_isOrder_194 : decode cX9_isOrder 194 = .ok (.goto 4, 3) := by decide +kernel
theorem dX9_isOrder_197 : decode cX9_isOrder 197 = .ok (.iconst 0, 1) := by decide +kernel
theorem dX9_isOrder_198 : decode cX9_isOrder 198 = .ok (.ireturn, 1) := by decide +kernel
theorem dX9_isOrder_199 : decode cX9_isOrder 199 = .ok (.aload_n 0, 1) := by decide +kernel
theorem dX9_isOrder_200 : decode cX9_isOrder 200 = .ok (.dup, 1) := by decide +kernel
theorem dX9_isOrder_201 : decode cX9_isOrder 201 = .ok (.getfield 206, 3) := by decide +kernel
theorem dX9_isOrder_204 : decode cX9_isOrder 204 = .ok (.iconst 1, 1) := by decide +kernel
theorem dX9_isOrder_205 : decode cX9_isOrder 205 = .ok (.iadd, 1) := by decide +kernel
theorem dX9_isOrder_206 : decode cX9_isOrder 206 = .ok (.putfield 206, 3) := by decide +kernel
theorem dX9_isOrder_209 : decode cX9_isOrder 209 = .ok (.aload_n 0, 1) := by decide +kernel
theorem dX9_isOrder_210 : decode cX9_isOrder 210 = .ok (.iconst 1, 1) := by decide +kernel
theorem dX9_isOrder_211 : decode cX9_isOrder 211 = .ok (.invokevirtual 215, 3) := by decide +kernel
theorem dX9_isOrder_214 : decode cX9_isOrder 214 = .ok (.ireturn, 1) := by decide +kernel
theorem dX9_isOrder_215 : decode cX9_isOrder 215 = .ok (.iconst 0, 1) := by decide +kernel
theorem dX9_isOrder_216 : decode cX9_isOrder 216 = .ok (.ireturn, 1) := by decide +kernel
theorem dX9_isText_0 : decode cX9_isText 0 = .ok (.aload_n 0, 1) := by decide +kernel
theorem dX9_isText_1 : decode cX9_isText 1 = .ok (.iconst 0, 1) := by decide +kernel
theorem dX9_isText_2 : decode cX9_isText 2 = .ok (.putfield 206, 3) := by decide +kernel
theorem dX9_isText_5 : decode cX9_isText 5 = .ok (.aload_n 0, 1) := by decide +kernel
theorem dX9_isText_6 : decode cX9_isText 6 = .ok (.iconst 0, 1) := by decide +kernel
theorem dX9_isText_7 : decode cX9_isText 7 = .ok (.putfield 212, 3) := by decide +kernel
theorem dX9_isText_10 : decode cX9_isText 10 = .ok (.iconst 1, 1) := by decide +kernel
theorem dX9_isText_11 : decode cX9_isText 11 = .ok (.istore_n 1, 1) := by decide +kernel
theorem dX9_isText_12 : decode cX9_isText 12 = .ok (.iload_n 1, 1) := by decide +kernel
theorem dX9_isText_13 : decode cX9_isText 13 = .ok (.ifCond .eq 32, 3) := by decide +kernel
theorem dX9_isText_16 : decode cX9_isText 16 = .ok (.aload_n 0, 1) := by decide +kernel
theorem dX9_isText_17 : decode cX9_isText 17 = .ok (.invokevirtual 228, 3) := by decide +kernel
theorem dX9_isText_20 : decode cX9_isText 20 = .ok (.ifCond .ne 5, 3) := by decide +kernel
theorem dX9_isText_23 : decode cX9_isText 23 = .ok (.iconst 0, 1) := by decide +kernel
theorem dX9_isText_24 : decode cX9_isText 24 = .ok (.ireturn, 1) := by decide +kernel
theorem dX9_isText_25 : decode cX9_isText 25 = .ok (.aload_n 0, 1) := by decide +kernel
theorem dX9_isText_26 : decode cX9_isText 26 = .ok (.dup, 1) := by decide +kernel
theorem dX9_isText_27 : decode cX9_isText 27 = .ok (.getfield 212, 3) := by decide +kernel
theorem dX9_isText_30 : decode cX9_isText 30 = .ok (.iconst 1, 1) := by decide +kernel
theorem dX9_isText_31 : decode cX9_isText 31 = .ok (.iadd, 1) := by decide +kernel
theorem dX9_isText_32 : decode cX9_isText 32 = .ok (.putfield 212, 3) := by decide +kernel
theorem dX9_isText_35 : decode cX9_isText 35 = .ok (.aload_n 0, 1) := by decide +kernel
theorem dX9_isText_36 : decode cX9_isText 36 = .ok (.bipush 59, 2) := by decide +kernel
theorem dX9_isText_38 : decode cX9_isText 38 = .ok (.invokevirtual 218, 3) := by decide +kernel
theorem dX9_isText_41 : decode cX9_isText 41 = .ok (.istore_n 1, 1) := by decide +kernel
theorem dX9_isText_42 : decode cX9_isText 42 = .ok (.goto (-30), 3) := by decide +kernel
theorem dX9_isText_45 : decode cX9_isText 45 = .ok (.aload_n 0, 1) := by decide +kernel
theorem dX9_isText_46 : decode cX9_isText 46 = .ok (.getfield 206, 3) := by decide +kernel
theorem dX9_isText_49 : decode cX9_isText 49 = .ok (.aload_n 0, 1) := by decide +kernel
theorem dX9_isText_50 : decode cX9_isText 50 = .ok (.getfield 186, 3) := by decide +kernel
theorem dX9_isText_53 : decode cX9_isText 53 = .ok (.if_icmp .ne 7, 3) := by decide +kernel
theorem dX9_isText_56 : decode cX9_isText 56 = .ok (.iconst 1, 1) := by decide +kernel
theorem dX9_isText_57 : decode cX9_isText 57 = .ok (.goto 4, 3) := by decide +kernel
theorem dX9_isText_60 : decode cX9_isText 60 = .ok (.iconst 0, 1) := by decide +kernel
theorem dX9_isText_61 : decode cX9_isText 61 = .ok (.ireturn, 1) := by decide +kernel
theorem dX9_fault_0 : decode cX9_fault 0 = .ok (.aload_n 0, 1) := by decide +kernel
theorem dX9_fault_1 : decode cX9_fault 1 = .ok (.invokevirtual 231, 3) := by decide +kernel
theorem dX9_fault_4 : decode cX9_fault 4 = .ok (.ifCond .eq 8, 3) := by decide +kernel
theorem dX9_fault_7 : decode cX9_fault 7 = .ok (.bipush (-6), 2) := by decide +kernel
theorem dX9_fault_9 : decode cX9_fault 9 = .ok (.goto 7, 3) := by decide +kernel
theorem dX9_fault_12 : decode cX9_fault 12 = .ok (.aload_n 0, 1) := by decide +kernel
theorem dX9_fault_13 : decode cX9_fault 13 = .ok (.getfield 206, 3) := by decide +kernel
theorem dX9_fault_16 : decode cX9_fault 16 = .ok (.ireturn, 1) := by decide +kernel
theorem dX9_writes_0 : decode cX9_writes 0 = .ok (.iconst 0, 1) := by decide +kernel
theorem dX9_writes_1 : decode cX9_writes 1 = .ok (.istore 4, 2) := by decide +kernel
theorem dX9_writes_3 : decode cX9_writes 3 = .ok (.iload 4, 2) := by decide +kernel
theorem dX9_writes_5 : decode cX9_writes 5 = .ok (.iload_n 3, 1) := by decide +kernel
theorem dX9_writes_6 : decode cX9_writes 6 = .ok (.if_icmp .ge 49, 3) := by decide +kernel
theorem dX9_writes_9 : decode cX9_writes 9 = .ok (.aload_n 0, 1) := by decide +kernel
theorem dX9_writes_10 : decode cX9_writes 10 = .ok (.getfield 23, 3) := by decide +kernel
theorem dX9_writes_13 : decode cX9_writes 13 = .ok (.iload_n 2, 1) := by decide +kernel
theorem dX9_writes_14 : decode cX9_writes 14 = .ok (.iload 4, 2) := by decide +kernel
theorem dX9_writes_16 : decode cX9_writes 16 = .ok (.iadd, 1) := by decide +kernel
theorem dX9_writes_17 : decode cX9_writes 17 = .ok (.iaload, 1) := by decide +kernel
theorem dX9_writes_18 : decode cX9_writes 18 = .ok (.bipush 97, 2) := by decide +kernel
theorem dX9_writes_20 : decode cX9_writes 20 = .ok (.isub, 1) := by decide +kernel
theorem dX9_writes_21 : decode cX9_writes 21 = .ok (.istore 5, 2) := by decide +kernel
theorem dX9_writes_23 : decode cX9_writes 23 = .ok (.aload_n 0, 1) := by decide +kernel
theorem dX9_writes_24 : decode cX9_writes 24 = .ok (.iload_n 1, 1) := by decide +kernel
theorem dX9_writes_25 : decode cX9_writes 25 = .ok (.iload 4, 2) := by decide +kernel
theorem dX9_writes_27 : decode cX9_writes 27 = .ok (.iadd, 1) := by decide +kernel
theorem dX9_writes_28 : decode cX9_writes 28 = .ok (.iload 5, 2) := by decide +kernel
theorem dX9_writes_30 : decode cX9_writes 30 = .ok (.invokevirtual 94, 3) := by decide +kernel
theorem dX9_writes_33 : decode cX9_writes 33 = .ok (.ifCond .eq 5, 3) := by decide +kernel
theorem dX9_writes_36 : decode cX9_writes 36 = .ok (.iconst 0, 1) := by decide +kernel
theorem dX9_writes_37 : decode cX9_writes 37 = .ok (.ireturn, 1) := by decide +kernel
theorem dX9_writes_38 : decode cX9_writes 38 = .ok (.aload_n 0, 1) := by decide +kernel
theorem dX9_writes_39 : decode cX9_writes 39 = .ok (.iload_n 1, 1) := by decide +kernel
theorem dX9_writes_40 : decode cX9_writes 40 = .ok (.iload 4, 2) := by decide +kernel
theorem dX9_writes_42 : decode cX9_writes 42 = .ok (.iadd, 1) := by decide +kernel
theorem dX9_writes_43 : decode cX9_writes 43 = .ok (.iload 5, 2) := by decide +kernel
theorem dX9_writes_45 : decode cX9_writes 45 = .ok (.iconst 0, 1) := by decide +kernel
theorem dX9_writes_46 : decode cX9_writes 46 = .ok (.invokevirtual 97, 3) := by decide +kernel
theorem dX9_writes_49 : decode cX9_writes 49 = .ok (.iinc 4 1, 3) := by decide +kernel
theorem dX9_writes_52 : decode cX9_writes 52 = .ok (.goto (-49), 3) := by decide +kernel
theorem dX9_writes_55 : decode cX9_writes 55 = .ok (.iconst 1, 1) := by decide +kernel
theorem dX9_writes_56 : decode cX9_writes 56 = .ok (.ireturn, 1) := by decide +kernel
theorem dX9_may_0 : decode cX9_may 0 = .ok (.iload_n 1, 1) := by decide +kernel
theorem dX9_may_1 : decode cX9_may 1 = .ok (.lookupswitch 94 #[(45, 51), (109, 58), (110, 67), (114, 74), (120, 80)], 51) := by decide +kernel
theorem dX9_may_52 : decode cX9_may 52 = .ok (.aload_n 0, 1) := by decide +kernel
theorem dX9_may_53 : decode cX9_may 53 = .ok (.iload_n 2, 1) := by decide +kernel
theorem dX9_may_54 : decode cX9_may 54 = .ok (.iload_n 3, 1) := by decide +kernel
theorem dX9_may_55 : decode cX9_may 55 = .ok (.invokevirtual 112, 3) := by decide +kernel
theorem dX9_may_58 : decode cX9_may 58 = .ok (.ireturn, 1) := by decide +kernel
theorem dX9_may_59 : decode cX9_may 59 = .ok (.aload_n 0, 1) := by decide +kernel
theorem dX9_may_60 : decode cX9_may 60 = .ok (.iload_n 2, 1) := by decide +kernel
theorem dX9_may_61 : decode cX9_may 61 = .ok (.iload_n 3, 1) := by decide +kernel
theorem dX9_may_62 : decode cX9_may 62 = .ok (.iload 4, 2) := by decide +kernel
theorem dX9_may_64 : decode cX9_may 64 = .ok (.invokevirtual 118, 3) := by decide +kernel
theorem dX9_may_67 : decode cX9_may 67 = .ok (.ireturn, 1) := by decide +kernel
theorem dX9_may_68 : decode cX9_may 68 = .ok (.aload_n 0, 1) := by decide +kernel
theorem dX9_may_69 : decode cX9_may 69 = .ok (.iload_n 2, 1) := by decide +kernel
theorem dX9_may_70 : decode cX9_may 70 = .ok (.iload_n 3, 1) := by decide +kernel
theorem dX9_may_71 : decode cX9_may 71 = .ok (.invokevirtual 134, 3) := by decide +kernel
theorem dX9_may_74 : decode cX9_may 74 = .ok (.ireturn, 1) := by decide +kernel
theorem dX9_may_75 : decode cX9_may 75 = .ok (.aload_n 0, 1) := by decide +kernel
theorem dX9_may_76 : decode cX9_may 76 = .ok (.iload_n 2, 1) := by decide +kernel
theorem dX9_may_77 : decode cX9_may 77 = .ok (.invokevirtual 143, 3) := by decide +kernel
theorem dX9_may_80 : decode cX9_may 80 = .ok (.ireturn, 1) := by decide +kernel
theorem dX9_may_81 : decode cX9_may 81 = .ok (.aload_n 0, 1) := by decide +kernel
theorem dX9_may_82 : decode cX9_may 82 = .ok (.iload_n 2, 1) := by decide +kernel
theorem dX9_may_83 : decode cX9_may 83 = .ok (.invokevirtual 140, 3) := by decide +kernel
theorem dX9_may_86 : decode cX9_may 86 = .ok (.ifCond .eq 7, 3) := by decide +kernel
theorem dX9_may_89 : decode cX9_may 89 = .ok (.iconst 0, 1) := by decide +kernel
theorem dX9_may_90 : decode cX9_may 90 = .ok (.goto 4, 3) := by decide +kernel
theorem dX9_may_93 : decode cX9_may 93 = .ok (.iconst (-1), 1) := by decide +kernel
theorem dX9_may_94 : decode cX9_may 94 = .ok (.ireturn, 1) := by decide +kernel
theorem dX9_may_95 : decode cX9_may 95 = .ok (.aload_n 0, 1) := by decide +kernel
theorem dX9_may_96 : decode cX9_may 96 = .ok (.iload_n 2, 1) := by decide +kernel
theorem dX9_may_97 : decode cX9_may 97 = .ok (.invokevirtual 164, 3) := by decide +kernel
theorem dX9_may_100 : decode cX9_may 100 = .ok (.ireturn, 1) := by decide +kernel
theorem dX9_does_0 : decode cX9_does 0 = .ok (.aload_n 0, 1) := by decide +kernel
theorem dX9_does_1 : decode cX9_does 1 = .ok (.getfield 26, 3) := by decide +kernel
theorem dX9_does_4 : decode cX9_does 4 = .ok (.iconst 4, 1) := by decide +kernel
theorem dX9_does_5 : decode cX9_does 5 = .ok (.iload_n 1, 1) := by decide +kernel
theorem dX9_does_6 : decode cX9_does 6 = .ok (.imul, 1) := by decide +kernel
theorem dX9_does_7 : decode cX9_does 7 = .ok (.iaload, 1) := by decide +kernel
theorem dX9_does_8 : decode cX9_does 8 = .ok (.istore_n 2, 1) := by decide +kernel
theorem dX9_does_9 : decode cX9_does 9 = .ok (.aload_n 0, 1) := by decide +kernel
theorem dX9_does_10 : decode cX9_does 10 = .ok (.getfield 26, 3) := by decide +kernel
theorem dX9_does_13 : decode cX9_does 13 = .ok (.iconst 4, 1) := by decide +kernel
theorem dX9_does_14 : decode cX9_does 14 = .ok (.iload_n 1, 1) := by decide +kernel
theorem dX9_does_15 : decode cX9_does 15 = .ok (.imul, 1) := by decide +kernel
theorem dX9_does_16 : decode cX9_does 16 = .ok (.iconst 1, 1) := by decide +kernel
theorem dX9_does_17 : decode cX9_does 17 = .ok (.iadd, 1) := by decide +kernel
theorem dX9_does_18 : decode cX9_does 18 = .ok (.iaload, 1) := by decide +kernel
theorem dX9_does_19 : decode cX9_does 19 = .ok (.istore_n 3, 1) := by decide +kernel
theorem dX9_does_20 : decode cX9_does 20 = .ok (.aload_n 0, 1) := by decide +kernel
theorem dX9_does_21 : decode cX9_does 21 = .ok (.getfield 26, 3) := by decide +kernel
theorem dX9_does_24 : decode cX9_does 24 = .ok (.iconst 4, 1) := by decide +kernel
theorem dX9_does_25 : decode cX9_does 25 = .ok (.iload_n 1, 1) := by decide +kernel
theorem dX9_does_26 : decode cX9_does 26 = .ok (.imul, 1) := by decide +kernel
theorem dX9_does_27 : decode cX9_does 27 = .ok (.iconst 2, 1) := by decide +kernel
theorem dX9_does_28 : decode cX9_does 28 = .ok (.iadd, 1) := by decide +kernel
theorem dX9_does_29 : decode cX9_does 29 = .ok (.iaload, 1) := by decide +kernel
theorem dX9_does_30 : decode cX9_does 30 = .ok (.istore 4, 2) := by decide +kernel
theorem dX9_does_32 : decode cX9_does 32 = .ok (.aload_n 0, 1) := by decide +kernel
theorem dX9_does_33 : decode cX9_does 33 = .ok (.getfield 26, 3) := by decide +kernel
theorem dX9_does_36 : decode cX9_does 36 = .ok (.iconst 4, 1) := by decide +kernel
theorem dX9_does_37 : decode cX9_does 37 = .ok (.iload_n 1, 1) := by decide +kernel
theorem dX9_does_38 : decode cX9_does 38 = .ok (.imul, 1) := by decide +kernel
theorem dX9_does_39 : decode cX9_does 39 = .ok (.iconst 3, 1) := by decide +kernel
theorem dX9_does_40 : decode cX9_does 40 = .ok (.iadd, 1) := by decide +kernel
theorem dX9_does_41 : decode cX9_does 41 = .ok (.iaload, 1) := by decide +kernel
theorem dX9_does_42 : decode cX9_does 42 = .ok (.istore 5, 2) := by decide +kernel
theorem dX9_does_44 : decode cX9_does 44 = .ok (.iload_n 2, 1) := by decide +kernel
theorem dX9_does_45 : decode cX9_does 45 = .ok (.bipush 43, 2) := by decide +kernel
theorem dX9_does_47 : decode cX9_does 47 = .ok (.if_icmp .ne 13, 3) := by decide +kernel
theorem dX9_does_50 : decode cX9_does 50 = .ok (.aload_n 0, 1) := by decide +kernel
theorem dX9_does_51 : decode cX9_does 51 = .ok (.iload_n 3, 1) := by decide +kernel
theorem dX9_does_52 : decode cX9_does 52 = .ok (.iload 4, 2) := by decide +kernel
theorem dX9_does_54 : decode cX9_does 54 = .ok (.iload 5, 2) := by decide +kernel
theorem dX9_does_56 : decode cX9_does 56 = .ok (.invokevirtual 234, 3) := by decide +kernel
theorem dX9_does_59 : decode cX9_does 59 = .ok (.ireturn, 1) := by decide +kernel
theorem dX9_does_60 : decode cX9_does 60 = .ok (.aload_n 0, 1) := by decide +kernel
theorem dX9_does_61 : decode cX9_does 61 = .ok (.iload_n 2, 1) := by decide +kernel
theorem dX9_does_62 : decode cX9_does 62 = .ok (.iload_n 3, 1) := by decide +kernel
theorem dX9_does_63 : decode cX9_does 63 = .ok (.iload 4, 2) := by decide +kernel
theorem dX9_does_65 : decode cX9_does 65 = .ok (.iload 5, 2) := by decide +kernel
theorem dX9_does_67 : decode cX9_does 67 = .ok (.invokevirtual 237, 3) := by decide +kernel
theorem dX9_does_70 : decode cX9_does 70 = .ok (.ifCond .eq 5, 3) := by decide +kernel
theorem dX9_does_73 : decode cX9_does 73 = .ok (.iconst 0, 1) := by decide +kernel
theorem dX9_does_74 : decode cX9_does 74 = .ok (.ireturn, 1) := by decide +kernel
theorem dX9_does_75 : decode cX9_does 75 = .ok (.iload_n 2, 1) := by decide +kernel
theorem dX9_does_76 : decode cX9_does 76 = .ok (.lookupswitch 103 #[(45, 52), (109, 62), (110, 74), (114, 85), (120, 94)], 52) := by decide +kernel
theorem dX9_does_128 : decode cX9_does 128 = .ok (.aload_n 0, 1) := by decide +kernel
theorem dX9_does_129 : decode cX9_does 129 = .ok (.iload_n 3, 1) := by decide +kernel
theorem dX9_does_130 : decode cX9_does 130 = .ok (.iload 4, 2) := by decide +kernel
theorem dX9_does_132 : decode cX9_does 132 = .ok (.invokevirtual 108, 3) := by decide +kernel
theorem dX9_does_135 : decode cX9_does 135 = .ok (.goto 50, 3) := by decide +kernel
theorem dX9_does_138 : decode cX9_does 138 = .ok (.aload_n 0, 1) := by decide +kernel
theorem dX9_does_139 : decode cX9_does 139 = .ok (.iload_n 3, 1) := by decide +kernel
theorem dX9_does_140 : decode cX9_does 140 = .ok (.iload 4, 2) := by decide +kernel
theorem dX9_does_142 : decode cX9_does 142 = .ok (.iload 5, 2) := by decide +kernel
theorem dX9_does_144 : decode cX9_does 144 = .ok (.invokevirtual 122, 3) := by decide +kernel
theorem dX9_does_147 : decode cX9_does 147 = .ok (.goto 38, 3) := by decide +kernel
theorem dX9_does_150 : decode cX9_does 150 = .ok (.aload_n 0, 1) := by decide +kernel
theorem dX9_does_151 : decode cX9_does 151 = .ok (.iload_n 3, 1) := by decide +kernel
theorem dX9_does_152 : decode cX9_does 152 = .ok (.iload 4, 2) := by decide +kernel
theorem dX9_does_154 : decode cX9_does 154 = .ok (.invokevirtual 137, 3) := by decide +kernel
theorem dX9_does_157 : decode cX9_does 157 = .ok (.pop, 1) := by decide +kernel
theorem dX9_does_158 : decode cX9_does 158 = .ok (.goto 27, 3) := by decide +kernel
theorem dX9_does_161 : decode cX9_does 161 = .ok (.aload_n 0, 1) := by decide +kernel
theorem dX9_does_162 : decode cX9_does 162 = .ok (.iload_n 3, 1) := by decide +kernel
theorem dX9_does_163 : decode cX9_does 163 = .ok (.invokevirtual 146, 3) := by decide +kernel
theorem dX9_does_166 : decode cX9_does 166 = .ok (.pop, 1) := by decide +kernel
theorem dX9_does_167 : decode cX9_does 167 = .ok (.goto 18, 3) := by decide +kernel
theorem dX9_does_170 : decode cX9_does 170 = .ok (.aload_n 0, 1) := by decide +kernel
theorem dX9_does_171 : decode cX9_does 171 = .ok (.iload_n 3, 1) := by decide +kernel
theorem dX9_does_172 : decode cX9_does 172 = .ok (.invokevirtual 152, 3) := by decide +kernel
theorem dX9_does_175 : decode cX9_does 175 = .ok (.pop, 1) := by decide +kernel
theorem dX9_does_176 : decode cX9_does 176 = .ok (.goto 9, 3) := by decide +kernel
theorem dX9_does_179 : decode cX9_does 179 = .ok (.aload_n 0, 1) := by decide +kernel
theorem dX9_does_180 : decode cX9_does 180 = .ok (.iload_n 3, 1) := by decide +kernel
theorem dX9_does_181 : decode cX9_does 181 = .ok (.invokevirtual 167, 3) := by decide +kernel
theorem dX9_does_184 : decode cX9_does 184 = .ok (.pop, 1) := by decide +kernel
theorem dX9_does_185 : decode cX9_does 185 = .ok (.iconst 1, 1) := by decide +kernel
theorem dX9_does_186 : decode cX9_does 186 = .ok (.ireturn, 1) := by decide +kernel
theorem dX9_carryOut_0 : decode cX9_carryOut 0 = .ok (.aload_n 0, 1) := by decide +kernel
theorem dX9_carryOut_1 : decode cX9_carryOut 1 = .ok (.invokevirtual 231, 3) := by decide +kernel
theorem dX9_carryOut_4 : decode cX9_carryOut 4 = .ok (.ifCond .ne 6, 3) := by decide +kernel
theorem dX9_carryOut_7 : decode cX9_carryOut 7 = .ok (.bipush (-3), 2) := by decide +kernel
theorem dX9_carryOut_9 : decode cX9_carryOut 9 = .ok (.ireturn, 1) := by decide +kernel
theorem dX9_carryOut_10 : decode cX9_carryOut 10 = .ok (.aload_n 0, 1) := by decide +kernel
theorem dX9_carryOut_11 : decode cX9_carryOut 11 = .ok (.invokevirtual 57, 3) := by decide +kernel
theorem dX9_carryOut_14 : decode cX9_carryOut 14 = .ok (.aload_n 0, 1) := by decide +kernel
theorem dX9_carryOut_15 : decode cX9_carryOut 15 = .ok (.iconst 0, 1) := by decide +kernel
theorem dX9_carryOut_16 : decode cX9_carryOut 16 = .ok (.putfield 186, 3) := by decide +kernel
theorem dX9_carryOut_19 : decode cX9_carryOut 19 = .ok (.iconst 0, 1) := by decide +kernel
theorem dX9_carryOut_20 : decode cX9_carryOut 20 = .ok (.istore_n 1, 1) := by decide +kernel
theorem dX9_carryOut_21 : decode cX9_carryOut 21 = .ok (.iload_n 1, 1) := by decide +kernel
theorem dX9_carryOut_22 : decode cX9_carryOut 22 = .ok (.aload_n 0, 1) := by decide +kernel
theorem dX9_carryOut_23 : decode cX9_carryOut 23 = .ok (.getfield 212, 3) := by decide +kernel
theorem dX9_carryOut_26 : decode cX9_carryOut 26 = .ok (.if_icmp .ge 17, 3) := by decide +kernel
theorem dX9_carryOut_29 : decode cX9_carryOut 29 = .ok (.aload_n 0, 1) := by decide +kernel
theorem dX9_carryOut_30 : decode cX9_carryOut 30 = .ok (.iload_n 1, 1) := by decide +kernel
theorem dX9_carryOut_31 : decode cX9_carryOut 31 = .ok (.invokevirtual 241, 3) := by decide +kernel
theorem dX9_carryOut_34 : decode cX9_carryOut 34 = .ok (.ifCond .eq 9, 3) := by decide +kernel
theorem dX9_carryOut_37 : decode cX9_carryOut 37 = .ok (.iinc 1 1, 3) := by decide +kernel
theorem dX9_carryOut_40 : decode cX9_carryOut 40 = .ok (.goto (-19), 3) := by decide +kernel
theorem dX9_carryOut_43 : decode cX9_carryOut 43 = .ok (.iload_n 1, 1) := by decide +kernel
theorem dX9_carryOut_44 : decode cX9_carryOut 44 = .ok (.ireturn, 1) := by decide +kernel

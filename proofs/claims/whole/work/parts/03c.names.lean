set_option maxRecDepth 20000 in
theorem gX1_leave_X1_frame : GoodIn wsX1_leave (wsV RX1 51 RX1 yX1_frame wsX1_frame) := goodIn_app (goodIn_of _ (by decide +kernel)) ggX1_leave_X1_frame
set_option maxRecDepth 20000 in
theorem ggX1_leave_X1_drop : GoodIn wsX1_leave wsX1_drop := goodIn_r _ [24, 10, 11, 1, 25, 26, 27, 28, 29, 30, 31, 32, 33, 34] (by decide +kernel) (by decide +kernel)
set_option maxRecDepth 20000 in
theorem gX1_leave_X1_drop : GoodIn wsX1_leave (wsV RX1 55 RX1 yX1_drop wsX1_drop) := goodIn_app (goodIn_of _ (by decide +kernel)) ggX1_leave_X1_drop
set_option maxRecDepth 20000 in
theorem ggX1_cut_X1_isMutator : GoodIn wsX1_cut wsX1_isMutator := goodIn_r _ [4] (by decide +kernel) (by decide +kernel)
set_option maxRecDepth 20000 in
theorem gX1_cut_X1_isMutator : GoodIn wsX1_cut (va_wsS RX1 36 yX1_isMutator wsX1_isMutator) := goodIn_app (goodIn_of _ (by decide +kernel)) ggX1_cut_X1_isMutator
set_option maxRecDepth 20000 in
theorem ggX1_cut_X1_framesOf : GoodIn wsX1_cut wsX1_framesOf := goodIn_r _ [8, 9, 10, 25, 26, 27, 28, 29, 30, 31, 32, 33, 34] (by decide +kernel) (by decide +kernel)
set_option maxRecDepth 20000 in
theorem gX1_cut_X1_framesOf : GoodIn wsX1_cut (wsV RX1 40 RX1 yX1_framesOf wsX1_framesOf) := goodIn_app (goodIn_of _ (by decide +kernel)) ggX1_cut_X1_framesOf
set_option maxRecDepth 20000 in
theorem ggX1_cut_X1_goes : GoodIn wsX1_cut wsX1_goes := goodIn_r _ [14, 15, 25, 26, 27, 28, 29, 30, 31, 32, 33, 34] (by decide +kernel) (by decide +kernel)
set_option maxRecDepth 20000 in
theorem gX1_cut_X1_goes : GoodIn wsX1_cut (wsV RX1 44 RX1 yX1_goes wsX1_goes) := goodIn_app (goodIn_of _ (by decide +kernel)) ggX1_cut_X1_goes
set_option maxRecDepth 20000 in
theorem ggX1_cut_X1_frame : GoodIn wsX1_cut wsX1_frame := goodIn_r _ [19, 9, 10, 25, 26, 27, 28, 29, 30, 31, 32, 33, 34] (by decide +kernel) (by decide +kernel)
set_option maxRecDepth 20000 in
theorem gX1_cut_X1_frame : GoodIn wsX1_cut (wsV RX1 51 RX1 yX1_frame wsX1_frame) := goodIn_app (goodIn_of _ (by decide +kernel)) ggX1_cut_X1_frame
set_option maxRecDepth 20000 in
theorem ggX1_cut_X1_drop : GoodIn wsX1_cut wsX1_drop := goodIn_r _ [23, 9, 10, 24, 25, 26, 27, 28, 29, 30, 31, 32, 33, 34] (by decide +kernel) (by decide +kernel)
set_option maxRecDepth 20000 in
theorem gX1_cut_X1_drop : GoodIn wsX1_cut (wsV RX1 55 RX1 yX1_drop wsX1_drop) := goodIn_app (goodIn_of _ (by decide +kernel)) ggX1_cut_X1_drop
set_option maxRecDepth 20000 in
theorem ggX1_isPlace_X1_isMutator : GoodIn wsX1_isPlace wsX1_isMutator := goodIn_r _ [4] (by decide +kernel) (by decide +kernel)
set_option maxRecDepth 20000 in
theorem gX1_isPlace_X1_isMutator : GoodIn wsX1_isPlace (va_wsS RX1 36 yX1_isMutator wsX1_isMutator) := goodIn_app (goodIn_of _ (by decide +kernel)) ggX1_isPlace_X1_isMutator
set_option maxRecDepth 20000 in
theorem ggX1_get_X1_isPlace : GoodIn wsX1_get wsX1_isPlace := goodIn_r _ [6, 7, 8, 5, 9] (by decide +kernel) (by decide +kernel)
set_option maxRecDepth 20000 in
theorem gX1_get_X1_isPlace : GoodIn wsX1_get (va_wsS RX1 59 yX1_isPlace wsX1_isPlace) := goodIn_app (goodIn_of _ (by decide +kernel)) ggX1_get_X1_isPlace
set_option maxRecDepth 20000 in
theorem ggX1_get_X1_goes : GoodIn wsX1_get wsX1_goes := goodIn_r _ [13, 14, 25, 26, 27, 28, 29, 30, 31, 32, 33, 34] (by decide +kernel) (by decide +kernel)
set_option maxRecDepth 20000 in
theorem gX1_get_X1_goes : GoodIn wsX1_get (wsV RX1 44 RX1 yX1_goes wsX1_goes) := goodIn_app (goodIn_of _ (by decide +kernel)) ggX1_get_X1_goes
set_option maxRecDepth 20000 in
theorem ggX1_get_X1_framesOf : GoodIn wsX1_get wsX1_framesOf := goodIn_r _ [18, 19, 20, 25, 26, 27, 28, 29, 30, 31, 32, 33, 34] (by decide +kernel) (by decide +kernel)
set_option maxRecDepth 20000 in
theorem gX1_get_X1_framesOf : GoodIn wsX1_get (wsV RX1 40 RX1 yX1_framesOf wsX1_framesOf) := goodIn_app (goodIn_of _ (by decide +kernel)) ggX1_get_X1_framesOf
set_option maxRecDepth 20000 in
theorem ggX1_get_X1_frame : GoodIn wsX1_get wsX1_frame := goodIn_r _ [24, 19, 20, 25, 26, 27, 28, 29, 30, 31, 32, 33, 34] (by decide +kernel) (by decide +kernel)
set_option maxRecDepth 20000 in
theorem gX1_get_X1_frame : GoodIn wsX1_get (wsV RX1 51 RX1 yX1_frame wsX1_frame) := goodIn_app (goodIn_of _ (by decide +kernel)) ggX1_get_X1_frame
set_option maxRecDepth 20000 in
theorem ggX1_put_X1_isPlace : GoodIn wsX1_put wsX1_isPlace := goodIn_r _ [6, 7, 8, 5, 9] (by decide +kernel) (by decide +kernel)
set_option maxRecDepth 20000 in
theorem gX1_put_X1_isPlace : GoodIn wsX1_put (va_wsS RX1 59 yX1_isPlace wsX1_isPlace) := goodIn_app (goodIn_of _ (by decide +kernel)) ggX1_put_X1_isPlace
set_option maxRecDepth 20000 in
theorem ggX1_put_X1_isValue : GoodIn wsX1_put wsX1_isValue := goodIn_r _ [12, 13] (by decide +kernel) (by decide +kernel)
set_option maxRecDepth 20000 in
theorem gX1_put_X1_isValue : GoodIn wsX1_put (va_wsS RX1 63 yX1_isValue wsX1_isValue) := goodIn_app (goodIn_of _ (by decide +kernel)) ggX1_put_X1_isValue
set_option maxRecDepth 20000 in
theorem ggX1_put_X1_goes : GoodIn wsX1_put wsX1_goes := goodIn_r _ [17, 18, 33, 34, 35, 36, 37, 38, 39, 40, 41, 42] (by decide +kernel) (by decide +kernel)
set_option maxRecDepth 20000 in
theorem gX1_put_X1_goes : GoodIn wsX1_put (wsV RX1 44 RX1 yX1_goes wsX1_goes) := goodIn_app (goodIn_of _ (by decide +kernel)) ggX1_put_X1_goes
set_option maxRecDepth 20000 in
theorem ggX1_put_X1_get : GoodIn wsX1_put wsX1_get := goodIn_r _ [22, 1, 2, 3, 4, 5, 6, 7, 8, 9, 14, 15, 16, 17, 18, 23, 24, 25, 26, 27, 28, 29, 30, 31, 32, 33, 34, 35, 36, 37, 38, 39, 40, 41, 42] (by decide +kernel) (by decide +kernel)
set_option maxRecDepth 20000 in
theorem gX1_put_X1_get : GoodIn wsX1_put (wsV RX1 66 RX1 yX1_get wsX1_get) := goodIn_app (goodIn_of _ (by decide +kernel)) ggX1_put_X1_get
set_option maxRecDepth 20000 in
theorem ggX1_put_X1_framesOf : GoodIn wsX1_put wsX1_framesOf := goodIn_r _ [26, 27, 28, 33, 34, 35, 36, 37, 38, 39, 40, 41, 42] (by decide +kernel) (by decide +kernel)
set_option maxRecDepth 20000 in
theorem gX1_put_X1_framesOf : GoodIn wsX1_put (wsV RX1 40 RX1 yX1_framesOf wsX1_framesOf) := goodIn_app (goodIn_of _ (by decide +kernel)) ggX1_put_X1_framesOf
set_option maxRecDepth 20000 in
theorem ggX1_put_X1_frame : GoodIn wsX1_put wsX1_frame := goodIn_r _ [32, 27, 28, 33, 34, 35, 36, 37, 38, 39, 40, 41, 42] (by decide +kernel) (by decide +kernel)
set_option maxRecDepth 20000 in
theorem gX1_put_X1_frame : GoodIn wsX1_put (wsV RX1 51 RX1 yX1_frame wsX1_frame) := goodIn_app (goodIn_of _ (by decide +kernel)) ggX1_put_X1_frame
set_option maxRecDepth 20000 in
theorem ggX1_peek_X1_isMutator : GoodIn wsX1_peek wsX1_isMutator := goodIn_r _ [5] (by decide +kernel) (by decide +kernel)
set_option maxRecDepth 20000 in
theorem gX1_peek_X1_isMutator : GoodIn wsX1_peek (va_wsS RX1 36 yX1_isMutator wsX1_isMutator) := goodIn_app (goodIn_of _ (by decide +kernel)) ggX1_peek_X1_isMutator
set_option maxRecDepth 20000 in
theorem ggX1_peek_X1_frame : GoodIn wsX1_peek wsX1_frame := goodIn_r _ [9, 10, 11, 17, 18, 19, 20, 21, 22, 23, 24, 25, 26] (by decide +kernel) (by decide +kernel)
set_option maxRecDepth 20000 in
theorem gX1_peek_X1_frame : GoodIn wsX1_peek (wsV RX1 51 RX1 yX1_frame wsX1_frame) := goodIn_app (goodIn_of _ (by decide +kernel)) ggX1_peek_X1_frame
set_option maxRecDepth 20000 in
theorem ggX1_peek_X1_goes : GoodIn wsX1_peek wsX1_goes := goodIn_r _ [15, 16, 17, 18, 19, 20, 21, 22, 23, 24, 25, 26] (by decide +kernel) (by decide +kernel)
set_option maxRecDepth 20000 in
theorem gX1_peek_X1_goes : GoodIn wsX1_peek (wsV RX1 44 RX1 yX1_goes wsX1_goes) := goodIn_app (goodIn_of _ (by decide +kernel)) ggX1_peek_X1_goes
set_option maxRecDepth 20000 in
theorem ggX1_gather_X1_note : GoodIn wsX1_gather wsX1_note := goodIn_r _ [10, 11, 1, 12, 13, 14, 15, 16, 17, 18, 19, 20, 21] (by decide +kernel) (by decide +kernel)
set_option maxRecDepth 20000 in
theorem gX1_gather_X1_note : GoodIn wsX1_gather (wsV RX1 72 RX1 yX1_note wsX1_note) := goodIn_app (goodIn_of _ (by decide +kernel)) ggX1_gather_X1_note
set_option maxRecDepth 20000 in
theorem ggX1_findFirsts_X1_find : GoodIn wsX1_findFirsts wsX1_find := goodIn_r _ [9, 1, 10, 11, 12, 13, 14, 15, 16, 17, 18, 19] (by decide +kernel) (by decide +kernel)
set_option maxRecDepth 20000 in
theorem gX1_findFirsts_X1_find : GoodIn wsX1_findFirsts (wsV RX1 75 RX1 yX1_find wsX1_find) := goodIn_app (goodIn_of _ (by decide +kernel)) ggX1_findFirsts_X1_find
set_option maxRecDepth 20000 in
theorem ggX1_rank_X1_find : GoodIn wsX1_rank wsX1_find := goodIn_r _ [6, 7, 8, 9, 10, 11, 12, 13, 14, 15, 16, 17] (by decide +kernel) (by decide +kernel)
set_option maxRecDepth 20000 in
theorem gX1_rank_X1_find : GoodIn wsX1_rank (wsV RX1 75 RX1 yX1_find wsX1_find) := goodIn_app (goodIn_of _ (by decide +kernel)) ggX1_rank_X1_find
set_option maxRecDepth 20000 in
theorem ggX1_holds_X1_isValue : GoodIn wsX1_holds wsX1_isValue := goodIn_r _ [7, 8] (by decide +kernel) (by decide +kernel)
set_option maxRecDepth 20000 in
theorem gX1_holds_X1_isValue : GoodIn wsX1_holds (va_wsS RX1 63 yX1_isValue wsX1_isValue) := goodIn_app (goodIn_of _ (by decide +kernel)) ggX1_holds_X1_isValue
set_option maxRecDepth 20000 in
theorem ggX1_holds_X1_goes : GoodIn wsX1_holds wsX1_goes := goodIn_r _ [12, 13, 25, 26, 27, 28, 29, 30, 31, 32, 33, 34] (by decide +kernel) (by decide +kernel)
set_option maxRecDepth 20000 in
theorem gX1_holds_X1_goes : GoodIn wsX1_holds (wsV RX1 44 RX1 yX1_goes wsX1_goes) := goodIn_app (goodIn_of _ (by decide +kernel)) ggX1_holds_X1_goes
set_option maxRecDepth 20000 in
theorem ggX1_holds_X1_gather : GoodIn wsX1_holds wsX1_gather := goodIn_r _ [17, 1, 3, 18, 19, 20, 21, 22, 23, 6, 24, 2, 25, 26, 27, 28, 29, 30, 31, 32, 33, 34] (by decide +kernel) (by decide +kernel)
set_option maxRecDepth 20000 in
theorem gX1_holds_X1_gather : GoodIn wsX1_holds (wsV RX1 78 RX1 yX1_gather wsX1_gather) := goodIn_app (goodIn_of _ (by decide +kernel)) ggX1_holds_X1_gather
set_option maxRecDepth 20000 in
theorem ggX1_root_X1_goes : GoodIn wsX1_root wsX1_goes := goodIn_r _ [7, 8, 21, 22, 23, 24, 25, 26, 27, 28, 29, 30] (by decide +kernel) (by decide +kernel)
set_option maxRecDepth 20000 in
theorem gX1_root_X1_goes : GoodIn wsX1_root (wsV RX1 44 RX1 yX1_goes wsX1_goes) := goodIn_app (goodIn_of _ (by decide +kernel)) ggX1_root_X1_goes
set_option maxRecDepth 20000 in
theorem ggX1_root_X1_gather : GoodIn wsX1_root wsX1_gather := goodIn_r _ [12, 1, 13, 14, 15, 16, 17, 18, 19, 6, 20, 2, 21, 22, 23, 24, 25, 26, 27, 28, 29, 30] (by decide +kernel) (by decide +kernel)
set_option maxRecDepth 20000 in
theorem gX1_root_X1_gather : GoodIn wsX1_root (wsV RX1 78 RX1 yX1_gather wsX1_gather) := goodIn_app (goodIn_of _ (by decide +kernel)) ggX1_root_X1_gather
set_option maxRecDepth 20000 in
theorem ggX1_turn_X1_isValue : GoodIn wsX1_turn wsX1_isValue := goodIn_r _ [7, 8] (by decide +kernel) (by decide +kernel)
set_option maxRecDepth 20000 in
theorem gX1_turn_X1_isValue : GoodIn wsX1_turn (va_wsS RX1 63 yX1_isValue wsX1_isValue) := goodIn_app (goodIn_of _ (by decide +kernel)) ggX1_turn_X1_isValue
set_option maxRecDepth 20000 in
theorem ggX1_turn_X1_goes : GoodIn wsX1_turn wsX1_goes := goodIn_r _ [12, 13, 14, 15, 16, 17, 18, 19, 20, 21, 22, 23] (by decide +kernel) (by decide +kernel)
set_option maxRecDepth 20000 in
theorem gX1_turn_X1_goes : GoodIn wsX1_turn (wsV RX1 44 RX1 yX1_goes wsX1_goes) := goodIn_app (goodIn_of _ (by decide +kernel)) ggX1_turn_X1_goes
set_option maxRecDepth 20000 in
theorem ggX1_renew_X1_gather : GoodIn wsX1_renew wsX1_gather := goodIn_r _ [9, 10, 2, 11, 3, 4, 12, 13, 14, 8, 15, 16, 31, 32, 33, 34, 35, 36, 37, 38, 39, 40] (by decide +kernel) (by decide +kernel)
set_option maxRecDepth 20000 in
theorem gX1_renew_X1_gather : GoodIn wsX1_renew (wsV RX1 78 RX1 yX1_gather wsX1_gather) := goodIn_app (goodIn_of _ (by decide +kernel)) ggX1_renew_X1_gather
set_option maxRecDepth 20000 in
theorem ggX1_renew_X1_findFirsts : GoodIn wsX1_renew wsX1_findFirsts := goodIn_r _ [20, 21, 10, 16, 22, 23, 24, 25, 8, 26, 31, 32, 33, 34, 35, 36, 37, 38, 39, 40] (by decide +kernel) (by decide +kernel)
set_option maxRecDepth 20000 in
theorem gX1_renew_X1_findFirsts : GoodIn wsX1_renew (wsV RX1 81 RX1 yX1_findFirsts wsX1_findFirsts) := goodIn_app (goodIn_of _ (by decide +kernel)) ggX1_renew_X1_findFirsts
set_option maxRecDepth 20000 in
theorem ggX1_renew_X1_rank : GoodIn wsX1_renew wsX1_rank := goodIn_r _ [30, 22, 23, 24, 25, 8, 26, 21, 31, 32, 33, 34, 35, 36, 37, 38, 39, 40] (by decide +kernel) (by decide +kernel)
set_option maxRecDepth 20000 in
theorem gX1_renew_X1_rank : GoodIn wsX1_renew (wsV RX1 85 RX1 yX1_rank wsX1_rank) := goodIn_app (goodIn_of _ (by decide +kernel)) ggX1_renew_X1_rank
set_option maxRecDepth 20000 in
theorem ggX1_count_X1_goes : GoodIn wsX1_count wsX1_goes := goodIn_r _ [8, 9, 36, 37, 38, 39, 40, 41, 42, 43, 44, 45] (by decide +kernel) (by decide +kernel)
set_option maxRecDepth 20000 in
theorem gX1_count_X1_goes : GoodIn wsX1_count (wsV RX1 44 RX1 yX1_goes wsX1_goes) := goodIn_app (goodIn_of _ (by decide +kernel)) ggX1_count_X1_goes
set_option maxRecDepth 20000 in
theorem ggX1_count_X1_gather : GoodIn wsX1_count wsX1_gather := goodIn_r _ [13, 2, 1, 14, 15, 16, 17, 18, 19, 7, 20, 21, 36, 37, 38, 39, 40, 41, 42, 43, 44, 45] (by decide +kernel) (by decide +kernel)
set_option maxRecDepth 20000 in
theorem gX1_count_X1_gather : GoodIn wsX1_count (wsV RX1 78 RX1 yX1_gather wsX1_gather) := goodIn_app (goodIn_of _ (by decide +kernel)) ggX1_count_X1_gather
set_option maxRecDepth 20000 in
theorem ggX1_count_X1_framesOf : GoodIn wsX1_count wsX1_framesOf := goodIn_r _ [25, 1, 14, 36, 37, 38, 39, 40, 41, 42, 43, 44, 45] (by decide +kernel) (by decide +kernel)
set_option maxRecDepth 20000 in
theorem gX1_count_X1_framesOf : GoodIn wsX1_count (wsV RX1 40 RX1 yX1_framesOf wsX1_framesOf) := goodIn_app (goodIn_of _ (by decide +kernel)) ggX1_count_X1_framesOf
set_option maxRecDepth 20000 in
theorem ggX1_count_X1_findFirsts : GoodIn wsX1_count wsX1_findFirsts := goodIn_r _ [29, 30, 2, 21, 31, 32, 33, 34, 7, 35, 36, 37, 38, 39, 40, 41, 42, 43, 44, 45] (by decide +kernel) (by decide +kernel)
set_option maxRecDepth 20000 in
theorem gX1_count_X1_findFirsts : GoodIn wsX1_count (wsV RX1 81 RX1 yX1_findFirsts wsX1_findFirsts) := goodIn_app (goodIn_of _ (by decide +kernel)) ggX1_count_X1_findFirsts
set_option maxRecDepth 20000 in
theorem ggJ5_init_d00df_J2_newBytesFor_77867 : GoodIn wsJ5_init_d00df wsJ2_newBytesFor_77867 := goodIn_r _ [11, 5, 12, 13, 10, 14, 15] (by decide +kernel) (by decide +kernel)
set_option maxRecDepth 20000 in
theorem gJ5_init_d00df_J2_newBytesFor_77867 : GoodIn wsJ5_init_d00df (va_wsS RJ5 26 yJ2_newBytesFor_77867 wsJ2_newBytesFor_77867) := goodIn_app (goodIn_of _ (by decide +kernel)) ggJ5_init_d00df_J2_newBytesFor_77867
set_option maxRecDepth 20000 in
theorem ggJ5_ensureCapacityInternal_d00df_J5_newCapacity_0f7a4 : GoodIn wsJ5_ensureCapacityInternal_d00df wsJ5_newCapacity_0f7a4 := goodIn_r _ [8, 1, 2, 9, 10, 11, 12, 13, 14, 15, 16, 17, 18, 19, 20, 21, 40, 41, 42, 43] (by decide +kernel) (by decide +kernel)
set_option maxRecDepth 20000 in
theorem gJ5_ensureCapacityInternal_d00df_J5_newCapacity_0f7a4_u104J4 : GoodIn wsJ5_ensureCapacityInternal_d00df (va_wsU RJ5 104 RJ4 "java/lang/AbstractStringBuilder" ⟨"java/lang/AbstractStringBuilder", "newCapacity", "(I)I"⟩ yJ5_newCapacity_0f7a4 wsJ5_newCapacity_0f7a4) := goodIn_app (goodIn_of _ (by decide +kernel)) ggJ5_ensureCapacityInternal_d00df_J5_newCapacity_0f7a4
set_option maxRecDepth 20000 in
theorem ggJ5_ensureCapacityInternal_d00df_J7_copyOf_9075b : GoodIn wsJ5_ensureCapacityInternal_d00df wsJ7_copyOf_9075b := goodIn_r _ [25, 26, 27, 28, 29, 30, 31, 32, 33, 34, 16, 35, 36, 37, 38, 39] (by decide +kernel) (by decide +kernel)
set_option maxRecDepth 20000 in
theorem gJ5_ensureCapacityInternal_d00df_J7_copyOf_9075b : GoodIn wsJ5_ensureCapacityInternal_d00df (va_wsS RJ5 108 yJ7_copyOf_9075b wsJ7_copyOf_9075b) := goodIn_app (goodIn_of _ (by decide +kernel)) ggJ5_ensureCapacityInternal_d00df_J7_copyOf_9075b
set_option maxRecDepth 20000 in
theorem ggJ5_newCapacity_0f7a4_J8_newLength_cabcc : GoodIn wsJ5_newCapacity_0f7a4 wsJ8_newLength_cabcc := goodIn_r _ [7, 8, 9, 10, 11, 12, 13, 14, 6, 15] (by decide +kernel) (by decide +kernel)
set_option maxRecDepth 20000 in
theorem gJ5_newCapacity_0f7a4_J8_newLength_cabcc : GoodIn wsJ5_newCapacity_0f7a4 (va_wsS RJ5 114 yJ8_newLength_cabcc wsJ8_newLength_cabcc) := goodIn_app (goodIn_of _ (by decide +kernel)) ggJ5_newCapacity_0f7a4_J8_newLength_cabcc
set_option maxRecDepth 20000 in
theorem ggJ5_inflate_da8c8_J5_isLatin1_aae02 : GoodIn wsJ5_inflate_da8c8 wsJ5_isLatin1_aae02 := goodIn_r _ [9, 10, 3, 48, 49, 50, 51] (by decide +kernel) (by decide +kernel)
set_option maxRecDepth 20000 in
theorem gJ5_inflate_da8c8_J5_isLatin1_aae02_u83J4 : GoodIn wsJ5_inflate_da8c8 (va_wsU RJ5 83 RJ4 "java/lang/AbstractStringBuilder" ⟨"java/lang/AbstractStringBuilder", "isLatin1", "()Z"⟩ yJ5_isLatin1_aae02 wsJ5_isLatin1_aae02) := goodIn_app (goodIn_of _ (by decide +kernel)) ggJ5_inflate_da8c8_J5_isLatin1_aae02
set_option maxRecDepth 20000 in
theorem ggJ5_inflate_da8c8_J2_newBytesFor_77867 : GoodIn wsJ5_inflate_da8c8 wsJ2_newBytesFor_77867 := goodIn_r _ [14, 15, 16, 17, 13, 18, 19] (by decide +kernel) (by decide +kernel)
set_option maxRecDepth 20000 in
theorem gJ5_inflate_da8c8_J2_newBytesFor_77867 : GoodIn wsJ5_inflate_da8c8 (va_wsS RJ5 26 yJ2_newBytesFor_77867 wsJ2_newBytesFor_77867) := goodIn_app (goodIn_of _ (by decide +kernel)) ggJ5_inflate_da8c8_J2_newBytesFor_77867
set_option maxRecDepth 20000 in
theorem ggJ5_inflate_da8c8_J1_inflate_0e8fd : GoodIn wsJ5_inflate_da8c8 wsJ1_inflate_0e8fd := goodIn_r _ [23, 24, 25, 13, 26, 27, 28, 29, 30, 31, 32, 33, 34, 35, 36, 37, 38, 39, 40, 41, 42, 43, 44, 45, 46, 47] (by decide +kernel) (by decide +kernel)
set_option maxRecDepth 20000 in
theorem gJ5_inflate_da8c8_J1_inflate_0e8fd : GoodIn wsJ5_inflate_da8c8 (va_wsS RJ5 125 yJ1_inflate_0e8fd wsJ1_inflate_0e8fd) := goodIn_app (goodIn_of _ (by decide +kernel)) ggJ5_inflate_da8c8_J1_inflate_0e8fd
set_option maxRecDepth 20000 in
theorem ggJ5_append_cf1ce_J5_appendNull_278bc : GoodIn wsJ5_append_cf1ce wsJ5_appendNull_278bc := goodIn_r _ [7, 1, 8, 9, 10, 11, 12, 6, 13, 14, 15, 16, 17, 18, 19, 20, 21, 22, 23, 24, 25, 26, 27, 28, 29, 30, 31, 32, 33, 34, 35, 36, 37, 38, 39, 40, 41, 42, 43, 44, 45, 46, 47, 48, 49, 50, 51, 52, 53, 54, 55, 56, 57, 58, 59, 60, 61, 62, 63, 64, 65, 66, 67, 68, 69, 70, 71, 72, 73, 74, 75, 76, 77, 78, 79, 80, 81, 138, 139, 140, 141] (by decide +kernel) (by decide +kernel)
set_option maxRecDepth 20000 in
theorem gJ5_append_cf1ce_J5_appendNull_278bc_u204J4 : GoodIn wsJ5_append_cf1ce (va_wsU RJ5 204 RJ4 "java/lang/AbstractStringBuilder" ⟨"java/lang/AbstractStringBuilder", "appendNull", "()Ljava/lang/AbstractStringBuilder;"⟩ yJ5_appendNull_278bc wsJ5_appendNull_278bc) := goodIn_app (goodIn_of _ (by decide +kernel)) ggJ5_append_cf1ce_J5_appendNull_278bc
set_option maxRecDepth 20000 in
theorem ggJ5_append_cf1ce_J0_length_8abf5 : GoodIn wsJ5_append_cf1ce wsJ0_length_8abf5 := goodIn_r _ [85, 86, 87, 88, 89, 70, 90, 91, 92, 142, 143, 144, 145] (by decide +kernel) (by decide +kernel)

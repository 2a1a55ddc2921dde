set_option maxRecDepth 20000 in
theorem wsL_law_in0 : ∀ w ∈ wsL_law0, w ∈ lw_tbl := fun w h => (goodIn_p wsL_law0 [45, 48, 51, 561, 82, 85, 173, 177, 183, 186, 601, 604, 608, 612, 597, 446, 449, 455, 459, 616, 620, 624, 466, 628, 474, 477, 482, 632, 635, 490, 493, 639, 642, 504, 648, 511, 515, 652, 656, 660, 522, 664, 530, 73, 668, 69, 672, 676, 680, 684, 538, 542, 546, 252, 551, 555, 688] (by decide +kernel) (by decide +kernel) w h).1
theorem wsL_law_x0 : ∀ w ∈ (vx_atS RX0 37 "java/lang/IllegalStateException" ["java/lang/RuntimeException", "java/lang/Exception"]).filter goodWord, w ∈ lw_tbl := by decide +kernel
theorem wsL_law_x1 : ∀ w ∈ (nx_at RX0 60).filter goodWord, w ∈ lw_tbl := by decide +kernel
theorem wsL_law_x2 : ∀ w ∈ (vx_atS RX0 81 "java/lang/IllegalArgumentException" ["java/lang/RuntimeException", "java/lang/Exception"]).filter goodWord, w ∈ lw_tbl := by decide +kernel
theorem wsL_law_in : ∀ w ∈ wsL_law, w ∈ lw_tbl := fun w h => (List.mem_append.mp h).elim (fun h => (List.mem_append.mp h).elim (fun h => (List.mem_append.mp h).elim (fun h => wsL_law_in0 w h) (fun h => wsL_law_x0 w h)) (fun h => wsL_law_x1 w h)) (fun h => wsL_law_x2 w h)
theorem inlX0 : ∀ w ∈ wsX00, w ∈ wsL_law := fun _ h => List.mem_append_left _ (List.mem_append_left _ (List.mem_append_left _ (List.mem_append_left _ (List.mem_append_left _ (List.mem_append_left _ (List.mem_append_right _ h))))))
theorem inX0 : ∀ w ∈ wsX00, w ∈ lw_tbl := fun w h => wsL_law_in w (inlX0 w h)
theorem inlX1 : ∀ w ∈ wsX10, w ∈ wsL_law := fun _ h => List.mem_append_left _ (List.mem_append_left _ (List.mem_append_left _ (List.mem_append_left _ (List.mem_append_left _ (List.mem_append_right _ h)))))
theorem inX1 : ∀ w ∈ wsX10, w ∈ lw_tbl := fun w h => wsL_law_in w (inlX1 w h)
theorem inJ5 : ∀ w ∈ wsJ50, w ∈ lw_tbl := by decide +kernel
theorem inJx8e188 : ∀ w ∈ wsJx8e1880, w ∈ lw_tbl := by decide +kernel
theorem inJ6 : ∀ w ∈ wsJ60, w ∈ lw_tbl := by decide +kernel
theorem inJ9 : ∀ w ∈ wsJ90, w ∈ lw_tbl := by decide +kernel
theorem inJ0 : ∀ w ∈ wsJ00, w ∈ lw_tbl := by decide +kernel
theorem inlJ4 : ∀ w ∈ wsJ40, w ∈ wsL_law := fun _ h => List.mem_append_left _ (List.mem_append_left _ (List.mem_append_left _ (List.mem_append_left _ (List.mem_append_right _ h))))
theorem inJ4 : ∀ w ∈ wsJ40, w ∈ lw_tbl := fun w h => wsL_law_in w (inlJ4 w h)
theorem inJ1 : ∀ w ∈ wsJ10, w ∈ lw_tbl := by decide +kernel
theorem inJ2 : ∀ w ∈ wsJ20, w ∈ lw_tbl := by decide +kernel
theorem inJ10 : ∀ w ∈ wsJ100, w ∈ lw_tbl := by decide +kernel
theorem inJ7 : ∀ w ∈ wsJ70, w ∈ lw_tbl := by decide +kernel
theorem inJ8 : ∀ w ∈ wsJ80, w ∈ lw_tbl := by decide +kernel
theorem inJ3 : ∀ w ∈ wsJ30, w ∈ lw_tbl := by decide +kernel
set_option maxRecDepth 20000 in
theorem ggX0_init_J7_fill_53178 : GoodIn wsX0_init wsJ7_fill_53178 := goodIn_r _ [12] (by decide +kernel) (by decide +kernel)
set_option maxRecDepth 20000 in
theorem gX0_init_J7_fill_53178 : GoodIn wsX0_init (va_wsS RX0 16 yJ7_fill_53178 wsJ7_fill_53178) := goodIn_app (goodIn_of _ (by decide +kernel)) ggX0_init_J7_fill_53178
set_option maxRecDepth 20000 in
theorem ggX0_call_X0_checkMutator : GoodIn wsX0_call wsX0_checkMutator := goodIn_ca (goodIn_r _ [8, 9, 10] (by decide +kernel) (by decide +kernel)) (goodIn_sub (fun _ h => List.mem_cons_of_mem _ (List.mem_append_right _ h)) (by decide +kernel))
set_option maxRecDepth 20000 in
theorem gX0_call_X0_checkMutator : GoodIn wsX0_call (va_wsS RX0 29 yX0_checkMutator wsX0_checkMutator) := goodIn_app (goodIn_of _ (by decide +kernel)) ggX0_call_X0_checkMutator
set_option maxRecDepth 20000 in
theorem ggX0_call_X0_addFrame : GoodIn wsX0_call wsX0_addFrame := goodIn_r _ [14, 3, 15, 16, 17, 18, 19, 20, 21, 22, 23, 7, 24, 25, 26, 27, 28, 29, 30, 31, 32, 33, 34, 35, 36, 37, 38, 39, 40, 41, 42] (by decide +kernel) (by decide +kernel)
set_option maxRecDepth 20000 in
theorem gX0_call_X0_addFrame : GoodIn wsX0_call (wsV RX0 40 RX0 yX0_addFrame wsX0_addFrame) := goodIn_app (goodIn_of _ (by decide +kernel)) ggX0_call_X0_addFrame
set_option maxRecDepth 20000 in
theorem ggX0_leave_X0_checkMutator : GoodIn wsX0_leave wsX0_checkMutator := goodIn_ca (goodIn_r _ [8, 9, 10] (by decide +kernel) (by decide +kernel)) (goodIn_sub (fun _ h => List.mem_cons_of_mem _ (List.mem_append_right _ h)) (by decide +kernel))
set_option maxRecDepth 20000 in
theorem gX0_leave_X0_checkMutator : GoodIn wsX0_leave (va_wsS RX0 29 yX0_checkMutator wsX0_checkMutator) := goodIn_app (goodIn_of _ (by decide +kernel)) ggX0_leave_X0_checkMutator
set_option maxRecDepth 20000 in
theorem ggX0_leave_X0_checkSlot : GoodIn wsX0_leave wsX0_checkSlot := goodIn_ca (goodIn_r _ [13, 9, 10] (by decide +kernel) (by decide +kernel)) (goodIn_sub (fun _ h => List.mem_cons_of_mem _ (List.mem_append_right _ h)) (by decide +kernel))
set_option maxRecDepth 20000 in
theorem gX0_leave_X0_checkSlot : GoodIn wsX0_leave (va_wsS RX0 43 yX0_checkSlot wsX0_checkSlot) := goodIn_app (goodIn_of _ (by decide +kernel)) ggX0_leave_X0_checkSlot
set_option maxRecDepth 20000 in
theorem ggX0_leave_X0_upperFrame : GoodIn wsX0_leave wsX0_upperFrame := goodIn_r _ [17, 3, 18, 19, 20, 7, 21, 31, 32, 33, 34] (by decide +kernel) (by decide +kernel)
set_option maxRecDepth 20000 in
theorem gX0_leave_X0_upperFrame : GoodIn wsX0_leave (wsV RX0 48 RX0 yX0_upperFrame wsX0_upperFrame) := goodIn_app (goodIn_of _ (by decide +kernel)) ggX0_leave_X0_upperFrame
set_option maxRecDepth 20000 in
theorem ggX0_leave_X0_dropFrames : GoodIn wsX0_leave wsX0_dropFrames := goodIn_r _ [25, 3, 4, 26, 27, 28, 29, 30, 18, 19, 20, 7, 21, 31, 32, 33, 34] (by decide +kernel) (by decide +kernel)
set_option maxRecDepth 20000 in
theorem gX0_leave_X0_dropFrames : GoodIn wsX0_leave (wsV RX0 52 RX0 yX0_dropFrames wsX0_dropFrames) := goodIn_app (goodIn_of _ (by decide +kernel)) ggX0_leave_X0_dropFrames
set_option maxRecDepth 20000 in
theorem ggX0_cut_X0_checkMutator : GoodIn wsX0_cut wsX0_checkMutator := goodIn_ca (goodIn_r _ [7, 1, 2] (by decide +kernel) (by decide +kernel)) (goodIn_sub (fun _ h => List.mem_cons_of_mem _ (List.mem_append_right _ h)) (by decide +kernel))
set_option maxRecDepth 20000 in
theorem gX0_cut_X0_checkMutator : GoodIn wsX0_cut (va_wsS RX0 29 yX0_checkMutator wsX0_checkMutator) := goodIn_app (goodIn_of _ (by decide +kernel)) ggX0_cut_X0_checkMutator
set_option maxRecDepth 20000 in
theorem ggX0_cut_X0_dropFrames : GoodIn wsX0_cut wsX0_dropFrames := goodIn_r _ [11, 3, 12, 13, 14, 15, 16, 17, 18, 19, 20, 6, 21, 22, 23, 24, 25] (by decide +kernel) (by decide +kernel)
set_option maxRecDepth 20000 in
theorem gX0_cut_X0_dropFrames : GoodIn wsX0_cut (wsV RX0 52 RX0 yX0_dropFrames wsX0_dropFrames) := goodIn_app (goodIn_of _ (by decide +kernel)) ggX0_cut_X0_dropFrames
set_option maxRecDepth 20000 in
theorem ggX0_get_X0_checkMutator : GoodIn wsX0_get wsX0_checkMutator := goodIn_ca (goodIn_r _ [5, 6, 7] (by decide +kernel) (by decide +kernel)) (goodIn_sub (fun _ h => List.mem_cons_of_mem _ (List.mem_append_right _ h)) (by decide +kernel))
set_option maxRecDepth 20000 in
theorem gX0_get_X0_checkMutator : GoodIn wsX0_get (va_wsS RX0 29 yX0_checkMutator wsX0_checkMutator) := goodIn_app (goodIn_of _ (by decide +kernel)) ggX0_get_X0_checkMutator
set_option maxRecDepth 20000 in
theorem ggX0_get_X0_checkPlace : GoodIn wsX0_get wsX0_checkPlace := goodIn_ca (goodIn_r _ [10, 6, 7] (by decide +kernel) (by decide +kernel)) (goodIn_sub (fun _ h => List.mem_cons_of_mem _ (List.mem_append_right _ h)) (by decide +kernel))
set_option maxRecDepth 20000 in
theorem gX0_get_X0_checkPlace : GoodIn wsX0_get (va_wsS RX0 61 yX0_checkPlace wsX0_checkPlace) := goodIn_app (goodIn_of _ (by decide +kernel)) ggX0_get_X0_checkPlace
set_option maxRecDepth 20000 in
theorem ggX0_get_X0_indexOfPlace : GoodIn wsX0_get wsX0_indexOfPlace := goodIn_r _ [14, 15, 16, 17, 18, 4, 19, 20, 21, 22, 23, 24, 25, 26, 27, 28] (by decide +kernel) (by decide +kernel)
set_option maxRecDepth 20000 in
theorem gX0_get_X0_indexOfPlace : GoodIn wsX0_get (wsV RX0 64 RX0 yX0_indexOfPlace wsX0_indexOfPlace) := goodIn_app (goodIn_of _ (by decide +kernel)) ggX0_get_X0_indexOfPlace
set_option maxRecDepth 20000 in
theorem ggX0_put_X0_checkMutator : GoodIn wsX0_put wsX0_checkMutator := goodIn_ca (goodIn_r _ [5, 6, 7] (by decide +kernel) (by decide +kernel)) (goodIn_sub (fun _ h => List.mem_cons_of_mem _ (List.mem_append_left _ (List.mem_append_right _ h))) (by decide +kernel))
set_option maxRecDepth 20000 in
theorem gX0_put_X0_checkMutator : GoodIn wsX0_put (va_wsS RX0 29 yX0_checkMutator wsX0_checkMutator) := goodIn_app (goodIn_of _ (by decide +kernel)) ggX0_put_X0_checkMutator
set_option maxRecDepth 20000 in
theorem ggX0_put_X0_checkPlace : GoodIn wsX0_put wsX0_checkPlace := goodIn_ca (goodIn_r _ [10, 6, 7] (by decide +kernel) (by decide +kernel)) (goodIn_sub (fun _ h => List.mem_cons_of_mem _ (List.mem_append_left _ (List.mem_append_right _ h))) (by decide +kernel))
set_option maxRecDepth 20000 in
theorem gX0_put_X0_checkPlace : GoodIn wsX0_put (va_wsS RX0 61 yX0_checkPlace wsX0_checkPlace) := goodIn_app (goodIn_of _ (by decide +kernel)) ggX0_put_X0_checkPlace
set_option maxRecDepth 20000 in
theorem ggX0_put_X0_checkValue : GoodIn wsX0_put wsX0_checkValue := goodIn_ca (goodIn_r _ [13, 14, 15, 16] (by decide +kernel) (by decide +kernel)) (goodIn_sub (fun _ h => List.mem_cons_of_mem _ (List.mem_append_right _ h)) (by decide +kernel))
set_option maxRecDepth 20000 in
theorem gX0_put_X0_checkValue : GoodIn wsX0_put (va_wsS RX0 68 yX0_checkValue wsX0_checkValue) := goodIn_app (goodIn_of _ (by decide +kernel)) ggX0_put_X0_checkValue
set_option maxRecDepth 20000 in
theorem ggX0_put_X0_indexOfPlace : GoodIn wsX0_put wsX0_indexOfPlace := goodIn_r _ [20, 21, 22, 23, 24, 4, 25, 26, 27, 28, 29, 30, 31, 32, 33, 34] (by decide +kernel) (by decide +kernel)
set_option maxRecDepth 20000 in
theorem gX0_put_X0_indexOfPlace : GoodIn wsX0_put (wsV RX0 64 RX0 yX0_indexOfPlace wsX0_indexOfPlace) := goodIn_app (goodIn_of _ (by decide +kernel)) ggX0_put_X0_indexOfPlace
set_option maxRecDepth 20000 in
theorem ggX0_peek_X0_checkMutator : GoodIn wsX0_peek wsX0_checkMutator := goodIn_ca (goodIn_r _ [8, 1, 2] (by decide +kernel) (by decide +kernel)) (goodIn_sub (fun _ h => List.mem_cons_of_mem _ (List.mem_append_right _ h)) (by decide +kernel))
set_option maxRecDepth 20000 in
theorem gX0_peek_X0_checkMutator : GoodIn wsX0_peek (va_wsS RX0 29 yX0_checkMutator wsX0_checkMutator) := goodIn_app (goodIn_of _ (by decide +kernel)) ggX0_peek_X0_checkMutator
set_option maxRecDepth 20000 in
theorem ggX0_peek_X0_checkSlot : GoodIn wsX0_peek wsX0_checkSlot := goodIn_ca (goodIn_r _ [11, 1, 2] (by decide +kernel) (by decide +kernel)) (goodIn_sub (fun _ h => List.mem_cons_of_mem _ (List.mem_append_right _ h)) (by decide +kernel))
set_option maxRecDepth 20000 in
theorem gX0_peek_X0_checkSlot : GoodIn wsX0_peek (va_wsS RX0 43 yX0_checkSlot wsX0_checkSlot) := goodIn_app (goodIn_of _ (by decide +kernel)) ggX0_peek_X0_checkSlot
set_option maxRecDepth 20000 in
theorem ggX0_peek_X0_startOfFrame : GoodIn wsX0_peek wsX0_startOfFrame := goodIn_r _ [15, 3, 16, 17, 18, 19] (by decide +kernel) (by decide +kernel)
set_option maxRecDepth 20000 in
theorem gX0_peek_X0_startOfFrame : GoodIn wsX0_peek (wsV RX0 71 RX0 yX0_startOfFrame wsX0_startOfFrame) := goodIn_app (goodIn_of _ (by decide +kernel)) ggX0_peek_X0_startOfFrame
set_option maxRecDepth 20000 in
theorem ggX0_holds_X0_checkValue : GoodIn wsX0_holds wsX0_checkValue := goodIn_ca (goodIn_r _ [4, 5, 6, 7] (by decide +kernel) (by decide +kernel)) (goodIn_sub (fun _ h => List.mem_cons_of_mem _ (List.mem_append_right _ h)) (by decide +kernel))
set_option maxRecDepth 20000 in
theorem gX0_holds_X0_checkValue : GoodIn wsX0_holds (va_wsS RX0 68 yX0_checkValue wsX0_checkValue) := goodIn_app (goodIn_of _ (by decide +kernel)) ggX0_holds_X0_checkValue
set_option maxRecDepth 20000 in
theorem ggX0_holds_X0_countOf : GoodIn wsX0_holds wsX0_countOf := goodIn_r _ [11, 12, 13, 14, 15, 16, 17] (by decide +kernel) (by decide +kernel)
set_option maxRecDepth 20000 in
theorem gX0_holds_X0_countOf : GoodIn wsX0_holds (wsV RX0 74 RX0 yX0_countOf wsX0_countOf) := goodIn_app (goodIn_of _ (by decide +kernel)) ggX0_holds_X0_countOf
set_option maxRecDepth 20000 in
theorem ggX0_turn_X0_checkValue : GoodIn wsX0_turn wsX0_checkValue := goodIn_ca (goodIn_r _ [6, 1, 2, 7] (by decide +kernel) (by decide +kernel)) (goodIn_sub (fun _ h => List.mem_cons_of_mem _ (List.mem_append_right _ h)) (by decide +kernel))
set_option maxRecDepth 20000 in
theorem gX0_turn_X0_checkValue : GoodIn wsX0_turn (va_wsS RX0 68 yX0_checkValue wsX0_checkValue) := goodIn_app (goodIn_of _ (by decide +kernel)) ggX0_turn_X0_checkValue
set_option maxRecDepth 20000 in
theorem ggX0_turn_X0_replace : GoodIn wsX0_turn wsX0_replace := goodIn_r _ [11, 12, 13, 14, 15, 16, 17] (by decide +kernel) (by decide +kernel)
set_option maxRecDepth 20000 in
theorem gX0_turn_X0_replace : GoodIn wsX0_turn (wsV RX0 84 RX0 yX0_replace wsX0_replace) := goodIn_app (goodIn_of _ (by decide +kernel)) ggX0_turn_X0_replace
set_option maxRecDepth 20000 in
theorem ggX0_renew_X0_replace : GoodIn wsX0_renew wsX0_replace := goodIn_r _ [7, 1, 2, 8, 9, 10, 11] (by decide +kernel) (by decide +kernel)
set_option maxRecDepth 20000 in
theorem gX0_renew_X0_replace : GoodIn wsX0_renew (wsV RX0 84 RX0 yX0_replace wsX0_replace) := goodIn_app (goodIn_of _ (by decide +kernel)) ggX0_renew_X0_replace
set_option maxRecDepth 20000 in
theorem ggX0_count_X0_framesOfAll : GoodIn wsX0_count wsX0_framesOfAll := goodIn_r _ [9, 10, 32, 33, 34, 35] (by decide +kernel) (by decide +kernel)
set_option maxRecDepth 20000 in
theorem gX0_count_X0_framesOfAll : GoodIn wsX0_count (wsV RX0 88 RX0 yX0_framesOfAll wsX0_framesOfAll) := goodIn_app (goodIn_of _ (by decide +kernel)) ggX0_count_X0_framesOfAll
set_option maxRecDepth 20000 in
theorem ggX0_count_X0_countOf : GoodIn wsX0_count wsX0_countOf := goodIn_r _ [14, 3, 15, 32, 33, 34, 35] (by decide +kernel) (by decide +kernel)
set_option maxRecDepth 20000 in
theorem gX0_count_X0_countOf : GoodIn wsX0_count (wsV RX0 74 RX0 yX0_countOf wsX0_countOf) := goodIn_app (goodIn_of _ (by decide +kernel)) ggX0_count_X0_countOf
set_option maxRecDepth 20000 in
theorem ggX0_count_X0_mostFrames : GoodIn wsX0_count wsX0_mostFrames := goodIn_r _ [19, 10, 20, 21, 22, 23, 32, 33, 34, 35] (by decide +kernel) (by decide +kernel)
set_option maxRecDepth 20000 in
theorem gX0_count_X0_mostFrames : GoodIn wsX0_count (wsV RX0 92 RX0 yX0_mostFrames wsX0_mostFrames) := goodIn_app (goodIn_of _ (by decide +kernel)) ggX0_count_X0_mostFrames
set_option maxRecDepth 20000 in
theorem ggX0_count_X0_differentValues : GoodIn wsX0_count wsX0_differentValues := goodIn_r _ [27, 3, 15, 28, 29, 30, 8, 31, 32, 33, 34, 35] (by decide +kernel) (by decide +kernel)
set_option maxRecDepth 20000 in
theorem gX0_count_X0_differentValues : GoodIn wsX0_count (wsV RX0 95 RX0 yX0_differentValues wsX0_differentValues) := goodIn_app (goodIn_of _ (by decide +kernel)) ggX0_count_X0_differentValues
set_option maxRecDepth 20000 in
theorem ggX0_upperFrame_X0_startOfFrame : GoodIn wsX0_upperFrame wsX0_startOfFrame := goodIn_r _ [6, 1, 7, 8, 9, 10] (by decide +kernel) (by decide +kernel)
set_option maxRecDepth 20000 in
theorem gX0_upperFrame_X0_startOfFrame : GoodIn wsX0_upperFrame (wsV RX0 71 RX0 yX0_startOfFrame wsX0_startOfFrame) := goodIn_app (goodIn_of _ (by decide +kernel)) ggX0_upperFrame_X0_startOfFrame
set_option maxRecDepth 20000 in
theorem ggX0_indexOfPlace_X0_upperFrame : GoodIn wsX0_indexOfPlace wsX0_upperFrame := goodIn_r _ [6, 7, 8, 9, 10, 5, 11, 12, 13, 14, 15] (by decide +kernel) (by decide +kernel)
set_option maxRecDepth 20000 in
theorem gX0_indexOfPlace_X0_upperFrame : GoodIn wsX0_indexOfPlace (wsV RX0 48 RX0 yX0_upperFrame wsX0_upperFrame) := goodIn_app (goodIn_of _ (by decide +kernel)) ggX0_indexOfPlace_X0_upperFrame
set_option maxRecDepth 20000 in
theorem ggX0_addFrame_X0_startOfFrame : GoodIn wsX0_addFrame wsX0_startOfFrame := goodIn_r _ [12, 1, 23, 24, 25, 26] (by decide +kernel) (by decide +kernel)
set_option maxRecDepth 20000 in
theorem gX0_addFrame_X0_startOfFrame : GoodIn wsX0_addFrame (wsV RX0 71 RX0 yX0_startOfFrame wsX0_startOfFrame) := goodIn_app (goodIn_of _ (by decide +kernel)) ggX0_addFrame_X0_startOfFrame
set_option maxRecDepth 20000 in
theorem ggX0_addFrame_J7_fill_fda19 : GoodIn wsX0_addFrame wsJ7_fill_fda19 := goodIn_r _ [16, 17, 18, 15, 19, 20, 21, 22, 27, 28, 29, 30] (by decide +kernel) (by decide +kernel)
set_option maxRecDepth 20000 in
theorem gX0_addFrame_J7_fill_fda19 : GoodIn wsX0_addFrame (va_wsS RX0 115 yJ7_fill_fda19 wsJ7_fill_fda19) := goodIn_app (goodIn_of _ (by decide +kernel)) ggX0_addFrame_J7_fill_fda19
set_option maxRecDepth 20000 in
theorem ggX0_dropFrames_X0_startOfFrame : GoodIn wsX0_dropFrames wsX0_startOfFrame := goodIn_r _ [12, 1, 13, 14, 15, 16] (by decide +kernel) (by decide +kernel)
set_option maxRecDepth 20000 in
theorem gX0_dropFrames_X0_startOfFrame : GoodIn wsX0_dropFrames (wsV RX0 71 RX0 yX0_startOfFrame wsX0_startOfFrame) := goodIn_app (goodIn_of _ (by decide +kernel)) ggX0_dropFrames_X0_startOfFrame
set_option maxRecDepth 20000 in
theorem ggX0_differentValues_X0_isFirstOfItsValue : GoodIn wsX0_differentValues wsX0_isFirstOfItsValue := goodIn_r _ [7, 2, 8, 9, 10, 11] (by decide +kernel) (by decide +kernel)
set_option maxRecDepth 20000 in
theorem gX0_differentValues_X0_isFirstOfItsValue : GoodIn wsX0_differentValues (wsV RX0 123 RX0 yX0_isFirstOfItsValue wsX0_isFirstOfItsValue) := goodIn_app (goodIn_of _ (by decide +kernel)) ggX0_differentValues_X0_isFirstOfItsValue
set_option maxRecDepth 20000 in
theorem ggX1_call_X1_isMutator : GoodIn wsX1_call wsX1_isMutator := goodIn_r _ [8] (by decide +kernel) (by decide +kernel)
set_option maxRecDepth 20000 in
theorem gX1_call_X1_isMutator : GoodIn wsX1_call (va_wsS RX1 36 yX1_isMutator wsX1_isMutator) := goodIn_app (goodIn_of _ (by decide +kernel)) ggX1_call_X1_isMutator
set_option maxRecDepth 20000 in
theorem ggX1_call_X1_framesOf : GoodIn wsX1_call wsX1_framesOf := goodIn_r _ [12, 2, 1, 18, 19, 20, 21, 22, 23, 24, 25, 26, 27] (by decide +kernel) (by decide +kernel)
set_option maxRecDepth 20000 in
theorem gX1_call_X1_framesOf : GoodIn wsX1_call (wsV RX1 40 RX1 yX1_framesOf wsX1_framesOf) := goodIn_app (goodIn_of _ (by decide +kernel)) ggX1_call_X1_framesOf
set_option maxRecDepth 20000 in
theorem ggX1_call_X1_goes : GoodIn wsX1_call wsX1_goes := goodIn_r _ [16, 17, 18, 19, 20, 21, 22, 23, 24, 25, 26, 27] (by decide +kernel) (by decide +kernel)
set_option maxRecDepth 20000 in
theorem gX1_call_X1_goes : GoodIn wsX1_call (wsV RX1 44 RX1 yX1_goes wsX1_goes) := goodIn_app (goodIn_of _ (by decide +kernel)) ggX1_call_X1_goes
set_option maxRecDepth 20000 in
theorem ggX1_leave_X1_isMutator : GoodIn wsX1_leave wsX1_isMutator := goodIn_r _ [5] (by decide +kernel) (by decide +kernel)
set_option maxRecDepth 20000 in
theorem gX1_leave_X1_isMutator : GoodIn wsX1_leave (va_wsS RX1 36 yX1_isMutator wsX1_isMutator) := goodIn_app (goodIn_of _ (by decide +kernel)) ggX1_leave_X1_isMutator
set_option maxRecDepth 20000 in
theorem ggX1_leave_X1_framesOf : GoodIn wsX1_leave wsX1_framesOf := goodIn_r _ [9, 10, 11, 25, 26, 27, 28, 29, 30, 31, 32, 33, 34] (by decide +kernel) (by decide +kernel)
set_option maxRecDepth 20000 in
theorem gX1_leave_X1_framesOf : GoodIn wsX1_leave (wsV RX1 40 RX1 yX1_framesOf wsX1_framesOf) := goodIn_app (goodIn_of _ (by decide +kernel)) ggX1_leave_X1_framesOf
set_option maxRecDepth 20000 in
theorem ggX1_leave_X1_goes : GoodIn wsX1_leave wsX1_goes := goodIn_r _ [15, 16, 25, 26, 27, 28, 29, 30, 31, 32, 33, 34] (by decide +kernel) (by decide +kernel)
set_option maxRecDepth 20000 in
theorem gX1_leave_X1_goes : GoodIn wsX1_leave (wsV RX1 44 RX1 yX1_goes wsX1_goes) := goodIn_app (goodIn_of _ (by decide +kernel)) ggX1_leave_X1_goes
set_option maxRecDepth 20000 in
theorem ggX1_leave_X1_frame : GoodIn wsX1_leave wsX1_frame := goodIn_r _ [20, 10, 11, 25, 26, 27, 28, 29, 30, 31, 32, 33, 34] (by decide +kernel) (by decide +kernel)

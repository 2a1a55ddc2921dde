set_option maxRecDepth 20000 in
theorem gJ2_inflate_0e8fd_J2_checkBoundsOffCount_d044e : GoodIn wsJ2_inflate_0e8fd (va_wsS RJ2 173 yJ2_checkBoundsOffCount_d044e wsJ2_checkBoundsOffCount_d044e) := goodIn_app (goodIn_of _ (by decide +kernel)) ggJ2_inflate_0e8fd_J2_checkBoundsOffCount_d044e
set_option maxRecDepth 20000 in
theorem ggJ2_inflate_0e8fd_J2_putChar_b72d1 : GoodIn wsJ2_inflate_0e8fd wsJ2_putChar_b72d1 := goodIn_r _ [19, 20, 21, 22, 5, 6, 3, 7] (by decide +kernel) (by decide +kernel)
set_option maxRecDepth 20000 in
theorem gJ2_inflate_0e8fd_J2_putChar_b72d1 : GoodIn wsJ2_inflate_0e8fd (va_wsS RJ2 111 yJ2_putChar_b72d1 wsJ2_putChar_b72d1) := goodIn_app (goodIn_of _ (by decide +kernel)) ggJ2_inflate_0e8fd_J2_putChar_b72d1
set_option maxRecDepth 20000 in
theorem ggJ2_getChars_ba4f3_J2_putChar_b72d1 : GoodIn wsJ2_getChars_ba4f3 wsJ2_putChar_b72d1 := goodIn_r _ [6, 7, 8, 9, 10, 11, 5, 12] (by decide +kernel) (by decide +kernel)
set_option maxRecDepth 20000 in
theorem gJ2_getChars_ba4f3_J2_putChar_b72d1 : GoodIn wsJ2_getChars_ba4f3 (va_wsS RJ2 111 yJ2_putChar_b72d1 wsJ2_putChar_b72d1) := goodIn_app (goodIn_of _ (by decide +kernel)) ggJ2_getChars_ba4f3_J2_putChar_b72d1
set_option maxRecDepth 20000 in
theorem ggJ2_checkBoundsBeginEnd_d044e_J2_length_9d52b : GoodIn wsJ2_checkBoundsBeginEnd_d044e wsJ2_length_9d52b := goodIn_r _ [4] (by decide +kernel) (by decide +kernel)
set_option maxRecDepth 20000 in
theorem gJ2_checkBoundsBeginEnd_d044e_J2_length_9d52b : GoodIn wsJ2_checkBoundsBeginEnd_d044e (va_wsS RJ2 48 yJ2_length_9d52b wsJ2_length_9d52b) := goodIn_app (goodIn_of _ (by decide +kernel)) ggJ2_checkBoundsBeginEnd_d044e_J2_length_9d52b
set_option maxRecDepth 20000 in
theorem ggJ2_checkBoundsBeginEnd_d044e_J0_checkBoundsBeginEnd_23922 : GoodIn wsJ2_checkBoundsBeginEnd_d044e wsJ0_checkBoundsBeginEnd_23922 := goodIn_r _ [8, 9, 10, 11, 12, 13] (by decide +kernel) (by decide +kernel)
set_option maxRecDepth 20000 in
theorem gJ2_checkBoundsBeginEnd_d044e_J0_checkBoundsBeginEnd_23922 : GoodIn wsJ2_checkBoundsBeginEnd_d044e (va_wsS RJ2 241 yJ0_checkBoundsBeginEnd_23922 wsJ0_checkBoundsBeginEnd_23922) := goodIn_app (goodIn_of _ (by decide +kernel)) ggJ2_checkBoundsBeginEnd_d044e_J0_checkBoundsBeginEnd_23922
set_option maxRecDepth 20000 in
theorem ggJ2_checkBoundsOffCount_d044e_J2_length_9d52b : GoodIn wsJ2_checkBoundsOffCount_d044e wsJ2_length_9d52b := goodIn_r _ [4] (by decide +kernel) (by decide +kernel)
set_option maxRecDepth 20000 in
theorem gJ2_checkBoundsOffCount_d044e_J2_length_9d52b : GoodIn wsJ2_checkBoundsOffCount_d044e (va_wsS RJ2 48 yJ2_length_9d52b wsJ2_length_9d52b) := goodIn_app (goodIn_of _ (by decide +kernel)) ggJ2_checkBoundsOffCount_d044e_J2_length_9d52b
set_option maxRecDepth 20000 in
theorem ggJ2_checkBoundsOffCount_d044e_J0_checkBoundsOffCount_cabcc : GoodIn wsJ2_checkBoundsOffCount_d044e wsJ0_checkBoundsOffCount_cabcc := goodIn_r _ [8, 9, 10, 11, 12, 13] (by decide +kernel) (by decide +kernel)
set_option maxRecDepth 20000 in
theorem gJ2_checkBoundsOffCount_d044e_J0_checkBoundsOffCount_cabcc : GoodIn wsJ2_checkBoundsOffCount_d044e (va_wsS RJ2 419 yJ0_checkBoundsOffCount_cabcc wsJ0_checkBoundsOffCount_cabcc) := goodIn_app (goodIn_of _ (by decide +kernel)) ggJ2_checkBoundsOffCount_d044e_J0_checkBoundsOffCount_cabcc
set_option maxRecDepth 20000 in
theorem ggJ7_fill_fda19_J7_rangeCheck_23922 : GoodIn wsJ7_fill_fda19 wsJ7_rangeCheck_23922 := goodIn_r _ [4, 5, 6, 7, 8, 9, 10, 11] (by decide +kernel) (by decide +kernel)
set_option maxRecDepth 20000 in
theorem gJ7_fill_fda19_J7_rangeCheck_23922 : GoodIn wsJ7_fill_fda19 (va_wsS RJ7 13 yJ7_rangeCheck_23922 wsJ7_rangeCheck_23922) := goodIn_app (goodIn_of _ (by decide +kernel)) ggJ7_fill_fda19_J7_rangeCheck_23922
set_option maxRecDepth 20000 in
theorem ggJ7_copyOfRange_39247_J7_copyOfRangeByte_39247 : GoodIn wsJ7_copyOfRange_39247 wsJ7_copyOfRangeByte_39247 := goodIn_r _ [10, 11, 12, 13, 14, 15, 16, 17, 18, 19, 20, 21, 9, 22, 23, 24, 25, 26, 27, 28, 29] (by decide +kernel) (by decide +kernel)
set_option maxRecDepth 20000 in
theorem gJ7_copyOfRange_39247_J7_copyOfRangeByte_39247 : GoodIn wsJ7_copyOfRange_39247 (va_wsS RJ7 339 yJ7_copyOfRangeByte_39247 wsJ7_copyOfRangeByte_39247) := goodIn_app (goodIn_of _ (by decide +kernel)) ggJ7_copyOfRange_39247_J7_copyOfRangeByte_39247
set_option maxRecDepth 20000 in
theorem ggJ7_copyOfRangeByte_39247_J7_checkLength_df160 : GoodIn wsJ7_copyOfRangeByte_39247 wsJ7_checkLength_df160 := goodIn_r _ [13, 14, 15, 16, 17, 18, 19, 20] (by decide +kernel) (by decide +kernel)
set_option maxRecDepth 20000 in
theorem gJ7_copyOfRangeByte_39247_J7_checkLength_df160 : GoodIn wsJ7_copyOfRangeByte_39247 (va_wsS RJ7 343 yJ7_checkLength_df160 wsJ7_checkLength_df160) := goodIn_app (goodIn_of _ (by decide +kernel)) ggJ7_copyOfRangeByte_39247_J7_checkLength_df160
set_option maxRecDepth 20000 in
theorem ggJ8_newLength_cabcc_J8_hugeLength_7cf53 : GoodIn wsJ8_newLength_cabcc wsJ8_hugeLength_7cf53 := goodIn_r _ [9, 5] (by decide +kernel) (by decide +kernel)
set_option maxRecDepth 20000 in
theorem gJ8_newLength_cabcc_J8_hugeLength_7cf53 : GoodIn wsJ8_newLength_cabcc (va_wsS RJ8 201 yJ8_hugeLength_7cf53 wsJ8_hugeLength_7cf53) := goodIn_app (goodIn_of _ (by decide +kernel)) ggJ8_newLength_cabcc_J8_hugeLength_7cf53
set_option maxRecDepth 20000 in
theorem ggL_call_X0_call : GoodIn wsL_call wsX0_call := goodIn_ca (goodIn_ca (goodIn_r _ [7, 8, 9, 10, 11, 12, 13, 6, 14, 15, 16, 17, 18, 19, 20, 21, 22, 23, 24, 25, 26, 27, 28, 29, 30, 31, 32, 33, 34, 35, 36, 37, 38, 39, 40, 41, 42, 43, 44, 45, 46, 47, 48] (by decide +kernel) (by decide +kernel)) (goodIn_sub (fun _ h => List.mem_cons_of_mem _ (List.mem_append_left _ (List.mem_append_right _ h))) (by decide +kernel))) (goodIn_sub (fun _ h => List.mem_cons_of_mem _ (List.mem_append_right _ h)) (by decide +kernel))
set_option maxRecDepth 20000 in
theorem gL_call_X0_call : GoodIn wsL_call (wsV RL 7 RX0 yX0_call wsX0_call) := goodIn_app (goodIn_of _ (by decide +kernel)) ggL_call_X0_call
set_option maxRecDepth 20000 in
theorem ggL_leave_X0_leave : GoodIn wsL_leave wsX0_leave := goodIn_ca (goodIn_ca (goodIn_r _ [7, 8, 9, 10, 11, 12, 13, 6, 14, 15, 16, 17, 18, 19, 20, 21, 22, 23, 24, 25, 26, 27, 28, 29, 30, 31, 32, 33, 34, 35, 36, 37, 38, 39, 40] (by decide +kernel) (by decide +kernel)) (goodIn_sub (fun _ h => List.mem_cons_of_mem _ (List.mem_append_left _ (List.mem_append_right _ h))) (by decide +kernel))) (goodIn_sub (fun _ h => List.mem_cons_of_mem _ (List.mem_append_right _ h)) (by decide +kernel))
set_option maxRecDepth 20000 in
theorem gL_leave_X0_leave : GoodIn wsL_leave (wsV RL 17 RX0 yX0_leave wsX0_leave) := goodIn_app (goodIn_of _ (by decide +kernel)) ggL_leave_X0_leave
set_option maxRecDepth 20000 in
theorem ggL_cut_X0_cut : GoodIn wsL_cut wsX0_cut := goodIn_ca (goodIn_r _ [6, 7, 8, 9, 10, 11, 5, 12, 13, 14, 15, 16, 17, 18, 19, 20, 21, 22, 23, 24, 25, 26, 27, 28, 29, 30] (by decide +kernel) (by decide +kernel)) (goodIn_sub (fun _ h => List.mem_cons_of_mem _ (List.mem_append_right _ h)) (by decide +kernel))
set_option maxRecDepth 20000 in
theorem gL_cut_X0_cut : GoodIn wsL_cut (wsV RL 21 RX0 yX0_cut wsX0_cut) := goodIn_app (goodIn_of _ (by decide +kernel)) ggL_cut_X0_cut
set_option maxRecDepth 20000 in
theorem ggL_get_X0_get : GoodIn wsL_get wsX0_get := goodIn_ca (goodIn_r _ [6, 7, 8, 9, 5, 10, 11, 12, 13, 14, 15, 16, 17, 18, 19, 20, 21, 22, 23, 24, 25, 26, 27, 28, 29, 30, 31, 32, 33] (by decide +kernel) (by decide +kernel)) (goodIn_sub (fun _ h => List.mem_cons_of_mem _ (List.mem_append_right _ h)) (by decide +kernel))
set_option maxRecDepth 20000 in
theorem gL_get_X0_get : GoodIn wsL_get (wsV RL 24 RX0 yX0_get wsX0_get) := goodIn_app (goodIn_of _ (by decide +kernel)) ggL_get_X0_get
set_option maxRecDepth 20000 in
theorem ggL_put_X0_put : GoodIn wsL_put wsX0_put := goodIn_ca (goodIn_ca (goodIn_r _ [7, 8, 9, 10, 6, 11, 12, 13, 14, 15, 16, 17, 18, 19, 20, 21, 22, 23, 24, 25, 26, 27, 28, 29, 30, 31, 32, 33, 34, 35, 36, 37, 38, 39, 40] (by decide +kernel) (by decide +kernel)) (goodIn_sub (fun _ h => List.mem_cons_of_mem _ (List.mem_append_left _ (List.mem_append_right _ h))) (by decide +kernel))) (goodIn_sub (fun _ h => List.mem_cons_of_mem _ (List.mem_append_right _ h)) (by decide +kernel))
set_option maxRecDepth 20000 in
theorem gL_put_X0_put : GoodIn wsL_put (wsV RL 27 RX0 yX0_put wsX0_put) := goodIn_app (goodIn_of _ (by decide +kernel)) ggL_put_X0_put
set_option maxRecDepth 20000 in
theorem ggL_peek_X0_peek : GoodIn wsL_peek wsX0_peek := goodIn_ca (goodIn_r _ [6, 7, 8, 9, 10, 11, 12, 5, 13, 14, 15, 16, 17, 18, 19, 20, 21, 22, 23, 24] (by decide +kernel) (by decide +kernel)) (goodIn_sub (fun _ h => List.mem_cons_of_mem _ (List.mem_append_right _ h)) (by decide +kernel))
set_option maxRecDepth 20000 in
theorem gL_peek_X0_peek : GoodIn wsL_peek (wsV RL 33 RX0 yX0_peek wsX0_peek) := goodIn_app (goodIn_of _ (by decide +kernel)) ggL_peek_X0_peek
set_option maxRecDepth 20000 in
theorem ggL_holds_X0_holds : GoodIn wsL_holds wsX0_holds := goodIn_ca (goodIn_r _ [6, 7, 8, 5, 9, 10, 11, 12, 13, 14, 15, 16, 17, 18, 19, 20, 21, 22] (by decide +kernel) (by decide +kernel)) (goodIn_sub (fun _ h => List.mem_cons_of_mem _ (List.mem_append_right _ h)) (by decide +kernel))
set_option maxRecDepth 20000 in
theorem gL_holds_X0_holds : GoodIn wsL_holds (wsV RL 36 RX0 yX0_holds wsX0_holds) := goodIn_app (goodIn_of _ (by decide +kernel)) ggL_holds_X0_holds
set_option maxRecDepth 20000 in
theorem ggL_root_X0_root : GoodIn wsL_root wsX0_root := goodIn_ca (goodIn_r _ [6, 7, 8, 9, 10, 11, 12, 13, 14] (by decide +kernel) (by decide +kernel)) (goodIn_sub (fun _ h => List.mem_cons_of_mem _ (List.mem_append_right _ h)) (by decide +kernel))
set_option maxRecDepth 20000 in
theorem gL_root_X0_root : GoodIn wsL_root (wsV RL 39 RX0 yX0_root wsX0_root) := goodIn_app (goodIn_of _ (by decide +kernel)) ggL_root_X0_root
set_option maxRecDepth 20000 in
theorem ggL_turn_X0_turn : GoodIn wsL_turn wsX0_turn := goodIn_ca (goodIn_r _ [6, 7, 8, 9, 10, 5, 11, 12, 13, 14, 15, 16, 17, 18, 19, 20, 21, 22] (by decide +kernel) (by decide +kernel)) (goodIn_sub (fun _ h => List.mem_cons_of_mem _ (List.mem_append_right _ h)) (by decide +kernel))
set_option maxRecDepth 20000 in
theorem gL_turn_X0_turn : GoodIn wsL_turn (wsV RL 42 RX0 yX0_turn wsX0_turn) := goodIn_app (goodIn_of _ (by decide +kernel)) ggL_turn_X0_turn
set_option maxRecDepth 20000 in
theorem ggL_count_X0_count : GoodIn wsL_count wsX0_count := goodIn_ca (goodIn_r _ [6, 7, 8, 9, 10, 11, 12, 13, 5, 14, 15, 16, 17, 18, 19, 20, 21, 22, 23, 24, 25, 26, 27, 28, 29, 30, 31, 32, 33, 34, 35, 36, 37, 38, 39, 40] (by decide +kernel) (by decide +kernel)) (goodIn_sub (fun _ h => List.mem_cons_of_mem _ (List.mem_append_right _ h)) (by decide +kernel))
set_option maxRecDepth 20000 in
theorem gL_count_X0_count : GoodIn wsL_count (wsV RL 45 RX0 yX0_count wsX0_count) := goodIn_app (goodIn_of _ (by decide +kernel)) ggL_count_X0_count
set_option maxRecDepth 20000 in
theorem ggL_law_X0_init : GoodIn wsL_law wsX0_init := goodIn_r _ [9, 10, 11, 12, 13, 14, 15, 16, 17, 18, 19, 20, 21, 289, 290, 291, 292] (by decide +kernel) (by decide +kernel)
set_option maxRecDepth 20000 in
theorem gL_law_X0_init : GoodIn wsL_law (wsX0_init) := ggL_law_X0_init
set_option maxRecDepth 20000 in
theorem ggL_law_X1_init : GoodIn wsL_law wsX1_init := goodIn_r _ [24, 25, 11, 12, 26, 13, 27, 28, 29, 30, 31, 32, 293, 294, 295, 296, 297, 298, 299, 300, 301, 302] (by decide +kernel) (by decide +kernel)
set_option maxRecDepth 20000 in
theorem gL_law_X1_init : GoodIn wsL_law (wsX1_init) := ggL_law_X1_init
set_option maxRecDepth 20000 in
theorem ggL_law_L_call : GoodIn wsL_law wsL_call := goodIn_ca (goodIn_ca (goodIn_r _ [36, 37, 38, 39, 40, 41, 2, 42, 43, 44, 15, 17, 45, 46, 47, 48, 49, 50, 51, 52, 53, 14, 16, 54, 55, 56, 57, 58, 59, 60, 61, 62, 63, 20, 64, 65, 66, 67, 68, 69, 70, 289, 290, 291, 292, 303, 304, 305, 306] (by decide +kernel) (by decide +kernel)) (goodIn_sub (fun _ h => List.mem_append_left _ (List.mem_append_left _ (List.mem_append_right _ h))) (by decide +kernel))) (goodIn_sub (fun _ h => List.mem_append_left _ (List.mem_append_right _ h)) (by decide +kernel))
set_option maxRecDepth 20000 in
theorem gL_law_L_call : GoodIn wsL_law (va_wsS RL 52 yL_call wsL_call) := goodIn_app (goodIn_of _ (by decide +kernel)) ggL_law_L_call
set_option maxRecDepth 20000 in
theorem ggL_law_X1_call : GoodIn wsL_law wsX1_call := goodIn_r _ [74, 27, 26, 28, 75, 76, 77, 5, 78, 79, 80, 81, 82, 83, 84, 85, 86, 87, 293, 294, 295, 296, 297, 298, 299, 300, 301, 302] (by decide +kernel) (by decide +kernel)
set_option maxRecDepth 20000 in
theorem gL_law_X1_call : GoodIn wsL_law (wsV RL 57 RX1 yX1_call wsX1_call) := goodIn_app (goodIn_of _ (by decide +kernel)) ggL_law_X1_call
set_option maxRecDepth 20000 in
theorem ggL_law_X1_thrown : GoodIn wsL_law wsX1_thrown := goodIn_r _ [91, 87, 293, 294, 295, 296, 297, 298, 299, 300, 301, 302] (by decide +kernel) (by decide +kernel)
set_option maxRecDepth 20000 in
theorem gL_law_X1_thrown : GoodIn wsL_law (wsV RL 58 RX1 yX1_thrown wsX1_thrown) := goodIn_app (goodIn_of _ (by decide +kernel)) ggL_law_X1_thrown
set_option maxRecDepth 20000 in
theorem ggL_law_L_leave : GoodIn wsL_law wsL_leave := goodIn_ca (goodIn_ca (goodIn_r _ [94, 37, 38, 95, 96, 97, 2, 98, 43, 44, 15, 14, 45, 46, 47, 48, 49, 99, 100, 101, 102, 103, 104, 105, 58, 59, 60, 61, 106, 107, 108, 109, 16, 54, 55, 56, 57, 289, 290, 291, 292] (by decide +kernel) (by decide +kernel)) (goodIn_sub (fun _ h => List.mem_append_left _ (List.mem_append_left _ (List.mem_append_right _ h))) (by decide +kernel))) (goodIn_sub (fun _ h => List.mem_append_left _ (List.mem_append_right _ h)) (by decide +kernel))
set_option maxRecDepth 20000 in
theorem gL_law_L_leave : GoodIn wsL_law (va_wsS RL 62 yL_leave wsL_leave) := goodIn_app (goodIn_of _ (by decide +kernel)) ggL_law_L_leave
set_option maxRecDepth 20000 in
theorem ggL_law_X1_leave : GoodIn wsL_law wsX1_leave := goodIn_r _ [113, 28, 76, 77, 5, 78, 79, 80, 81, 82, 26, 27, 83, 84, 85, 86, 87, 114, 115, 116, 117, 118, 119, 120, 121, 293, 294, 295, 296, 297, 298, 299, 300, 301, 302] (by decide +kernel) (by decide +kernel)
set_option maxRecDepth 20000 in
theorem gL_law_X1_leave : GoodIn wsL_law (wsV RL 65 RX1 yX1_leave wsX1_leave) := goodIn_app (goodIn_of _ (by decide +kernel)) ggL_law_X1_leave
set_option maxRecDepth 20000 in
theorem ggL_law_L_cut : GoodIn wsL_law wsL_cut := goodIn_ca (goodIn_r _ [124, 37, 125, 126, 127, 2, 128, 48, 49, 15, 45, 46, 47, 106, 107, 108, 109, 14, 16, 54, 55, 56, 57, 58, 59, 60, 61, 289, 290, 291, 292] (by decide +kernel) (by decide +kernel)) (goodIn_sub (fun _ h => List.mem_append_left _ (List.mem_append_right _ h)) (by decide +kernel))
set_option maxRecDepth 20000 in
theorem gL_law_L_cut : GoodIn wsL_law (va_wsS RL 66 yL_cut wsL_cut) := goodIn_app (goodIn_of _ (by decide +kernel)) ggL_law_L_cut
set_option maxRecDepth 20000 in
theorem ggL_law_X1_cut : GoodIn wsL_law wsX1_cut := goodIn_r _ [132, 76, 77, 5, 78, 79, 80, 81, 82, 26, 27, 83, 84, 85, 86, 87, 114, 115, 116, 117, 118, 119, 120, 121, 28, 293, 294, 295, 296, 297, 298, 299, 300, 301, 302] (by decide +kernel) (by decide +kernel)
set_option maxRecDepth 20000 in
theorem gL_law_X1_cut : GoodIn wsL_law (wsV RL 68 RX1 yX1_cut wsX1_cut) := goodIn_app (goodIn_of _ (by decide +kernel)) ggL_law_X1_cut
set_option maxRecDepth 20000 in
theorem ggL_law_L_get : GoodIn wsL_law wsL_get := goodIn_ca (goodIn_r _ [135, 37, 136, 137, 138, 2, 139, 14, 45, 46, 47, 48, 49, 140, 141, 142, 143, 144, 145, 146, 16, 102, 103, 104, 105, 15, 58, 59, 60, 61, 289, 290, 291, 292] (by decide +kernel) (by decide +kernel)) (goodIn_sub (fun _ h => List.mem_append_left _ (List.mem_append_right _ h)) (by decide +kernel))
set_option maxRecDepth 20000 in
theorem gL_law_L_get : GoodIn wsL_law (va_wsS RL 69 yL_get wsL_get) := goodIn_app (goodIn_of _ (by decide +kernel)) ggL_law_L_get
set_option maxRecDepth 20000 in
theorem ggL_law_X1_get : GoodIn wsL_law wsX1_get := goodIn_r _ [150, 28, 29, 151, 152, 5, 153, 76, 77, 78, 83, 84, 85, 86, 87, 79, 80, 81, 82, 26, 27, 114, 115, 116, 117, 293, 294, 295, 296, 297, 298, 299, 300, 301, 302] (by decide +kernel) (by decide +kernel)
set_option maxRecDepth 20000 in
theorem gL_law_X1_get : GoodIn wsL_law (wsV RL 71 RX1 yX1_get wsX1_get) := goodIn_app (goodIn_of _ (by decide +kernel)) ggL_law_X1_get
set_option maxRecDepth 20000 in
theorem ggL_law_L_put : GoodIn wsL_law wsL_put := goodIn_ca (goodIn_ca (goodIn_r _ [156, 37, 157, 158, 159, 160, 2, 161, 14, 45, 46, 47, 48, 49, 140, 141, 142, 162, 163, 164, 165, 166, 167, 143, 144, 145, 146, 16, 102, 103, 104, 105, 15, 58, 59, 60, 61, 289, 290, 291, 292] (by decide +kernel) (by decide +kernel)) (goodIn_sub (fun _ h => List.mem_append_left _ (List.mem_append_right _ h)) (by decide +kernel))) (goodIn_sub (fun _ h => List.mem_append_right _ h) (by decide +kernel))
set_option maxRecDepth 20000 in
theorem gL_law_L_put : GoodIn wsL_law (va_wsS RL 72 yL_put wsL_put) := goodIn_app (goodIn_of _ (by decide +kernel)) ggL_law_L_put
set_option maxRecDepth 20000 in
theorem ggL_law_X1_put : GoodIn wsL_law wsX1_put := goodIn_r _ [171, 28, 29, 151, 152, 5, 153, 76, 77, 78, 172, 173, 174, 175, 83, 84, 85, 86, 87, 176, 148, 149, 150, 79, 80, 81, 82, 26, 27, 114, 115, 116, 117, 293, 294, 295, 296, 297, 298, 299, 300, 301, 302] (by decide +kernel) (by decide +kernel)
set_option maxRecDepth 20000 in
theorem gL_law_X1_put : GoodIn wsL_law (wsV RL 75 RX1 yX1_put wsX1_put) := goodIn_app (goodIn_of _ (by decide +kernel)) ggL_law_X1_put
set_option maxRecDepth 20000 in
theorem ggL_law_L_peek : GoodIn wsL_law wsL_peek := goodIn_ca (goodIn_r _ [179, 37, 180, 181, 182, 2, 183, 48, 49, 15, 14, 45, 46, 47, 99, 100, 101, 58, 59, 60, 61, 289, 290, 291, 292] (by decide +kernel) (by decide +kernel)) (goodIn_sub (fun _ h => List.mem_append_left _ (List.mem_append_right _ h)) (by decide +kernel))
set_option maxRecDepth 20000 in
theorem gL_law_L_peek : GoodIn wsL_law (va_wsS RL 76 yL_peek wsL_peek) := goodIn_app (goodIn_of _ (by decide +kernel)) ggL_law_L_peek
set_option maxRecDepth 20000 in
theorem ggL_law_X1_peek : GoodIn wsL_law wsX1_peek := goodIn_r _ [187, 28, 76, 77, 5, 78, 114, 115, 116, 117, 26, 27, 83, 84, 85, 86, 87, 293, 294, 295, 296, 297, 298, 299, 300, 301, 302] (by decide +kernel) (by decide +kernel)
set_option maxRecDepth 20000 in
theorem gL_law_X1_peek : GoodIn wsL_law (wsV RL 78 RX1 yX1_peek wsX1_peek) := goodIn_app (goodIn_of _ (by decide +kernel)) ggL_law_X1_peek
set_option maxRecDepth 20000 in
theorem ggL_law_L_holds : GoodIn wsL_law wsL_holds := goodIn_ca (goodIn_r _ [190, 157, 191, 192, 193, 2, 194, 162, 163, 164, 165, 166, 167, 195, 196, 197, 198, 16, 14, 289, 290, 291, 292] (by decide +kernel) (by decide +kernel)) (goodIn_sub (fun _ h => List.mem_append_right _ h) (by decide +kernel))
set_option maxRecDepth 20000 in
theorem gL_law_L_holds : GoodIn wsL_law (va_wsS RL 79 yL_holds wsL_holds) := goodIn_app (goodIn_of _ (by decide +kernel)) ggL_law_L_holds
set_option maxRecDepth 20000 in
theorem ggL_law_X1_holds : GoodIn wsL_law wsX1_holds := goodIn_r _ [202, 203, 30, 26, 172, 173, 5, 174, 175, 83, 84, 85, 86, 87, 204, 205, 206, 207, 27, 28, 29, 208, 209, 210, 211, 293, 294, 295, 296, 297, 298, 299, 300, 301, 302] (by decide +kernel) (by decide +kernel)
set_option maxRecDepth 20000 in
theorem gL_law_X1_holds : GoodIn wsL_law (wsV RL 81 RX1 yX1_holds wsX1_holds) := goodIn_app (goodIn_of _ (by decide +kernel)) ggL_law_X1_holds
set_option maxRecDepth 20000 in
theorem ggL_law_L_root : GoodIn wsL_law wsL_root := goodIn_ca (goodIn_r _ [214, 157, 215, 216, 217, 2, 218, 165, 166, 16, 14, 289, 290, 291, 292] (by decide +kernel) (by decide +kernel)) (goodIn_sub (fun _ h => List.mem_append_right _ h) (by decide +kernel))
set_option maxRecDepth 20000 in
theorem gL_law_L_root : GoodIn wsL_law (va_wsS RL 82 yL_root wsL_root) := goodIn_app (goodIn_of _ (by decide +kernel)) ggL_law_L_root
set_option maxRecDepth 20000 in
theorem ggL_law_X1_root : GoodIn wsL_law wsX1_root := goodIn_r _ [222, 203, 30, 83, 84, 85, 5, 86, 87, 204, 205, 206, 207, 26, 27, 28, 29, 208, 209, 210, 211, 293, 294, 295, 296, 297, 298, 299, 300, 301, 302] (by decide +kernel) (by decide +kernel)
set_option maxRecDepth 20000 in
theorem gL_law_X1_root : GoodIn wsL_law (wsV RL 84 RX1 yX1_root wsX1_root) := goodIn_app (goodIn_of _ (by decide +kernel)) ggL_law_X1_root
set_option maxRecDepth 20000 in
theorem ggL_law_L_turn : GoodIn wsL_law wsL_turn := goodIn_ca (goodIn_r _ [225, 157, 226, 227, 228, 2, 229, 165, 166, 162, 163, 164, 167, 230, 231, 232, 233, 16, 14, 289, 290, 291, 292] (by decide +kernel) (by decide +kernel)) (goodIn_sub (fun _ h => List.mem_append_right _ h) (by decide +kernel))
set_option maxRecDepth 20000 in
theorem gL_law_L_turn : GoodIn wsL_law (va_wsS RL 85 yL_turn wsL_turn) := goodIn_app (goodIn_of _ (by decide +kernel)) ggL_law_L_turn
set_option maxRecDepth 20000 in
theorem ggL_law_X1_turn : GoodIn wsL_law wsX1_turn := goodIn_r _ [237, 26, 28, 29, 172, 173, 5, 174, 175, 83, 84, 85, 86, 87, 293, 294, 295, 296, 297, 298, 299, 300, 301, 302] (by decide +kernel) (by decide +kernel)
set_option maxRecDepth 20000 in
theorem gL_law_X1_turn : GoodIn wsL_law (wsV RL 87 RX1 yX1_turn wsX1_turn) := goodIn_app (goodIn_of _ (by decide +kernel)) ggL_law_X1_turn
set_option maxRecDepth 20000 in
theorem ggL_law_X0_renew : GoodIn wsL_law wsX0_renew := goodIn_r _ [241, 16, 14, 230, 231, 232, 2, 233, 289, 290, 291, 292] (by decide +kernel) (by decide +kernel)
set_option maxRecDepth 20000 in
theorem gL_law_X0_renew : GoodIn wsL_law (wsV RL 88 RX0 yX0_renew wsX0_renew) := goodIn_app (goodIn_of _ (by decide +kernel)) ggL_law_X0_renew
set_option maxRecDepth 20000 in
theorem ggL_law_X1_renew : GoodIn wsL_law wsX1_renew := goodIn_r _ [245, 87, 26, 28, 29, 204, 205, 206, 5, 207, 203, 27, 208, 209, 210, 211, 30, 246, 247, 248, 249, 31, 32, 250, 251, 252, 253, 254, 255, 256, 257, 293, 294, 295, 296, 297, 298, 299, 300, 301, 302] (by decide +kernel) (by decide +kernel)
set_option maxRecDepth 20000 in
theorem gL_law_X1_renew : GoodIn wsL_law (wsV RL 91 RX1 yX1_renew wsX1_renew) := goodIn_app (goodIn_of _ (by decide +kernel)) ggL_law_X1_renew
set_option maxRecDepth 20000 in
theorem ggL_law_L_count : GoodIn wsL_law wsL_count := goodIn_ca (goodIn_r _ [260, 157, 261, 262, 263, 2, 264, 165, 166, 16, 17, 265, 266, 267, 268, 15, 195, 196, 197, 198, 14, 269, 270, 271, 272, 273, 274, 275, 276, 277, 278, 279, 280, 281, 282, 283, 284, 289, 290, 291, 292] (by decide +kernel) (by decide +kernel)) (goodIn_sub (fun _ h => List.mem_append_right _ h) (by decide +kernel))
set_option maxRecDepth 20000 in
theorem gL_law_L_count : GoodIn wsL_law (va_wsS RL 92 yL_count wsL_count) := goodIn_app (goodIn_of _ (by decide +kernel)) ggL_law_L_count
set_option maxRecDepth 20000 in
theorem ggL_law_X1_count : GoodIn wsL_law wsX1_count := goodIn_r _ [288, 26, 203, 75, 83, 84, 85, 5, 86, 87, 204, 205, 206, 207, 27, 28, 29, 208, 209, 210, 211, 30, 79, 80, 81, 82, 246, 247, 248, 249, 31, 32, 250, 251, 252, 253, 293, 294, 295, 296, 297, 298, 299, 300, 301, 302] (by decide +kernel) (by decide +kernel)
set_option maxRecDepth 20000 in
theorem gL_law_X1_count : GoodIn wsL_law (wsV RL 94 RX1 yX1_count wsX1_count) := goodIn_app (goodIn_of _ (by decide +kernel)) ggL_law_X1_count
abbrev vwCl : List vw_C := [(RJ0, TJ0, 4), (RJ4, TJ4, 4), (RX0, TX0, 4), (RX1, TX1, 10)]

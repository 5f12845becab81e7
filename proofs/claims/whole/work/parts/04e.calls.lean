set_option maxRecDepth 20000 in
theorem ggX6_twinOf_X6_fits : GoodIn wsX6_twinOf wsX6_fits := goodIn_r _ [9, 10, 11, 12, 13, 14, 15, 8, 16, 21, 22, 23, 24, 25, 26, 27, 28, 29, 30, 31, 32, 33, 34, 35, 36, 37, 38, 39, 40, 41, 42, 43, 44, 45, 46, 47, 48, 49, 50, 51] (by decide +kernel) (by decide +kernel)
set_option maxRecDepth 20000 in
theorem gX6_twinOf_X6_fits : GoodIn wsX6_twinOf (wsV RX6 129 RX6 yX6_fits wsX6_fits) := goodIn_app (goodIn_of _ (by decide +kernel)) ggX6_twinOf_X6_fits
set_option maxRecDepth 20000 in
theorem ggX6_twinOf_X6_fieldOf : GoodIn wsX6_twinOf wsX6_fieldOf := goodIn_r _ [20, 13, 14, 15, 8, 16, 12, 21, 22, 23, 24, 25, 26, 27, 28, 29, 30, 31, 32, 33, 34, 35, 36, 37, 38, 39, 40, 41, 42, 43, 44, 45, 46, 47, 48, 49, 50, 51] (by decide +kernel) (by decide +kernel)
set_option maxRecDepth 20000 in
theorem gX6_twinOf_X6_fieldOf : GoodIn wsX6_twinOf (wsV RX6 133 RX6 yX6_fieldOf wsX6_fieldOf) := goodIn_app (goodIn_of _ (by decide +kernel)) ggX6_twinOf_X6_fieldOf
set_option maxRecDepth 20000 in
theorem ggX6_twin_X6_twinOf : GoodIn wsX6_twin wsX6_twinOf := goodIn_r _ [6, 7, 8, 9, 10, 11, 12, 13, 5, 14, 15, 16, 17, 18, 19, 20, 21, 22, 23, 24, 25, 26, 27, 28, 29, 30, 31, 32, 33, 34, 35, 36, 37, 38, 39, 40, 41, 42, 43, 44, 45, 46, 47, 48, 49, 50, 51, 52, 53, 54, 55, 56] (by decide +kernel) (by decide +kernel)
set_option maxRecDepth 20000 in
theorem gX6_twin_X6_twinOf : GoodIn wsX6_twin (wsV RX6 157 RX6 yX6_twinOf wsX6_twinOf) := goodIn_app (goodIn_of _ (by decide +kernel)) ggX6_twin_X6_twinOf
set_option maxRecDepth 20000 in
theorem ggX6_paper_X6_isBatch : GoodIn wsX6_paper wsX6_isBatch := goodIn_r _ [12, 13, 14, 41, 42, 43, 44, 45, 46, 47, 48, 49, 50, 51, 52, 53, 54, 55, 56, 57, 58, 59, 60, 61, 62, 63, 64, 65, 66, 67, 68, 69, 70, 71] (by decide +kernel) (by decide +kernel)
set_option maxRecDepth 20000 in
theorem gX6_paper_X6_isBatch : GoodIn wsX6_paper (wsV RX6 160 RX6 yX6_isBatch wsX6_isBatch) := goodIn_app (goodIn_of _ (by decide +kernel)) ggX6_paper_X6_isBatch
set_option maxRecDepth 20000 in
theorem ggX6_paper_X6_isAmount : GoodIn wsX6_paper wsX6_isAmount := goodIn_r _ [17, 18] (by decide +kernel) (by decide +kernel)
set_option maxRecDepth 20000 in
theorem gX6_paper_X6_isAmount : GoodIn wsX6_paper (va_wsS RX6 164 yX6_isAmount wsX6_isAmount) := goodIn_app (goodIn_of _ (by decide +kernel)) ggX6_paper_X6_isAmount
set_option maxRecDepth 20000 in
theorem ggX6_paper_X6_bad : GoodIn wsX6_paper wsX6_bad := goodIn_r _ [22, 14, 41, 42, 43, 44, 45, 46, 47, 48, 49, 50, 51, 52, 53, 54, 55, 56, 57, 58, 59, 60, 61, 62, 63, 64, 65, 66, 67, 68, 69, 70, 71] (by decide +kernel) (by decide +kernel)
set_option maxRecDepth 20000 in
theorem gX6_paper_X6_bad : GoodIn wsX6_paper (wsV RX6 64 RX6 yX6_bad wsX6_bad) := goodIn_app (goodIn_of _ (by decide +kernel)) ggX6_paper_X6_bad
set_option maxRecDepth 20000 in
theorem ggX6_paper_X6_fits : GoodIn wsX6_paper wsX6_fits := goodIn_r _ [26, 7, 27, 28, 29, 30, 31, 11, 32, 41, 42, 43, 44, 45, 46, 47, 48, 49, 50, 51, 52, 53, 54, 55, 56, 57, 58, 59, 60, 61, 62, 63, 64, 65, 66, 67, 68, 69, 70, 71] (by decide +kernel) (by decide +kernel)
set_option maxRecDepth 20000 in
theorem gX6_paper_X6_fits : GoodIn wsX6_paper (wsV RX6 129 RX6 yX6_fits wsX6_fits) := goodIn_app (goodIn_of _ (by decide +kernel)) ggX6_paper_X6_fits
set_option maxRecDepth 20000 in
theorem ggX6_paper_X6_twinOf : GoodIn wsX6_paper wsX6_twinOf := goodIn_r _ [36, 1, 4, 5, 6, 23, 24, 25, 11, 26, 7, 27, 28, 29, 30, 31, 32, 37, 38, 39, 40, 41, 42, 43, 44, 45, 46, 47, 48, 49, 50, 51, 52, 53, 54, 55, 56, 57, 58, 59, 60, 61, 62, 63, 64, 65, 66, 67, 68, 69, 70, 71] (by decide +kernel) (by decide +kernel)
set_option maxRecDepth 20000 in
theorem gX6_paper_X6_twinOf : GoodIn wsX6_paper (wsV RX6 157 RX6 yX6_twinOf wsX6_twinOf) := goodIn_app (goodIn_of _ (by decide +kernel)) ggX6_paper_X6_twinOf
set_option maxRecDepth 20000 in
theorem ggX6_paper_X6_fieldOf : GoodIn wsX6_paper wsX6_fieldOf := goodIn_r _ [40, 29, 30, 31, 11, 32, 28, 41, 42, 43, 44, 45, 46, 47, 48, 49, 50, 51, 52, 53, 54, 55, 56, 57, 58, 59, 60, 61, 62, 63, 64, 65, 66, 67, 68, 69, 70, 71] (by decide +kernel) (by decide +kernel)
set_option maxRecDepth 20000 in
theorem gX6_paper_X6_fieldOf : GoodIn wsX6_paper (wsV RX6 133 RX6 yX6_fieldOf wsX6_fieldOf) := goodIn_app (goodIn_of _ (by decide +kernel)) ggX6_paper_X6_fieldOf
set_option maxRecDepth 20000 in
theorem ggX6_amount_X6_bad : GoodIn wsX6_amount wsX6_bad := goodIn_r _ [8, 1, 13, 14, 15, 16, 17, 18, 19, 20, 21, 22, 23, 24, 25, 26, 27, 28, 29, 30, 31, 32, 33, 34, 35, 36, 37, 38, 39, 40, 41, 42, 43] (by decide +kernel) (by decide +kernel)
set_option maxRecDepth 20000 in
theorem gX6_amount_X6_bad : GoodIn wsX6_amount (wsV RX6 64 RX6 yX6_bad wsX6_bad) := goodIn_app (goodIn_of _ (by decide +kernel)) ggX6_amount_X6_bad
set_option maxRecDepth 20000 in
theorem ggX6_amount_X6_isAmount : GoodIn wsX6_amount wsX6_isAmount := goodIn_r _ [11, 12] (by decide +kernel) (by decide +kernel)
set_option maxRecDepth 20000 in
theorem gX6_amount_X6_isAmount : GoodIn wsX6_amount (va_wsS RX6 164 yX6_isAmount wsX6_isAmount) := goodIn_app (goodIn_of _ (by decide +kernel)) ggX6_amount_X6_isAmount
set_option maxRecDepth 20000 in
theorem ggX6_out_X6_isBatch : GoodIn wsX6_out wsX6_isBatch := goodIn_r _ [5, 6, 7, 16, 17, 18, 19, 20, 21, 22, 23, 24, 25, 26, 27, 28, 29, 30, 31, 32, 33, 34, 35, 36, 37, 38, 39, 40, 41, 42, 43, 44, 45, 46] (by decide +kernel) (by decide +kernel)
set_option maxRecDepth 20000 in
theorem gX6_out_X6_isBatch : GoodIn wsX6_out (wsV RX6 160 RX6 yX6_isBatch wsX6_isBatch) := goodIn_app (goodIn_of _ (by decide +kernel)) ggX6_out_X6_isBatch
set_option maxRecDepth 20000 in
theorem ggX6_out_X6_outOf : GoodIn wsX6_out wsX6_outOf := goodIn_r _ [11, 12, 13, 14, 15, 16, 17, 18, 19, 20, 21, 22, 23, 24, 25, 26, 27, 28, 29, 30, 31, 32, 33, 34, 35, 36, 37, 38, 39, 40, 41, 42, 43, 44, 45, 46] (by decide +kernel) (by decide +kernel)
set_option maxRecDepth 20000 in
theorem gX6_out_X6_outOf : GoodIn wsX6_out (wsV RX6 168 RX6 yX6_outOf wsX6_outOf) := goodIn_app (goodIn_of _ (by decide +kernel)) ggX6_out_X6_outOf
set_option maxRecDepth 20000 in
theorem ggX6_looks_X6_outOf : GoodIn wsX6_looks wsX6_outOf := goodIn_r _ [11, 12, 1, 2, 3, 20, 21, 22, 23, 24, 25, 26, 27, 28, 29, 30, 31, 32, 33, 34, 35, 36, 37, 38, 39, 40, 41, 42, 43, 44, 45, 46, 47, 48, 49, 50] (by decide +kernel) (by decide +kernel)
set_option maxRecDepth 20000 in
theorem gX6_looks_X6_outOf : GoodIn wsX6_looks (wsV RX6 168 RX6 yX6_outOf wsX6_outOf) := goodIn_app (goodIn_of _ (by decide +kernel)) ggX6_looks_X6_outOf
set_option maxRecDepth 20000 in
theorem ggX6_looks_X6_isAmount : GoodIn wsX6_looks wsX6_isAmount := goodIn_r _ [15, 16] (by decide +kernel) (by decide +kernel)
set_option maxRecDepth 20000 in
theorem gX6_looks_X6_isAmount : GoodIn wsX6_looks (va_wsS RX6 164 yX6_isAmount wsX6_isAmount) := goodIn_app (goodIn_of _ (by decide +kernel)) ggX6_looks_X6_isAmount
set_option maxRecDepth 20000 in
theorem ggX6_looks_X6_isSlip : GoodIn wsX6_looks wsX6_isSlip := goodIn_r _ [19] (by decide +kernel) (by decide +kernel)
set_option maxRecDepth 20000 in
theorem gX6_looks_X6_isSlip : GoodIn wsX6_looks (va_wsS RX6 172 yX6_isSlip wsX6_isSlip) := goodIn_app (goodIn_of _ (by decide +kernel)) ggX6_looks_X6_isSlip
set_option maxRecDepth 20000 in
theorem ggX6_slips_X6_isBatch : GoodIn wsX6_slips wsX6_isBatch := goodIn_r _ [6, 7, 8, 31, 32, 33, 34, 35, 36, 37, 38, 39, 40, 41, 42, 43, 44, 45, 46, 47, 48, 49, 50, 51, 52, 53, 54, 55, 56, 57, 58, 59, 60, 61] (by decide +kernel) (by decide +kernel)
set_option maxRecDepth 20000 in
theorem gX6_slips_X6_isBatch : GoodIn wsX6_slips (wsV RX6 160 RX6 yX6_isBatch wsX6_isBatch) := goodIn_app (goodIn_of _ (by decide +kernel)) ggX6_slips_X6_isBatch
set_option maxRecDepth 20000 in
theorem ggX6_slips_X6_looks : GoodIn wsX6_slips wsX6_looks := goodIn_r _ [12, 13, 14, 15, 16, 17, 18, 19, 20, 21, 5, 22, 23, 24, 25, 26, 27, 28, 29, 30, 31, 32, 33, 34, 35, 36, 37, 38, 39, 40, 41, 42, 43, 44, 45, 46, 47, 48, 49, 50, 51, 52, 53, 54, 55, 56, 57, 58, 59, 60, 61] (by decide +kernel) (by decide +kernel)
set_option maxRecDepth 20000 in
theorem gX6_slips_X6_looks : GoodIn wsX6_slips (wsV RX6 186 RX6 yX6_looks wsX6_looks) := goodIn_app (goodIn_of _ (by decide +kernel)) ggX6_slips_X6_looks
set_option maxRecDepth 20000 in
theorem ggX6_slip_X6_isBatch : GoodIn wsX6_slip wsX6_isBatch := goodIn_r _ [9, 10, 11, 35, 36, 37, 38, 39, 40, 41, 42, 43, 44, 45, 46, 47, 48, 49, 50, 51, 52, 53, 54, 55, 56, 57, 58, 59, 60, 61, 62, 63, 64, 65] (by decide +kernel) (by decide +kernel)
set_option maxRecDepth 20000 in
theorem gX6_slip_X6_isBatch : GoodIn wsX6_slip (wsV RX6 160 RX6 yX6_isBatch wsX6_isBatch) := goodIn_app (goodIn_of _ (by decide +kernel)) ggX6_slip_X6_isBatch
set_option maxRecDepth 20000 in
theorem ggX6_slip_X6_bad : GoodIn wsX6_slip wsX6_bad := goodIn_r _ [15, 11, 35, 36, 37, 38, 39, 40, 41, 42, 43, 44, 45, 46, 47, 48, 49, 50, 51, 52, 53, 54, 55, 56, 57, 58, 59, 60, 61, 62, 63, 64, 65] (by decide +kernel) (by decide +kernel)
set_option maxRecDepth 20000 in
theorem gX6_slip_X6_bad : GoodIn wsX6_slip (wsV RX6 64 RX6 yX6_bad wsX6_bad) := goodIn_app (goodIn_of _ (by decide +kernel)) ggX6_slip_X6_bad
set_option maxRecDepth 20000 in
theorem ggX6_slip_X6_looks : GoodIn wsX6_slip wsX6_looks := goodIn_r _ [19, 20, 21, 22, 2, 3, 4, 23, 24, 25, 8, 26, 27, 28, 29, 30, 31, 32, 33, 34, 35, 36, 37, 38, 39, 40, 41, 42, 43, 44, 45, 46, 47, 48, 49, 50, 51, 52, 53, 54, 55, 56, 57, 58, 59, 60, 61, 62, 63, 64, 65] (by decide +kernel) (by decide +kernel)
set_option maxRecDepth 20000 in
theorem gX6_slip_X6_looks : GoodIn wsX6_slip (wsV RX6 186 RX6 yX6_looks wsX6_looks) := goodIn_app (goodIn_of _ (by decide +kernel)) ggX6_slip_X6_looks
set_option maxRecDepth 20000 in
theorem ggL_teach_X5_teach : GoodIn wsL_teach wsX5_teach := goodIn_ca (goodIn_r _ [6, 7, 8, 9, 10, 11, 12, 13, 14, 15, 16, 17, 18, 19, 20, 21, 22, 23, 24, 25, 26, 27, 28, 29, 30, 31, 32] (by decide +kernel) (by decide +kernel)) (goodIn_sub (fun _ h => List.mem_cons_of_mem _ (List.mem_append_right _ h)) (by decide +kernel))
set_option maxRecDepth 20000 in
theorem gL_teach_X5_teach : GoodIn wsL_teach (wsV RL 7 RX5 yX5_teach wsX5_teach) := goodIn_app (goodIn_of _ (by decide +kernel)) ggL_teach_X5_teach
set_option maxRecDepth 20000 in
theorem ggL_tick_X5_tick : GoodIn wsL_tick wsX5_tick := goodIn_ca (goodIn_r _ [6, 7, 8, 9, 10, 11, 12, 13, 14, 15, 16, 17] (by decide +kernel) (by decide +kernel)) (goodIn_sub (fun _ h => List.mem_cons_of_mem _ (List.mem_append_right _ h)) (by decide +kernel))
set_option maxRecDepth 20000 in
theorem gL_tick_X5_tick : GoodIn wsL_tick (wsV RL 15 RX5 yX5_tick wsX5_tick) := goodIn_app (goodIn_of _ (by decide +kernel)) ggL_tick_X5_tick
set_option maxRecDepth 20000 in
theorem ggL_about_X5_about : GoodIn wsL_about wsX5_about := goodIn_ca (goodIn_r _ [6, 7, 8, 9, 10, 11, 12, 13, 14, 15, 16, 17, 18, 19, 20, 21, 22, 23, 24, 25, 26, 27, 28, 29, 30, 31, 32, 33, 34, 35, 36, 37, 38, 39, 40, 41, 42, 43, 44] (by decide +kernel) (by decide +kernel)) (goodIn_sub (fun _ h => List.mem_cons_of_mem _ (List.mem_append_right _ h)) (by decide +kernel))
set_option maxRecDepth 20000 in
theorem gL_about_X5_about : GoodIn wsL_about (wsV RL 19 RX5 yX5_about wsX5_about) := goodIn_app (goodIn_of _ (by decide +kernel)) ggL_about_X5_about
set_option maxRecDepth 20000 in
theorem ggL_place_X5_place : GoodIn wsL_place wsX5_place := goodIn_ca (goodIn_r _ [6, 7, 8, 9, 10, 11, 12, 13, 14, 15, 16, 17, 18, 19, 20, 21, 22, 23, 24, 25, 26, 27] (by decide +kernel) (by decide +kernel)) (goodIn_sub (fun _ h => List.mem_cons_of_mem _ (List.mem_append_right _ h)) (by decide +kernel))
set_option maxRecDepth 20000 in
theorem gL_place_X5_place : GoodIn wsL_place (wsV RL 22 RX5 yX5_place wsX5_place) := goodIn_app (goodIn_of _ (by decide +kernel)) ggL_place_X5_place
set_option maxRecDepth 20000 in
theorem ggL_field_X5_field : GoodIn wsL_field wsX5_field := goodIn_ca (goodIn_r _ [6, 7, 8, 9, 10, 11, 12, 13, 14, 15, 16, 17, 18, 19, 20, 21, 22, 23, 24, 25, 26, 27, 28, 29, 30, 31, 32, 33, 34, 35, 36, 37, 38, 39, 40, 41] (by decide +kernel) (by decide +kernel)) (goodIn_sub (fun _ h => List.mem_cons_of_mem _ (List.mem_append_right _ h)) (by decide +kernel))
set_option maxRecDepth 20000 in
theorem gL_field_X5_field : GoodIn wsL_field (wsV RL 25 RX5 yX5_field wsX5_field) := goodIn_app (goodIn_of _ (by decide +kernel)) ggL_field_X5_field
set_option maxRecDepth 20000 in
theorem ggL_other_X5_other : GoodIn wsL_other wsX5_other := goodIn_ca (goodIn_r _ [6, 7, 8, 9, 10, 11, 12, 13, 14, 15, 16, 17, 18, 19, 20, 21, 22, 23, 24, 25, 26, 27, 28, 29, 30, 31, 32, 33, 34, 35, 36, 37, 38, 39, 40, 41, 42, 43, 44, 45, 46, 47, 48, 49, 50, 51, 52, 53, 54, 55, 56, 57, 58, 59, 60, 61, 62, 63, 64, 65, 66, 67, 68, 69, 70, 71, 72, 73, 74, 75, 76, 77, 78, 79, 80, 81, 82, 83, 84, 85, 86, 87, 88, 89, 90, 91] (by decide +kernel) (by decide +kernel)) (goodIn_sub (fun _ h => List.mem_cons_of_mem _ (List.mem_append_right _ h)) (by decide +kernel))
set_option maxRecDepth 20000 in
theorem gL_other_X5_other : GoodIn wsL_other (wsV RL 28 RX5 yX5_other wsX5_other) := goodIn_app (goodIn_of _ (by decide +kernel)) ggL_other_X5_other
set_option maxRecDepth 20000 in
theorem ggL_batch_X5_batch : GoodIn wsL_batch wsX5_batch := goodIn_ca (goodIn_ca (goodIn_r _ [7, 8, 9, 10, 11, 12, 13, 14, 15, 16, 17, 18, 19, 20, 21, 22, 23, 24, 25, 26, 27, 28, 29, 30, 31, 32, 33, 34, 35, 36] (by decide +kernel) (by decide +kernel)) (goodIn_sub (fun _ h => List.mem_cons_of_mem _ (List.mem_append_left _ (List.mem_append_right _ h))) (by decide +kernel))) (goodIn_sub (fun _ h => List.mem_cons_of_mem _ (List.mem_append_right _ h)) (by decide +kernel))
set_option maxRecDepth 20000 in
theorem gL_batch_X5_batch : GoodIn wsL_batch (wsV RL 31 RX5 yX5_batch wsX5_batch) := goodIn_app (goodIn_of _ (by decide +kernel)) ggL_batch_X5_batch
set_option maxRecDepth 20000 in
theorem ggL_paper_X5_paper : GoodIn wsL_paper wsX5_paper := goodIn_ca (goodIn_ca (goodIn_r _ [7, 8, 9, 10, 11, 12, 13, 6, 14, 15, 16, 17, 18, 19, 20, 21, 22, 23, 24, 25, 26, 27, 28, 29, 30, 31, 32, 33, 34, 35, 36, 37, 38, 39, 40, 41, 42, 43, 44, 45, 46, 47, 48, 49, 50, 51, 52, 53, 54, 55, 56, 57, 58, 59, 60, 61, 62, 63, 64, 65, 66, 67, 68, 69, 70, 71, 72, 73, 74, 75, 76, 77, 78, 79, 80, 81, 82] (by decide +kernel) (by decide +kernel)) (goodIn_sub (fun _ h => List.mem_cons_of_mem _ (List.mem_append_left _ (List.mem_append_right _ h))) (by decide +kernel))) (goodIn_sub (fun _ h => List.mem_cons_of_mem _ (List.mem_append_right _ h)) (by decide +kernel))
set_option maxRecDepth 20000 in
theorem gL_paper_X5_paper : GoodIn wsL_paper (wsV RL 36 RX5 yX5_paper wsX5_paper) := goodIn_app (goodIn_of _ (by decide +kernel)) ggL_paper_X5_paper
set_option maxRecDepth 20000 in
theorem ggL_amount_X5_amount : GoodIn wsL_amount wsX5_amount := goodIn_ca (goodIn_ca (goodIn_r _ [7, 8, 9, 10, 11, 12, 13, 14, 6, 15, 16, 17, 18, 19, 20, 21, 22, 23, 24, 25, 26, 27, 28, 29, 30, 31, 32, 33] (by decide +kernel) (by decide +kernel)) (goodIn_sub (fun _ h => List.mem_cons_of_mem _ (List.mem_append_left _ (List.mem_append_right _ h))) (by decide +kernel))) (goodIn_sub (fun _ h => List.mem_cons_of_mem _ (List.mem_append_right _ h)) (by decide +kernel))
set_option maxRecDepth 20000 in
theorem gL_amount_X5_amount : GoodIn wsL_amount (wsV RL 41 RX5 yX5_amount wsX5_amount) := goodIn_app (goodIn_of _ (by decide +kernel)) ggL_amount_X5_amount

set_option maxRecDepth 20000 in
theorem ggX5_about_X3_fits : GoodIn wsX5_about wsX3_fits := goodIn_r _ [17, 18, 19, 20, 21, 22, 11, 23, 13, 31, 32, 33, 34, 35, 36, 37, 38] (by decide +kernel) (by decide +kernel)
set_option maxRecDepth 20000 in
theorem gX5_about_X3_fits : GoodIn wsX5_about (wsV RX5 143 RX3 yX3_fits wsX3_fits) := goodIn_app (goodIn_of _ (by decide +kernel)) ggX5_about_X3_fits
set_option maxRecDepth 20000 in
theorem ggX5_field_X3_fits : GoodIn wsX5_field wsX3_fits := goodIn_r _ [8, 9, 10, 11, 12, 13, 7, 14, 15, 28, 29, 30, 31, 32, 33, 34, 35] (by decide +kernel) (by decide +kernel)
set_option maxRecDepth 20000 in
theorem gX5_field_X3_fits : GoodIn wsX5_field (wsV RX5 143 RX3 yX3_fits wsX3_fits) := goodIn_app (goodIn_of _ (by decide +kernel)) ggX5_field_X3_fits
set_option maxRecDepth 20000 in
theorem ggX5_field_X3_digitsOf : GoodIn wsX5_field wsX3_digitsOf := goodIn_r _ [19, 20, 28, 29, 30, 31, 32, 33, 34, 35] (by decide +kernel) (by decide +kernel)
set_option maxRecDepth 20000 in
theorem gX5_field_X3_digitsOf : GoodIn wsX5_field (wsV RX5 150 RX3 yX3_digitsOf wsX3_digitsOf) := goodIn_app (goodIn_of _ (by decide +kernel)) ggX5_field_X3_digitsOf
set_option maxRecDepth 20000 in
theorem ggX5_others_X3_countOthers : GoodIn wsX5_others wsX3_countOthers := goodIn_r _ [6, 7, 8, 9, 5, 10, 11, 12, 13, 14, 15, 16, 17, 18, 19, 20, 21, 29, 30, 31, 32, 33, 34, 35, 36] (by decide +kernel) (by decide +kernel)
set_option maxRecDepth 20000 in
theorem gX5_others_X3_countOthers : GoodIn wsX5_others (wsV RX5 154 RX3 yX3_countOthers wsX3_countOthers) := goodIn_app (goodIn_of _ (by decide +kernel)) ggX5_others_X3_countOthers
set_option maxRecDepth 20000 in
theorem ggX5_other_X3_findOther : GoodIn wsX5_other wsX3_findOther := goodIn_r _ [11, 12, 13, 14, 10, 15, 16, 17, 18, 19, 20, 21, 22, 23, 24, 25, 26, 71, 72, 73, 74, 75, 76, 77, 78] (by decide +kernel) (by decide +kernel)
set_option maxRecDepth 20000 in
theorem gX5_other_X3_findOther : GoodIn wsX5_other (wsV RX5 157 RX3 yX3_findOther wsX3_findOther) := goodIn_app (goodIn_of _ (by decide +kernel)) ggX5_other_X3_findOther
set_option maxRecDepth 20000 in
theorem ggX5_other_X1_leastCostWith : GoodIn wsX5_other wsX1_leastCostWith := goodIn_r _ [31, 32, 33, 34, 30, 35, 36, 37, 38, 39, 40, 41, 42, 43, 44, 45, 46, 47, 48, 49, 50, 51, 52, 53, 54, 55, 56, 57, 58, 59, 60, 61, 62, 63, 79, 80, 81, 82, 83, 84, 85] (by decide +kernel) (by decide +kernel)
set_option maxRecDepth 20000 in
theorem gX5_other_X1_leastCostWith : GoodIn wsX5_other (wsV RX5 160 RX1 yX1_leastCostWith wsX1_leastCostWith) := goodIn_app (goodIn_of _ (by decide +kernel)) ggX5_other_X1_leastCostWith
set_option maxRecDepth 20000 in
theorem ggX5_choose_X3_findOther : GoodIn wsX5_choose wsX3_findOther := goodIn_r _ [8, 9, 10, 11, 7, 12, 13, 14, 15, 16, 17, 18, 19, 20, 21, 22, 23, 78, 79, 80, 81, 82, 83, 84, 85] (by decide +kernel) (by decide +kernel)
set_option maxRecDepth 20000 in
theorem gX5_choose_X3_findOther : GoodIn wsX5_choose (wsV RX5 157 RX3 yX3_findOther wsX3_findOther) := goodIn_app (goodIn_of _ (by decide +kernel)) ggX5_choose_X3_findOther
set_option maxRecDepth 20000 in
theorem ggX5_choose_X1_leastCostWith : GoodIn wsX5_choose wsX1_leastCostWith := goodIn_r _ [28, 29, 30, 31, 27, 32, 33, 34, 35, 36, 37, 38, 39, 40, 41, 42, 43, 44, 45, 46, 47, 48, 49, 50, 51, 52, 53, 54, 55, 56, 57, 58, 59, 60, 86, 87, 88, 89, 90, 91, 92] (by decide +kernel) (by decide +kernel)
set_option maxRecDepth 20000 in
theorem gX5_choose_X1_leastCostWith : GoodIn wsX5_choose (wsV RX5 160 RX1 yX1_leastCostWith wsX1_leastCostWith) := goodIn_app (goodIn_of _ (by decide +kernel)) ggX5_choose_X1_leastCostWith
set_option maxRecDepth 20000 in
theorem ggX5_choose_X3_become : GoodIn wsX5_choose wsX3_become := goodIn_r _ [64, 18, 65, 66, 67, 68, 69, 7, 70, 19, 20, 9, 10, 11, 12, 13, 21, 22, 23, 78, 79, 80, 81, 82, 83, 84, 85] (by decide +kernel) (by decide +kernel)
set_option maxRecDepth 20000 in
theorem gX5_choose_X3_become : GoodIn wsX5_choose (wsV RX5 164 RX3 yX3_become wsX3_become) := goodIn_app (goodIn_of _ (by decide +kernel)) ggX5_choose_X3_become
set_option maxRecDepth 20000 in
theorem ggX5_batch_X2_open : GoodIn wsX5_batch wsX2_open := goodIn_r _ [12, 13, 14, 22, 23, 24, 25, 26, 27, 28, 29] (by decide +kernel) (by decide +kernel)
set_option maxRecDepth 20000 in
theorem gX5_batch_X2_open : GoodIn wsX5_batch (wsV RX5 179 RX2 yX2_open wsX2_open) := goodIn_app (goodIn_of _ (by decide +kernel)) ggX5_batch_X2_open
set_option maxRecDepth 20000 in
theorem ggX5_paper_X5_requireBatch : GoodIn wsX5_paper wsX5_requireBatch := goodIn_ca (goodIn_r _ [8, 9, 10, 2, 11, 54, 55, 56, 57, 58, 59, 60, 61, 62, 63, 64, 65, 66, 67, 68] (by decide +kernel) (by decide +kernel)) (goodIn_sub (fun _ h => List.mem_cons_of_mem _ (List.mem_append_left _ (List.mem_append_right _ h))) (by decide +kernel))
set_option maxRecDepth 20000 in
theorem gX5_paper_X5_requireBatch : GoodIn wsX5_paper (wsV RX5 182 RX5 yX5_requireBatch wsX5_requireBatch) := goodIn_app (goodIn_of _ (by decide +kernel)) ggX5_paper_X5_requireBatch
set_option maxRecDepth 20000 in
theorem ggX5_paper_X5_requireAmount : GoodIn wsX5_paper wsX5_requireAmount := goodIn_ca (goodIn_r _ [14, 15, 16, 17] (by decide +kernel) (by decide +kernel)) (goodIn_sub (fun _ h => List.mem_cons_of_mem _ (List.mem_append_right _ h)) (by decide +kernel))
set_option maxRecDepth 20000 in
theorem gX5_paper_X5_requireAmount : GoodIn wsX5_paper (va_wsS RX5 186 yX5_requireAmount wsX5_requireAmount) := goodIn_app (goodIn_of _ (by decide +kernel)) ggX5_paper_X5_requireAmount
set_option maxRecDepth 20000 in
theorem ggX5_paper_X3_fits : GoodIn wsX5_paper wsX3_fits := goodIn_r _ [22, 23, 24, 25, 26, 27, 21, 28, 29, 69, 70, 71, 72, 73, 74, 75, 76] (by decide +kernel) (by decide +kernel)
set_option maxRecDepth 20000 in
theorem gX5_paper_X3_fits : GoodIn wsX5_paper (wsV RX5 143 RX3 yX3_fits wsX3_fits) := goodIn_app (goodIn_of _ (by decide +kernel)) ggX5_paper_X3_fits
set_option maxRecDepth 20000 in
theorem ggX5_paper_X2_findTwin : GoodIn wsX5_paper wsX2_findTwin := goodIn_r _ [34, 35, 36, 37, 38, 39, 40, 41, 21, 42, 43, 61, 62, 63, 64, 65, 66, 67, 68, 69, 70, 71, 72, 73, 74, 75, 76] (by decide +kernel) (by decide +kernel)
set_option maxRecDepth 20000 in
theorem gX5_paper_X2_findTwin : GoodIn wsX5_paper (wsV RX5 189 RX2 yX2_findTwin wsX2_findTwin) := goodIn_app (goodIn_of _ (by decide +kernel)) ggX5_paper_X2_findTwin
set_option maxRecDepth 20000 in
theorem ggX5_paper_X2_take : GoodIn wsX5_paper wsX2_take := goodIn_r _ [47, 48, 35, 49, 36, 37, 38, 39, 40, 41, 21, 42, 43, 61, 62, 63, 64, 65, 66, 67, 68, 69, 70, 71, 72, 73, 74, 75, 76] (by decide +kernel) (by decide +kernel)
set_option maxRecDepth 20000 in
theorem gX5_paper_X2_take : GoodIn wsX5_paper (wsV RX5 196 RX2 yX2_take wsX2_take) := goodIn_app (goodIn_of _ (by decide +kernel)) ggX5_paper_X2_take
set_option maxRecDepth 20000 in
theorem ggX5_paper_X3_end : GoodIn wsX5_paper wsX3_end := goodIn_r _ [53, 29, 69, 70, 71, 72, 73, 74, 75, 76] (by decide +kernel) (by decide +kernel)
set_option maxRecDepth 20000 in
theorem gX5_paper_X3_end : GoodIn wsX5_paper (wsV RX5 200 RX3 yX3_end wsX3_end) := goodIn_app (goodIn_of _ (by decide +kernel)) ggX5_paper_X3_end
set_option maxRecDepth 20000 in
theorem ggX5_amount_X5_requireAmount : GoodIn wsX5_amount wsX5_requireAmount := goodIn_ca (goodIn_r _ [9, 10, 11, 12] (by decide +kernel) (by decide +kernel)) (goodIn_sub (fun _ h => List.mem_cons_of_mem _ (List.mem_append_right _ h)) (by decide +kernel))
set_option maxRecDepth 20000 in
theorem gX5_amount_X5_requireAmount : GoodIn wsX5_amount (va_wsS RX5 186 yX5_requireAmount wsX5_requireAmount) := goodIn_app (goodIn_of _ (by decide +kernel)) ggX5_amount_X5_requireAmount
set_option maxRecDepth 20000 in
theorem ggX5_twin_X3_fits : GoodIn wsX5_twin wsX3_fits := goodIn_r _ [7, 8, 9, 10, 11, 12, 6, 13, 14, 36, 37, 38, 39, 40, 41, 42, 43] (by decide +kernel) (by decide +kernel)
set_option maxRecDepth 20000 in
theorem gX5_twin_X3_fits : GoodIn wsX5_twin (wsV RX5 143 RX3 yX3_fits wsX3_fits) := goodIn_app (goodIn_of _ (by decide +kernel)) ggX5_twin_X3_fits
set_option maxRecDepth 20000 in
theorem ggX5_twin_X2_findTwin : GoodIn wsX5_twin wsX2_findTwin := goodIn_r _ [19, 20, 21, 22, 23, 24, 25, 26, 6, 27, 28, 44, 45, 46, 47, 48, 49, 50, 51, 36, 37, 38, 39, 40, 41, 42, 43] (by decide +kernel) (by decide +kernel)
set_option maxRecDepth 20000 in
theorem gX5_twin_X2_findTwin : GoodIn wsX5_twin (wsV RX5 189 RX2 yX2_findTwin wsX2_findTwin) := goodIn_app (goodIn_of _ (by decide +kernel)) ggX5_twin_X2_findTwin
set_option maxRecDepth 20000 in
theorem ggX5_out_X5_requireBatch : GoodIn wsX5_out wsX5_requireBatch := goodIn_ca (goodIn_r _ [6, 7, 8, 1, 9, 19, 20, 21, 22, 23, 24, 25, 26, 27, 28, 29, 30, 31, 32, 33] (by decide +kernel) (by decide +kernel)) (goodIn_sub (fun _ h => List.mem_cons_of_mem _ (List.mem_append_right _ h)) (by decide +kernel))
set_option maxRecDepth 20000 in
theorem gX5_out_X5_requireBatch : GoodIn wsX5_out (wsV RX5 182 RX5 yX5_requireBatch wsX5_requireBatch) := goodIn_app (goodIn_of _ (by decide +kernel)) ggX5_out_X5_requireBatch
set_option maxRecDepth 20000 in
theorem ggX5_out_X2_sumOut : GoodIn wsX5_out wsX2_sumOut := goodIn_r _ [14, 15, 16, 17, 18, 26, 27, 28, 29, 30, 31, 32, 33] (by decide +kernel) (by decide +kernel)
set_option maxRecDepth 20000 in
theorem gX5_out_X2_sumOut : GoodIn wsX5_out (wsV RX5 211 RX2 yX2_sumOut wsX2_sumOut) := goodIn_app (goodIn_of _ (by decide +kernel)) ggX5_out_X2_sumOut
set_option maxRecDepth 20000 in
theorem ggX5_slips_X5_requireBatch : GoodIn wsX5_slips wsX5_requireBatch := goodIn_ca (goodIn_r _ [8, 9, 10, 2, 11, 48, 49, 50, 51, 52, 53, 54, 59, 60, 61, 62, 63, 64, 65, 66] (by decide +kernel) (by decide +kernel)) (goodIn_sub (fun _ h => List.mem_cons_of_mem _ (List.mem_append_right _ h)) (by decide +kernel))
set_option maxRecDepth 20000 in
theorem gX5_slips_X5_requireBatch : GoodIn wsX5_slips (wsV RX5 182 RX5 yX5_requireBatch wsX5_requireBatch) := goodIn_app (goodIn_of _ (by decide +kernel)) ggX5_slips_X5_requireBatch
set_option maxRecDepth 20000 in
theorem ggX5_slips_X4_explain : GoodIn wsX5_slips wsX4_explain := goodIn_r _ [16, 17, 18, 19, 20, 21, 22, 23, 24, 25, 26, 27, 28, 29, 30, 31, 32, 33, 15, 34, 35, 36, 37, 38, 39, 40, 41, 42, 43, 44, 45, 46, 47, 55, 56, 57, 58, 59, 60, 61, 62, 63, 64, 65, 66] (by decide +kernel) (by decide +kernel)
set_option maxRecDepth 20000 in
theorem gX5_slips_X4_explain : GoodIn wsX5_slips (wsV RX5 215 RX4 yX4_explain wsX4_explain) := goodIn_app (goodIn_of _ (by decide +kernel)) ggX5_slips_X4_explain
set_option maxRecDepth 20000 in
theorem ggX5_slip_X5_requireBatch : GoodIn wsX5_slip wsX5_requireBatch := goodIn_ca (goodIn_r _ [13, 14, 15, 4, 16, 53, 54, 55, 56, 57, 58, 59, 64, 65, 66, 67, 68, 69, 70, 71] (by decide +kernel) (by decide +kernel)) (goodIn_sub (fun _ h => List.mem_cons_of_mem _ (List.mem_append_right _ h)) (by decide +kernel))
set_option maxRecDepth 20000 in
theorem gX5_slip_X5_requireBatch : GoodIn wsX5_slip (wsV RX5 182 RX5 yX5_requireBatch wsX5_requireBatch) := goodIn_app (goodIn_of _ (by decide +kernel)) ggX5_slip_X5_requireBatch
set_option maxRecDepth 20000 in
theorem ggX5_slip_X4_explain : GoodIn wsX5_slip wsX4_explain := goodIn_r _ [21, 22, 23, 24, 25, 26, 27, 28, 29, 30, 31, 32, 33, 34, 35, 36, 37, 38, 20, 39, 40, 41, 42, 43, 44, 45, 46, 47, 48, 49, 50, 51, 52, 60, 61, 62, 63, 64, 65, 66, 67, 68, 69, 70, 71] (by decide +kernel) (by decide +kernel)
set_option maxRecDepth 20000 in
theorem gX5_slip_X4_explain : GoodIn wsX5_slip (wsV RX5 215 RX4 yX4_explain wsX4_explain) := goodIn_app (goodIn_of _ (by decide +kernel)) ggX5_slip_X4_explain
set_option maxRecDepth 20000 in
theorem ggX6_teach_X6_bad : GoodIn wsX6_teach wsX6_bad := goodIn_r _ [9, 1, 10, 11, 12, 13, 14, 15, 16, 17, 18, 19, 20, 21, 22, 23, 24, 25, 26, 27, 28, 29, 30, 31, 32, 33, 34, 35, 36, 37, 38, 39, 40] (by decide +kernel) (by decide +kernel)
set_option maxRecDepth 20000 in
theorem gX6_teach_X6_bad : GoodIn wsX6_teach (wsV RX6 64 RX6 yX6_bad wsX6_bad) := goodIn_app (goodIn_of _ (by decide +kernel)) ggX6_teach_X6_bad
set_option maxRecDepth 20000 in
theorem ggX6_tick_X6_bad : GoodIn wsX6_tick wsX6_bad := goodIn_r _ [8, 1, 9, 10, 11, 12, 13, 14, 15, 16, 17, 18, 19, 20, 21, 22, 23, 24, 25, 26, 27, 28, 29, 30, 31, 32, 33, 34, 35, 36, 37, 38, 39] (by decide +kernel) (by decide +kernel)
set_option maxRecDepth 20000 in
theorem gX6_tick_X6_bad : GoodIn wsX6_tick (wsV RX6 64 RX6 yX6_bad wsX6_bad) := goodIn_app (goodIn_of _ (by decide +kernel)) ggX6_tick_X6_bad
set_option maxRecDepth 20000 in
theorem ggX6_fills_X6_cell : GoodIn wsX6_fills wsX6_cell := goodIn_r _ [6] (by decide +kernel) (by decide +kernel)
set_option maxRecDepth 20000 in
theorem gX6_fills_X6_cell : GoodIn wsX6_fills (va_wsS RX6 74 yX6_cell wsX6_cell) := goodIn_app (goodIn_of _ (by decide +kernel)) ggX6_fills_X6_cell
set_option maxRecDepth 20000 in
theorem ggX6_fills_X6_costOf : GoodIn wsX6_fills wsX6_costOf := goodIn_r _ [10, 11, 12, 13, 14, 15, 16, 17, 18, 19, 20, 21, 22, 23, 24, 25, 26, 27, 28, 29, 30, 31, 32, 33, 34, 35, 36, 37, 38, 39, 40, 41, 42, 43, 44] (by decide +kernel) (by decide +kernel)
set_option maxRecDepth 20000 in
theorem gX6_fills_X6_costOf : GoodIn wsX6_fills (wsV RX6 78 RX6 yX6_costOf wsX6_costOf) := goodIn_app (goodIn_of _ (by decide +kernel)) ggX6_fills_X6_costOf
set_option maxRecDepth 20000 in
theorem ggX6_cheapest_X6_cell : GoodIn wsX6_cheapest wsX6_cell := goodIn_r _ [6] (by decide +kernel) (by decide +kernel)
set_option maxRecDepth 20000 in
theorem gX6_cheapest_X6_cell : GoodIn wsX6_cheapest (va_wsS RX6 74 yX6_cell wsX6_cell) := goodIn_app (goodIn_of _ (by decide +kernel)) ggX6_cheapest_X6_cell

set_option maxRecDepth 20000 in
theorem ggX3_findOther_X3_isLong : GoodIn wsX3_findOther wsX3_isLong := goodIn_r _ [5, 6, 17, 18, 19, 20, 21, 22, 23, 24] (by decide +kernel) (by decide +kernel)
set_option maxRecDepth 20000 in
theorem gX3_findOther_X3_isLong : GoodIn wsX3_findOther (wsV RX3 38 RX3 yX3_isLong wsX3_isLong) := goodIn_app (goodIn_of _ (by decide +kernel)) ggX3_findOther_X3_isLong
set_option maxRecDepth 20000 in
theorem ggX3_findOther_X3_isOther : GoodIn wsX3_findOther wsX3_isOther := goodIn_r _ [10, 11, 12, 13, 14, 15, 4, 16, 17, 18, 19, 20, 21, 22, 23, 24] (by decide +kernel) (by decide +kernel)
set_option maxRecDepth 20000 in
theorem gX3_findOther_X3_isOther : GoodIn wsX3_findOther (wsV RX3 52 RX3 yX3_isOther wsX3_isOther) := goodIn_app (goodIn_of _ (by decide +kernel)) ggX3_findOther_X3_isOther
set_option maxRecDepth 20000 in
theorem ggX3_become_X3_checkLine : GoodIn wsX3_become wsX3_checkLine := goodIn_r _ [8, 9, 10, 1, 11, 12, 13, 7, 14, 15, 16, 17, 18, 19, 20, 21, 22, 23, 24, 25, 26] (by decide +kernel) (by decide +kernel)
set_option maxRecDepth 20000 in
theorem gX3_become_X3_checkLine : GoodIn wsX3_become (wsV RX3 55 RX3 yX3_checkLine wsX3_checkLine) := goodIn_app (goodIn_of _ (by decide +kernel)) ggX3_become_X3_checkLine
set_option maxRecDepth 20000 in
theorem ggX4_explain_X2_sumOut : GoodIn wsX4_explain wsX2_sumOut := goodIn_r _ [10, 11, 12, 13, 14, 37, 38, 39, 40, 41, 42, 43, 44] (by decide +kernel) (by decide +kernel)
set_option maxRecDepth 20000 in
theorem gX4_explain_X2_sumOut : GoodIn wsX4_explain (wsV RX4 25 RX2 yX2_sumOut wsX2_sumOut) := goodIn_app (goodIn_of _ (by decide +kernel)) ggX4_explain_X2_sumOut
set_option maxRecDepth 20000 in
theorem ggX4_explain_X4_explainBy : GoodIn wsX4_explain wsX4_explainBy := goodIn_r _ [19, 5, 20, 21, 18, 22, 23, 24, 25, 26, 1, 27, 28, 29, 30, 31, 32, 33, 34, 35, 36] (by decide +kernel) (by decide +kernel)
set_option maxRecDepth 20000 in
theorem gX4_explain_X4_explainBy : GoodIn wsX4_explain (wsV RX4 37 RX4 yX4_explainBy wsX4_explainBy) := goodIn_app (goodIn_of _ (by decide +kernel)) ggX4_explain_X4_explainBy
set_option maxRecDepth 20000 in
theorem ggX4_explain_X4_note : GoodIn wsX4_explain wsX4_note := goodIn_r _ [26, 1, 27, 28, 29, 33, 34, 35, 36] (by decide +kernel) (by decide +kernel)
set_option maxRecDepth 20000 in
theorem gX4_explain_X4_note : GoodIn wsX4_explain (wsV RX4 43 RX4 yX4_note wsX4_note) := goodIn_app (goodIn_of _ (by decide +kernel)) ggX4_explain_X4_note
set_option maxRecDepth 20000 in
theorem ggX4_explainBy_X4_differInOneDigit : GoodIn wsX4_explainBy wsX4_differInOneDigit := goodIn_r _ [5] (by decide +kernel) (by decide +kernel)
set_option maxRecDepth 20000 in
theorem gX4_explainBy_X4_differInOneDigit : GoodIn wsX4_explainBy (va_wsS RX4 47 yX4_differInOneDigit wsX4_differInOneDigit) := goodIn_app (goodIn_of _ (by decide +kernel)) ggX4_explainBy_X4_differInOneDigit
set_option maxRecDepth 20000 in
theorem ggX4_explainBy_X4_note : GoodIn wsX4_explainBy wsX4_note := goodIn_r _ [9, 10, 11, 12, 13, 17, 18, 19, 20] (by decide +kernel) (by decide +kernel)
set_option maxRecDepth 20000 in
theorem gX4_explainBy_X4_note : GoodIn wsX4_explainBy (wsV RX4 43 RX4 yX4_note wsX4_note) := goodIn_app (goodIn_of _ (by decide +kernel)) ggX4_explainBy_X4_note
set_option maxRecDepth 20000 in
theorem ggX4_explainBy_X4_differByNeighbours : GoodIn wsX4_explainBy wsX4_differByNeighbours := goodIn_r _ [16] (by decide +kernel) (by decide +kernel)
set_option maxRecDepth 20000 in
theorem gX4_explainBy_X4_differByNeighbours : GoodIn wsX4_explainBy (va_wsS RX4 51 yX4_differByNeighbours wsX4_differByNeighbours) := goodIn_app (goodIn_of _ (by decide +kernel)) ggX4_explainBy_X4_differByNeighbours
set_option maxRecDepth 20000 in
theorem ggX5_init_X0_init : GoodIn wsX5_init wsX0_init := goodIn_r _ [28, 29, 2, 3, 8, 30, 31, 32, 72, 73, 74] (by decide +kernel) (by decide +kernel)
set_option maxRecDepth 20000 in
theorem gX5_init_X0_init_n11 : GoodIn wsX5_init (wsX0_init) := ggX5_init_X0_init
set_option maxRecDepth 20000 in
theorem ggX5_init_X1_init : GoodIn wsX5_init wsX1_init := goodIn_r _ [34, 35, 2, 3, 36, 8, 37, 38, 39, 40, 41, 42, 82, 83, 84, 85, 86, 87, 88] (by decide +kernel) (by decide +kernel)
set_option maxRecDepth 20000 in
theorem gX5_init_X1_init_n26 : GoodIn wsX5_init (wsX1_init) := ggX5_init_X1_init
set_option maxRecDepth 20000 in
theorem ggX5_init_X3_init : GoodIn wsX5_init wsX3_init := goodIn_r _ [44, 45, 2, 3, 46, 47, 48, 49, 8, 50, 51, 52, 53, 89, 90, 91, 92, 93, 94, 95, 96] (by decide +kernel) (by decide +kernel)
set_option maxRecDepth 20000 in
theorem gX5_init_X3_init_n33 : GoodIn wsX5_init (wsX3_init) := ggX5_init_X3_init
set_option maxRecDepth 20000 in
theorem ggX5_init_X2_init : GoodIn wsX5_init wsX2_init := goodIn_r _ [55, 56, 2, 3, 57, 8, 58, 59, 60, 61, 62, 63, 64, 97, 98, 99, 100, 101, 102, 103, 104] (by decide +kernel) (by decide +kernel)
set_option maxRecDepth 20000 in
theorem gX5_init_X2_init_n40 : GoodIn wsX5_init (wsX2_init) := ggX5_init_X2_init
set_option maxRecDepth 20000 in
theorem ggX5_init_X4_init : GoodIn wsX5_init wsX4_init := goodIn_r _ [66, 67, 2, 3, 68, 8, 69, 70, 71, 105, 106, 107, 108] (by decide +kernel) (by decide +kernel)
set_option maxRecDepth 20000 in
theorem gX5_init_X4_init_n47 : GoodIn wsX5_init (wsX4_init) := ggX5_init_X4_init
set_option maxRecDepth 20000 in
theorem ggX5_teach_X0_areWidths : GoodIn wsX5_teach wsX0_areWidths := goodIn_r _ [7, 8, 9] (by decide +kernel) (by decide +kernel)
set_option maxRecDepth 20000 in
theorem gX5_teach_X0_areWidths : GoodIn wsX5_teach (va_wsS RX5 59 yX0_areWidths wsX0_areWidths) := goodIn_app (goodIn_of _ (by decide +kernel)) ggX5_teach_X0_areWidths
set_option maxRecDepth 20000 in
theorem ggX5_teach_X0_learn : GoodIn wsX5_teach wsX0_learn := goodIn_r _ [13, 14, 15, 16, 24, 25, 26] (by decide +kernel) (by decide +kernel)
set_option maxRecDepth 20000 in
theorem gX5_teach_X0_learn : GoodIn wsX5_teach (wsV RX5 65 RX0 yX0_learn wsX0_learn) := goodIn_app (goodIn_of _ (by decide +kernel)) ggX5_teach_X0_learn
set_option maxRecDepth 20000 in
theorem ggX5_read_X0_isComplete : GoodIn wsX5_read wsX0_isComplete := goodIn_r _ [13, 14, 144, 145, 146] (by decide +kernel) (by decide +kernel)
set_option maxRecDepth 20000 in
theorem gX5_read_X0_isComplete : GoodIn wsX5_read (wsV RX5 71 RX0 yX0_isComplete wsX0_isComplete) := goodIn_app (goodIn_of _ (by decide +kernel)) ggX5_read_X0_isComplete
set_option maxRecDepth 20000 in
theorem ggX5_read_X5_layTheCheaperWay : GoodIn wsX5_read wsX5_layTheCheaperWay := goodIn_r _ [19, 20, 21, 22, 18, 23, 4, 24, 2, 1, 25, 26, 27, 28, 29, 30, 31, 32, 33, 34, 35, 36, 37, 38, 39, 40, 41, 42, 43, 44, 45, 46, 47, 48, 49, 50, 51, 52, 53, 54, 55, 56, 57, 58, 59, 60, 61, 62, 63, 64, 65, 66, 67, 68, 69, 70, 129, 130, 131, 132, 133, 134, 135, 144, 145, 146, 147, 148, 149, 150, 151, 152, 153] (by decide +kernel) (by decide +kernel)
set_option maxRecDepth 20000 in
theorem gX5_read_X5_layTheCheaperWay : GoodIn wsX5_read (wsV RX5 75 RX5 yX5_layTheCheaperWay wsX5_layTheCheaperWay) := goodIn_app (goodIn_of _ (by decide +kernel)) ggX5_read_X5_layTheCheaperWay
set_option maxRecDepth 20000 in
theorem ggX5_read_X1_leastCost : GoodIn wsX5_read wsX1_leastCost := goodIn_r _ [70, 56, 61, 53, 54, 47, 55, 147, 148, 149, 150, 151, 152, 153] (by decide +kernel) (by decide +kernel)
set_option maxRecDepth 20000 in
theorem gX5_read_X1_leastCost : GoodIn wsX5_read (wsV RX5 78 RX1 yX1_leastCost wsX1_leastCost) := goodIn_app (goodIn_of _ (by decide +kernel)) ggX5_read_X1_leastCost
set_option maxRecDepth 20000 in
theorem ggX5_read_X3_begin : GoodIn wsX5_read wsX3_begin := goodIn_r _ [75, 76, 77, 78, 136, 137, 138, 139, 140, 141, 142, 143] (by decide +kernel) (by decide +kernel)
set_option maxRecDepth 20000 in
theorem gX5_read_X3_begin : GoodIn wsX5_read (wsV RX5 82 RX3 yX3_begin wsX3_begin) := goodIn_app (goodIn_of _ (by decide +kernel)) ggX5_read_X3_begin
set_option maxRecDepth 20000 in
theorem ggX5_read_X1_pickSigns : GoodIn wsX5_read wsX1_pickSigns := goodIn_r _ [82, 31, 37, 83, 84, 85, 29, 86, 87, 88, 89, 90, 91, 61, 53, 54, 47, 55, 38, 39, 40, 92, 93, 94, 95, 62, 63, 64, 65, 66, 147, 148, 149, 150, 151, 152, 153] (by decide +kernel) (by decide +kernel)
set_option maxRecDepth 20000 in
theorem gX5_read_X1_pickSigns : GoodIn wsX5_read (wsV RX5 92 RX1 yX1_pickSigns wsX1_pickSigns) := goodIn_app (goodIn_of _ (by decide +kernel)) ggX5_read_X1_pickSigns
set_option maxRecDepth 20000 in
theorem ggX5_read_X1_leastCostBeside : GoodIn wsX5_read wsX1_leastCostBeside := goodIn_r _ [99, 31, 53, 54, 47, 55, 56, 83, 84, 85, 29, 86, 87, 88, 89, 90, 91, 37, 61, 38, 39, 40, 92, 93, 94, 95, 62, 63, 64, 65, 66, 147, 148, 149, 150, 151, 152, 153] (by decide +kernel) (by decide +kernel)
set_option maxRecDepth 20000 in
theorem gX5_read_X1_leastCostBeside : GoodIn wsX5_read (wsV RX5 96 RX1 yX1_leastCostBeside wsX1_leastCostBeside) := goodIn_app (goodIn_of _ (by decide +kernel)) ggX5_read_X1_leastCostBeside
set_option maxRecDepth 20000 in
theorem ggX5_read_X1_pickSpeeds : GoodIn wsX5_read wsX1_pickSpeeds := goodIn_r _ [103, 31, 56, 61, 104, 105, 47, 106, 53, 54, 55, 107, 108, 109, 29, 110, 111, 112, 113, 114, 37, 38, 39, 40, 57, 58, 59, 60, 62, 63, 64, 65, 66, 147, 148, 149, 150, 151, 152, 153] (by decide +kernel) (by decide +kernel)
set_option maxRecDepth 20000 in
theorem gX5_read_X1_pickSpeeds : GoodIn wsX5_read (wsV RX5 106 RX1 yX1_pickSpeeds wsX1_pickSpeeds) := goodIn_app (goodIn_of _ (by decide +kernel)) ggX5_read_X1_pickSpeeds
set_option maxRecDepth 20000 in
theorem ggX5_read_X3_checkLine : GoodIn wsX5_read wsX3_checkLine := goodIn_r _ [118, 119, 120, 121, 122, 123, 124, 74, 125, 76, 126, 127, 128, 136, 137, 138, 139, 140, 141, 142, 143] (by decide +kernel) (by decide +kernel)
set_option maxRecDepth 20000 in
theorem gX5_read_X3_checkLine : GoodIn wsX5_read (wsV RX5 110 RX3 yX3_checkLine wsX3_checkLine) := goodIn_app (goodIn_of _ (by decide +kernel)) ggX5_read_X3_checkLine
set_option maxRecDepth 20000 in
theorem ggX5_layTheCheaperWay_X5_measure : GoodIn wsX5_layTheCheaperWay wsX5_measure := goodIn_r _ [5, 6, 7, 8, 9, 10, 11, 12, 13, 14, 15, 16, 17, 18, 19, 20, 21, 22, 23, 24, 25, 26, 27, 28, 29, 30, 31, 32, 33, 34, 35, 36, 37, 38, 39, 40, 41, 42, 43, 44, 45, 46, 47, 48, 49, 50, 51, 52, 53, 54, 55, 56, 57, 58, 59, 60, 61, 62, 63, 64, 65, 66, 67, 68, 69, 70, 71, 72] (by decide +kernel) (by decide +kernel)
set_option maxRecDepth 20000 in
theorem gX5_layTheCheaperWay_X5_measure : GoodIn wsX5_layTheCheaperWay (wsV RX5 113 RX5 yX5_measure wsX5_measure) := goodIn_app (goodIn_of _ (by decide +kernel)) ggX5_layTheCheaperWay_X5_measure
set_option maxRecDepth 20000 in
theorem ggX5_measure_X1_lay : GoodIn wsX5_measure wsX1_lay := goodIn_r _ [10, 11, 12, 61, 62, 63, 64, 65, 66, 67] (by decide +kernel) (by decide +kernel)
set_option maxRecDepth 20000 in
theorem gX5_measure_X1_lay : GoodIn wsX5_measure (wsV RX5 117 RX1 yX1_lay wsX1_lay) := goodIn_app (goodIn_of _ (by decide +kernel)) ggX5_measure_X1_lay
set_option maxRecDepth 20000 in
theorem ggX5_measure_X1_weigh : GoodIn wsX5_measure wsX1_weigh := goodIn_r _ [16, 11, 17, 18, 19, 9, 20, 21, 22, 23, 24, 12, 25, 26, 27, 28, 61, 62, 63, 64, 65, 66, 67] (by decide +kernel) (by decide +kernel)
set_option maxRecDepth 20000 in
theorem gX5_measure_X1_weigh : GoodIn wsX5_measure (wsV RX5 124 RX1 yX1_weigh wsX1_weigh) := goodIn_app (goodIn_of _ (by decide +kernel)) ggX5_measure_X1_weigh
set_option maxRecDepth 20000 in
theorem ggX5_measure_X1_allowAnySigns : GoodIn wsX5_measure wsX1_allowAnySigns := goodIn_r _ [32, 11, 17, 33, 34, 27, 35, 36, 18, 19, 9, 20, 37, 38, 39, 40, 41, 42, 43, 44, 45, 46, 61, 62, 63, 64, 65, 66, 67] (by decide +kernel) (by decide +kernel)
set_option maxRecDepth 20000 in
theorem gX5_measure_X1_allowAnySigns : GoodIn wsX5_measure (wsV RX5 128 RX1 yX1_allowAnySigns wsX1_allowAnySigns) := goodIn_app (goodIn_of _ (by decide +kernel)) ggX5_measure_X1_allowAnySigns
set_option maxRecDepth 20000 in
theorem ggX5_measure_X1_leastCost : GoodIn wsX5_measure wsX1_leastCost := goodIn_r _ [50, 36, 41, 33, 34, 27, 35, 61, 62, 63, 64, 65, 66, 67] (by decide +kernel) (by decide +kernel)
set_option maxRecDepth 20000 in
theorem gX5_measure_X1_leastCost : GoodIn wsX5_measure (wsV RX5 78 RX1 yX1_leastCost wsX1_leastCost) := goodIn_app (goodIn_of _ (by decide +kernel)) ggX5_measure_X1_leastCost
set_option maxRecDepth 20000 in
theorem ggX5_about_X3_isThere : GoodIn wsX5_about wsX3_isThere := goodIn_r _ [12, 13, 31, 32, 33, 34, 35, 36, 37, 38] (by decide +kernel) (by decide +kernel)
set_option maxRecDepth 20000 in
theorem gX5_about_X3_isThere : GoodIn wsX5_about (wsV RX5 133 RX3 yX3_isThere wsX3_isThere) := goodIn_app (goodIn_of _ (by decide +kernel)) ggX5_about_X3_isThere

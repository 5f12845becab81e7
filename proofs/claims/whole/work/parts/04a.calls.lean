set_option maxRecDepth 20000 in
theorem ggX1_weigh_X1_rowOf : GoodIn wsX1_weigh wsX1_rowOf := goodIn_r _ [6] (by decide +kernel) (by decide +kernel)
set_option maxRecDepth 20000 in
theorem gX1_weigh_X1_rowOf : GoodIn wsX1_weigh (va_wsS RX1 34 yX1_rowOf wsX1_rowOf) := goodIn_app (goodIn_of _ (by decide +kernel)) ggX1_weigh_X1_rowOf
set_option maxRecDepth 20000 in
theorem ggX1_weigh_X1_distance : GoodIn wsX1_weigh wsX1_distance := goodIn_r _ [10, 11, 12, 13, 14, 15, 16, 17, 18, 19, 20, 21, 22] (by decide +kernel) (by decide +kernel)
set_option maxRecDepth 20000 in
theorem gX1_weigh_X1_distance : GoodIn wsX1_weigh (wsV RX1 38 RX1 yX1_distance wsX1_distance) := goodIn_app (goodIn_of _ (by decide +kernel)) ggX1_weigh_X1_distance
set_option maxRecDepth 20000 in
theorem ggX1_allowAnySigns_X1_rowOf : GoodIn wsX1_allowAnySigns wsX1_rowOf := goodIn_r _ [11] (by decide +kernel) (by decide +kernel)
set_option maxRecDepth 20000 in
theorem gX1_allowAnySigns_X1_rowOf : GoodIn wsX1_allowAnySigns (va_wsS RX1 34 yX1_rowOf wsX1_rowOf) := goodIn_app (goodIn_of _ (by decide +kernel)) ggX1_allowAnySigns_X1_rowOf
set_option maxRecDepth 20000 in
theorem ggX1_allowAnySigns_X1_sumFromTheEnd : GoodIn wsX1_allowAnySigns wsX1_sumFromTheEnd := goodIn_r _ [15, 1, 16, 17, 7, 18, 19, 20, 10, 21, 3, 4, 5, 6, 22, 23, 24, 25, 26, 27, 28] (by decide +kernel) (by decide +kernel)
set_option maxRecDepth 20000 in
theorem gX1_allowAnySigns_X1_sumFromTheEnd : GoodIn wsX1_allowAnySigns (wsV RX1 51 RX1 yX1_sumFromTheEnd wsX1_sumFromTheEnd) := goodIn_app (goodIn_of _ (by decide +kernel)) ggX1_allowAnySigns_X1_sumFromTheEnd
set_option maxRecDepth 20000 in
theorem ggX1_allowOnly_X1_allowAt : GoodIn wsX1_allowOnly wsX1_allowAt := goodIn_r _ [6, 7, 8, 9, 10, 5, 11, 12, 13, 14, 15, 16, 17, 18] (by decide +kernel) (by decide +kernel)
set_option maxRecDepth 20000 in
theorem gX1_allowOnly_X1_allowAt : GoodIn wsX1_allowOnly (wsV RX1 54 RX1 yX1_allowAt wsX1_allowAt) := goodIn_app (goodIn_of _ (by decide +kernel)) ggX1_allowOnly_X1_allowAt
set_option maxRecDepth 20000 in
theorem ggX1_allowAt_X1_rowOf : GoodIn wsX1_allowAt wsX1_rowOf := goodIn_r _ [6] (by decide +kernel) (by decide +kernel)
set_option maxRecDepth 20000 in
theorem gX1_allowAt_X1_rowOf : GoodIn wsX1_allowAt (va_wsS RX1 34 yX1_rowOf wsX1_rowOf) := goodIn_app (goodIn_of _ (by decide +kernel)) ggX1_allowAt_X1_rowOf
set_option maxRecDepth 20000 in
theorem ggX1_sumFromTheEnd_X1_leastNear : GoodIn wsX1_sumFromTheEnd wsX1_leastNear := goodIn_r _ [9, 3, 10, 11, 12, 13, 14, 15, 16, 17, 18, 19, 20] (by decide +kernel) (by decide +kernel)
set_option maxRecDepth 20000 in
theorem gX1_sumFromTheEnd_X1_leastNear : GoodIn wsX1_sumFromTheEnd (wsV RX1 58 RX1 yX1_leastNear wsX1_leastNear) := goodIn_app (goodIn_of _ (by decide +kernel)) ggX1_sumFromTheEnd_X1_leastNear
set_option maxRecDepth 20000 in
theorem ggX1_walkOn_X1_leastNear : GoodIn wsX1_walkOn wsX1_leastNear := goodIn_r _ [7, 1, 8, 9, 10, 11, 12, 13, 14, 15, 16, 17, 18] (by decide +kernel) (by decide +kernel)
set_option maxRecDepth 20000 in
theorem gX1_walkOn_X1_leastNear : GoodIn wsX1_walkOn (wsV RX1 58 RX1 yX1_leastNear wsX1_leastNear) := goodIn_app (goodIn_of _ (by decide +kernel)) ggX1_walkOn_X1_leastNear
set_option maxRecDepth 20000 in
theorem ggX1_leastThrough_X1_rowOf : GoodIn wsX1_leastThrough wsX1_rowOf := goodIn_r _ [11] (by decide +kernel) (by decide +kernel)
set_option maxRecDepth 20000 in
theorem gX1_leastThrough_X1_rowOf : GoodIn wsX1_leastThrough (va_wsS RX1 34 yX1_rowOf wsX1_rowOf) := goodIn_app (goodIn_of _ (by decide +kernel)) ggX1_leastThrough_X1_rowOf
set_option maxRecDepth 20000 in
theorem ggX1_pickSigns_X1_startWalk : GoodIn wsX1_pickSigns wsX1_startWalk := goodIn_r _ [7, 8, 30, 31, 32, 33, 34, 35, 36] (by decide +kernel) (by decide +kernel)
set_option maxRecDepth 20000 in
theorem gX1_pickSigns_X1_startWalk : GoodIn wsX1_pickSigns (wsV RX1 61 RX1 yX1_startWalk wsX1_startWalk) := goodIn_app (goodIn_of _ (by decide +kernel)) ggX1_pickSigns_X1_startWalk
set_option maxRecDepth 20000 in
theorem ggX1_pickSigns_X1_leastThrough : GoodIn wsX1_pickSigns wsX1_leastThrough := goodIn_r _ [12, 8, 2, 13, 14, 15, 16, 17, 18, 19, 6, 20, 30, 31, 32, 33, 34, 35, 36] (by decide +kernel) (by decide +kernel)
set_option maxRecDepth 20000 in
theorem gX1_pickSigns_X1_leastThrough : GoodIn wsX1_pickSigns (wsV RX1 64 RX1 yX1_leastThrough wsX1_leastThrough) := goodIn_app (goodIn_of _ (by decide +kernel)) ggX1_pickSigns_X1_leastThrough
set_option maxRecDepth 20000 in
theorem ggX1_pickSigns_X1_rowOf : GoodIn wsX1_pickSigns wsX1_rowOf := goodIn_r _ [20] (by decide +kernel) (by decide +kernel)
set_option maxRecDepth 20000 in
theorem gX1_pickSigns_X1_rowOf : GoodIn wsX1_pickSigns (va_wsS RX1 34 yX1_rowOf wsX1_rowOf) := goodIn_app (goodIn_of _ (by decide +kernel)) ggX1_pickSigns_X1_rowOf
set_option maxRecDepth 20000 in
theorem ggX1_pickSigns_X1_walkOn : GoodIn wsX1_pickSigns wsX1_walkOn := goodIn_r _ [24, 25, 8, 26, 27, 28, 6, 29, 14, 15, 16, 17, 30, 31, 32, 33, 34, 35, 36] (by decide +kernel) (by decide +kernel)
set_option maxRecDepth 20000 in
theorem gX1_pickSigns_X1_walkOn : GoodIn wsX1_pickSigns (wsV RX1 67 RX1 yX1_walkOn wsX1_walkOn) := goodIn_app (goodIn_of _ (by decide +kernel)) ggX1_pickSigns_X1_walkOn
set_option maxRecDepth 20000 in
theorem ggX1_leastCostBeside_X1_startWalk : GoodIn wsX1_leastCostBeside wsX1_startWalk := goodIn_r _ [11, 12, 31, 32, 33, 34, 35, 36, 37] (by decide +kernel) (by decide +kernel)
set_option maxRecDepth 20000 in
theorem gX1_leastCostBeside_X1_startWalk : GoodIn wsX1_leastCostBeside (wsV RX1 61 RX1 yX1_startWalk wsX1_startWalk) := goodIn_app (goodIn_of _ (by decide +kernel)) ggX1_leastCostBeside_X1_startWalk
set_option maxRecDepth 20000 in
theorem ggX1_leastCostBeside_X1_leastThrough : GoodIn wsX1_leastCostBeside wsX1_leastThrough := goodIn_r _ [16, 12, 17, 18, 2, 3, 4, 5, 19, 20, 10, 21, 31, 32, 33, 34, 35, 36, 37] (by decide +kernel) (by decide +kernel)
set_option maxRecDepth 20000 in
theorem gX1_leastCostBeside_X1_leastThrough : GoodIn wsX1_leastCostBeside (wsV RX1 64 RX1 yX1_leastThrough wsX1_leastThrough) := goodIn_app (goodIn_of _ (by decide +kernel)) ggX1_leastCostBeside_X1_leastThrough
set_option maxRecDepth 20000 in
theorem ggX1_leastCostBeside_X1_walkOn : GoodIn wsX1_leastCostBeside wsX1_walkOn := goodIn_r _ [25, 26, 12, 27, 28, 29, 10, 30, 2, 3, 4, 5, 31, 32, 33, 34, 35, 36, 37] (by decide +kernel) (by decide +kernel)
set_option maxRecDepth 20000 in
theorem gX1_leastCostBeside_X1_walkOn : GoodIn wsX1_leastCostBeside (wsV RX1 67 RX1 yX1_walkOn wsX1_walkOn) := goodIn_app (goodIn_of _ (by decide +kernel)) ggX1_leastCostBeside_X1_walkOn
set_option maxRecDepth 20000 in
theorem ggX1_pickSpeeds_X1_allowOnly : GoodIn wsX1_pickSpeeds wsX1_allowOnly := goodIn_r _ [15, 1, 16, 17, 18, 14, 19, 2, 20, 21, 22, 23, 33, 34, 35, 36, 37, 38, 39] (by decide +kernel) (by decide +kernel)
set_option maxRecDepth 20000 in
theorem gX1_pickSpeeds_X1_allowOnly : GoodIn wsX1_pickSpeeds (wsV RX1 71 RX1 yX1_allowOnly wsX1_allowOnly) := goodIn_app (goodIn_of _ (by decide +kernel)) ggX1_pickSpeeds_X1_allowOnly
set_option maxRecDepth 20000 in
theorem ggX1_pickSpeeds_X1_sumFromTheEnd : GoodIn wsX1_pickSpeeds wsX1_sumFromTheEnd := goodIn_r _ [27, 1, 3, 28, 2, 29, 30, 31, 14, 32, 8, 9, 6, 10, 33, 34, 35, 36, 37, 38, 39] (by decide +kernel) (by decide +kernel)
set_option maxRecDepth 20000 in
theorem gX1_pickSpeeds_X1_sumFromTheEnd : GoodIn wsX1_pickSpeeds (wsV RX1 51 RX1 yX1_sumFromTheEnd wsX1_sumFromTheEnd) := goodIn_app (goodIn_of _ (by decide +kernel)) ggX1_pickSpeeds_X1_sumFromTheEnd
set_option maxRecDepth 20000 in
theorem ggX1_leastCostWith_X1_allowOnly : GoodIn wsX1_leastCostWith wsX1_allowOnly := goodIn_r _ [5, 6, 7, 8, 9, 4, 10, 11, 12, 13, 14, 15, 34, 35, 36, 37, 38, 39, 40] (by decide +kernel) (by decide +kernel)
set_option maxRecDepth 20000 in
theorem gX1_leastCostWith_X1_allowOnly : GoodIn wsX1_leastCostWith (wsV RX1 71 RX1 yX1_allowOnly wsX1_allowOnly) := goodIn_app (goodIn_of _ (by decide +kernel)) ggX1_leastCostWith_X1_allowOnly
set_option maxRecDepth 20000 in
theorem ggX1_leastCostWith_X1_allowAt : GoodIn wsX1_leastCostWith wsX1_allowAt := goodIn_r _ [10, 11, 12, 13, 14, 4, 15, 34, 35, 36, 37, 38, 39, 40] (by decide +kernel) (by decide +kernel)
set_option maxRecDepth 20000 in
theorem gX1_leastCostWith_X1_allowAt : GoodIn wsX1_leastCostWith (wsV RX1 54 RX1 yX1_allowAt wsX1_allowAt) := goodIn_app (goodIn_of _ (by decide +kernel)) ggX1_leastCostWith_X1_allowAt
set_option maxRecDepth 20000 in
theorem ggX1_leastCostWith_X1_sumFromTheEnd : GoodIn wsX1_leastCostWith wsX1_sumFromTheEnd := goodIn_r _ [19, 6, 20, 21, 11, 22, 23, 24, 4, 25, 26, 27, 28, 29, 34, 35, 36, 37, 38, 39, 40] (by decide +kernel) (by decide +kernel)
set_option maxRecDepth 20000 in
theorem gX1_leastCostWith_X1_sumFromTheEnd : GoodIn wsX1_leastCostWith (wsV RX1 51 RX1 yX1_sumFromTheEnd wsX1_sumFromTheEnd) := goodIn_app (goodIn_of _ (by decide +kernel)) ggX1_leastCostWith_X1_sumFromTheEnd
set_option maxRecDepth 20000 in
theorem ggX1_leastCostWith_X1_leastCost : GoodIn wsX1_leastCostWith wsX1_leastCost := goodIn_r _ [33, 11, 20, 26, 27, 28, 29, 34, 35, 36, 37, 38, 39, 40] (by decide +kernel) (by decide +kernel)
set_option maxRecDepth 20000 in
theorem gX1_leastCostWith_X1_leastCost : GoodIn wsX1_leastCostWith (wsV RX1 78 RX1 yX1_leastCost wsX1_leastCost) := goodIn_app (goodIn_of _ (by decide +kernel)) ggX1_leastCostWith_X1_leastCost
set_option maxRecDepth 20000 in
theorem ggX2_take_X3_digitsOf : GoodIn wsX2_take wsX3_digitsOf := goodIn_r _ [11, 12, 21, 22, 23, 24, 25, 26, 27, 28] (by decide +kernel) (by decide +kernel)
set_option maxRecDepth 20000 in
theorem gX2_take_X3_digitsOf : GoodIn wsX2_take (wsV RX2 37 RX3 yX3_digitsOf wsX3_digitsOf) := goodIn_app (goodIn_of _ (by decide +kernel)) ggX2_take_X3_digitsOf
set_option maxRecDepth 20000 in
theorem ggX2_findTwin_X3_digitsOf : GoodIn wsX2_findTwin wsX3_digitsOf := goodIn_r _ [9, 10, 19, 20, 21, 22, 23, 24, 25, 26] (by decide +kernel) (by decide +kernel)
set_option maxRecDepth 20000 in
theorem gX2_findTwin_X3_digitsOf : GoodIn wsX2_findTwin (wsV RX2 37 RX3 yX3_digitsOf wsX3_digitsOf) := goodIn_app (goodIn_of _ (by decide +kernel)) ggX2_findTwin_X3_digitsOf
set_option maxRecDepth 20000 in
theorem ggX3_checkLine_X3_isLong : GoodIn wsX3_checkLine wsX3_isLong := goodIn_r _ [8, 9, 13, 14, 15, 16, 17, 18, 19, 20] (by decide +kernel) (by decide +kernel)
set_option maxRecDepth 20000 in
theorem gX3_checkLine_X3_isLong : GoodIn wsX3_checkLine (wsV RX3 38 RX3 yX3_isLong wsX3_isLong) := goodIn_app (goodIn_of _ (by decide +kernel)) ggX3_checkLine_X3_isLong
set_option maxRecDepth 20000 in
theorem ggX3_checkLine_X3_belongs : GoodIn wsX3_checkLine wsX3_belongs := goodIn_r _ [12] (by decide +kernel) (by decide +kernel)
set_option maxRecDepth 20000 in
theorem gX3_checkLine_X3_belongs : GoodIn wsX3_checkLine (va_wsS RX3 42 yX3_belongs wsX3_belongs) := goodIn_app (goodIn_of _ (by decide +kernel)) ggX3_checkLine_X3_belongs
set_option maxRecDepth 20000 in
theorem ggX3_fits_X3_isLong : GoodIn wsX3_fits wsX3_isLong := goodIn_r _ [7, 8, 9, 10, 11, 12, 13, 14, 15, 16] (by decide +kernel) (by decide +kernel)
set_option maxRecDepth 20000 in
theorem gX3_fits_X3_isLong : GoodIn wsX3_fits (wsV RX3 38 RX3 yX3_isLong wsX3_isLong) := goodIn_app (goodIn_of _ (by decide +kernel)) ggX3_fits_X3_isLong
set_option maxRecDepth 20000 in
theorem ggX3_isOther_X3_belongs : GoodIn wsX3_isOther wsX3_belongs := goodIn_r _ [7] (by decide +kernel) (by decide +kernel)
set_option maxRecDepth 20000 in
theorem gX3_isOther_X3_belongs : GoodIn wsX3_isOther (va_wsS RX3 42 yX3_belongs wsX3_belongs) := goodIn_app (goodIn_of _ (by decide +kernel)) ggX3_isOther_X3_belongs
set_option maxRecDepth 20000 in
theorem ggX3_countOthers_X3_isLong : GoodIn wsX3_countOthers wsX3_isLong := goodIn_r _ [5, 6, 17, 18, 19, 20, 21, 22, 23, 24] (by decide +kernel) (by decide +kernel)
set_option maxRecDepth 20000 in
theorem gX3_countOthers_X3_isLong : GoodIn wsX3_countOthers (wsV RX3 38 RX3 yX3_isLong wsX3_isLong) := goodIn_app (goodIn_of _ (by decide +kernel)) ggX3_countOthers_X3_isLong
set_option maxRecDepth 20000 in
theorem ggX3_countOthers_X3_isOther : GoodIn wsX3_countOthers wsX3_isOther := goodIn_r _ [10, 11, 12, 13, 14, 15, 4, 16, 17, 18, 19, 20, 21, 22, 23, 24] (by decide +kernel) (by decide +kernel)
set_option maxRecDepth 20000 in
theorem gX3_countOthers_X3_isOther : GoodIn wsX3_countOthers (wsV RX3 52 RX3 yX3_isOther wsX3_isOther) := goodIn_app (goodIn_of _ (by decide +kernel)) ggX3_countOthers_X3_isOther

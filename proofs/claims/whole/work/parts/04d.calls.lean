set_option maxRecDepth 20000 in
theorem ggX6_sums_X6_cheapest : GoodIn wsX6_sums wsX6_cheapest := goodIn_r _ [9, 4, 10, 11, 12, 8, 13, 17, 18, 19, 20, 21, 22, 23, 24, 25, 26, 27, 28, 29, 30, 31, 32, 33, 34, 35, 36, 37, 38, 39, 40, 41, 42, 43, 44, 45, 46, 47] (by decide +kernel) (by decide +kernel)
set_option maxRecDepth 20000 in
theorem gX6_sums_X6_cheapest : GoodIn wsX6_sums (wsV RX6 83 RX6 yX6_cheapest wsX6_cheapest) := goodIn_app (goodIn_of _ (by decide +kernel)) ggX6_sums_X6_cheapest
set_option maxRecDepth 20000 in
theorem ggX6_sums_X6_near : GoodIn wsX6_sums wsX6_near := goodIn_r _ [16] (by decide +kernel) (by decide +kernel)
set_option maxRecDepth 20000 in
theorem gX6_sums_X6_near : GoodIn wsX6_sums (va_wsS RX6 87 yX6_near wsX6_near) := goodIn_app (goodIn_of _ (by decide +kernel)) ggX6_sums_X6_near
set_option maxRecDepth 20000 in
theorem ggX6_withSign_X6_near : GoodIn wsX6_withSign wsX6_near := goodIn_r _ [8] (by decide +kernel) (by decide +kernel)
set_option maxRecDepth 20000 in
theorem gX6_withSign_X6_near : GoodIn wsX6_withSign (va_wsS RX6 87 yX6_near wsX6_near) := goodIn_app (goodIn_of _ (by decide +kernel)) ggX6_withSign_X6_near
set_option maxRecDepth 20000 in
theorem ggX6_withSign_X6_cell : GoodIn wsX6_withSign wsX6_cell := goodIn_r _ [11] (by decide +kernel) (by decide +kernel)
set_option maxRecDepth 20000 in
theorem gX6_withSign_X6_cell : GoodIn wsX6_withSign (va_wsS RX6 74 yX6_cell wsX6_cell) := goodIn_app (goodIn_of _ (by decide +kernel)) ggX6_withSign_X6_cell
set_option maxRecDepth 20000 in
theorem ggX6_chooses_X6_withSign : GoodIn wsX6_chooses wsX6_withSign := goodIn_r _ [12, 13, 4, 5, 6, 14, 15, 11, 16, 17, 18, 19, 20, 21, 22, 23, 24, 25, 26, 27, 28, 29, 30, 31, 32, 33, 34, 35, 36, 37, 38, 39, 40, 41, 42, 43, 44, 45, 46, 47, 48, 49, 50] (by decide +kernel) (by decide +kernel)
set_option maxRecDepth 20000 in
theorem gX6_chooses_X6_withSign : GoodIn wsX6_chooses (wsV RX6 91 RX6 yX6_withSign wsX6_withSign) := goodIn_app (goodIn_of _ (by decide +kernel)) ggX6_chooses_X6_withSign
set_option maxRecDepth 20000 in
theorem ggX6_chooses_X6_near : GoodIn wsX6_chooses wsX6_near := goodIn_r _ [16] (by decide +kernel) (by decide +kernel)
set_option maxRecDepth 20000 in
theorem gX6_chooses_X6_near : GoodIn wsX6_chooses (va_wsS RX6 87 yX6_near wsX6_near) := goodIn_app (goodIn_of _ (by decide +kernel)) ggX6_chooses_X6_near
set_option maxRecDepth 20000 in
theorem ggX6_chooses_X6_cell : GoodIn wsX6_chooses wsX6_cell := goodIn_r _ [19] (by decide +kernel) (by decide +kernel)
set_option maxRecDepth 20000 in
theorem gX6_chooses_X6_cell : GoodIn wsX6_chooses (va_wsS RX6 74 yX6_cell wsX6_cell) := goodIn_app (goodIn_of _ (by decide +kernel)) ggX6_chooses_X6_cell
set_option maxRecDepth 20000 in
theorem ggX6_gapOf_X6_withSign : GoodIn wsX6_gapOf wsX6_withSign := goodIn_r _ [10, 1, 3, 11, 12, 13, 14, 9, 15, 16, 17, 18, 19, 20, 21, 22, 23, 24, 25, 26, 27, 28, 29, 30, 31, 32, 33, 34, 35, 36, 37, 38, 39, 40, 41, 42, 43, 44, 45, 46, 47, 48, 49] (by decide +kernel) (by decide +kernel)
set_option maxRecDepth 20000 in
theorem gX6_gapOf_X6_withSign : GoodIn wsX6_gapOf (wsV RX6 91 RX6 yX6_withSign wsX6_withSign) := goodIn_app (goodIn_of _ (by decide +kernel)) ggX6_gapOf_X6_withSign
set_option maxRecDepth 20000 in
theorem ggX6_read_X6_fills : GoodIn wsX6_read wsX6_fills := goodIn_r _ [16, 4, 9, 17, 18, 15, 19, 20, 21, 22, 23, 2, 24, 3, 55, 56, 57, 58, 59, 60, 61, 62, 63, 64, 65, 66, 67, 68, 69, 70, 71, 72, 73, 74, 75, 76, 77, 78, 79, 80, 81, 82, 83, 84, 85] (by decide +kernel) (by decide +kernel)
set_option maxRecDepth 20000 in
theorem gX6_read_X6_fills : GoodIn wsX6_read (wsV RX6 94 RX6 yX6_fills wsX6_fills) := goodIn_app (goodIn_of _ (by decide +kernel)) ggX6_read_X6_fills
set_option maxRecDepth 20000 in
theorem ggX6_read_X6_sums : GoodIn wsX6_read wsX6_sums := goodIn_r _ [28, 29, 4, 30, 31, 32, 33, 34, 15, 35, 9, 17, 18, 19, 36, 37, 38, 55, 56, 57, 58, 59, 60, 61, 62, 63, 64, 65, 66, 67, 68, 69, 70, 71, 72, 73, 74, 75, 76, 77, 78, 79, 80, 81, 82, 83, 84, 85] (by decide +kernel) (by decide +kernel)
set_option maxRecDepth 20000 in
theorem gX6_read_X6_sums : GoodIn wsX6_read (wsV RX6 98 RX6 yX6_sums wsX6_sums) := goodIn_app (goodIn_of _ (by decide +kernel)) ggX6_read_X6_sums
set_option maxRecDepth 20000 in
theorem ggX6_read_X6_chooses : GoodIn wsX6_read wsX6_chooses := goodIn_r _ [42, 4, 43, 44, 45, 9, 29, 46, 47, 48, 49, 15, 50, 31, 36, 37, 38, 17, 18, 19, 55, 56, 57, 58, 59, 60, 61, 62, 63, 64, 65, 66, 67, 68, 69, 70, 71, 72, 73, 74, 75, 76, 77, 78, 79, 80, 81, 82, 83, 84, 85] (by decide +kernel) (by decide +kernel)
set_option maxRecDepth 20000 in
theorem gX6_read_X6_chooses : GoodIn wsX6_read (wsV RX6 109 RX6 yX6_chooses wsX6_chooses) := goodIn_app (goodIn_of _ (by decide +kernel)) ggX6_read_X6_chooses
set_option maxRecDepth 20000 in
theorem ggX6_read_X6_gapOf : GoodIn wsX6_read wsX6_gapOf := goodIn_r _ [54, 31, 4, 45, 30, 43, 47, 48, 49, 15, 50, 9, 29, 36, 37, 38, 17, 18, 19, 55, 56, 57, 58, 59, 60, 61, 62, 63, 64, 65, 66, 67, 68, 69, 70, 71, 72, 73, 74, 75, 76, 77, 78, 79, 80, 81, 82, 83, 84, 85] (by decide +kernel) (by decide +kernel)
set_option maxRecDepth 20000 in
theorem gX6_read_X6_gapOf : GoodIn wsX6_read (wsV RX6 113 RX6 yX6_gapOf wsX6_gapOf) := goodIn_app (goodIn_of _ (by decide +kernel)) ggX6_read_X6_gapOf
set_option maxRecDepth 20000 in
theorem ggX6_fits_X6_digits : GoodIn wsX6_fits wsX6_digits := goodIn_r _ [8, 3, 9, 10, 11, 12, 13, 14, 15, 16, 17, 18, 19, 20, 21, 22, 23, 24, 25, 26, 27, 28, 29, 30, 31, 32, 33, 34, 35, 36, 37, 38, 39] (by decide +kernel) (by decide +kernel)
set_option maxRecDepth 20000 in
theorem gX6_fits_X6_digits : GoodIn wsX6_fits (wsV RX6 126 RX6 yX6_digits wsX6_digits) := goodIn_app (goodIn_of _ (by decide +kernel)) ggX6_fits_X6_digits
set_option maxRecDepth 20000 in
theorem ggX6_about_X6_bad : GoodIn wsX6_about wsX6_bad := goodIn_r _ [11, 1, 21, 22, 23, 24, 25, 26, 27, 28, 29, 30, 31, 32, 33, 34, 35, 36, 37, 38, 39, 40, 41, 42, 43, 44, 45, 46, 47, 48, 49, 50, 51] (by decide +kernel) (by decide +kernel)
set_option maxRecDepth 20000 in
theorem gX6_about_X6_bad : GoodIn wsX6_about (wsV RX6 64 RX6 yX6_bad wsX6_bad) := goodIn_app (goodIn_of _ (by decide +kernel)) ggX6_about_X6_bad
set_option maxRecDepth 20000 in
theorem ggX6_about_X6_fits : GoodIn wsX6_about wsX6_fits := goodIn_r _ [15, 2, 3, 16, 17, 18, 19, 10, 20, 21, 22, 23, 24, 25, 26, 27, 28, 29, 30, 31, 32, 33, 34, 35, 36, 37, 38, 39, 40, 41, 42, 43, 44, 45, 46, 47, 48, 49, 50, 51] (by decide +kernel) (by decide +kernel)
set_option maxRecDepth 20000 in
theorem gX6_about_X6_fits : GoodIn wsX6_about (wsV RX6 129 RX6 yX6_fits wsX6_fits) := goodIn_app (goodIn_of _ (by decide +kernel)) ggX6_about_X6_fits
set_option maxRecDepth 20000 in
theorem ggX6_place_X6_bad : GoodIn wsX6_place wsX6_bad := goodIn_r _ [10, 1, 11, 12, 13, 14, 15, 16, 17, 18, 19, 20, 21, 22, 23, 24, 25, 26, 27, 28, 29, 30, 31, 32, 33, 34, 35, 36, 37, 38, 39, 40, 41] (by decide +kernel) (by decide +kernel)
set_option maxRecDepth 20000 in
theorem gX6_place_X6_bad : GoodIn wsX6_place (wsV RX6 64 RX6 yX6_bad wsX6_bad) := goodIn_app (goodIn_of _ (by decide +kernel)) ggX6_place_X6_bad
set_option maxRecDepth 20000 in
theorem ggX6_fieldOf_X6_digits : GoodIn wsX6_fieldOf wsX6_digits := goodIn_r _ [5, 6, 7, 8, 9, 10, 11, 12, 13, 14, 15, 16, 17, 18, 19, 20, 21, 22, 23, 24, 25, 26, 27, 28, 29, 30, 31, 32, 33, 34, 35, 36, 37] (by decide +kernel) (by decide +kernel)
set_option maxRecDepth 20000 in
theorem gX6_fieldOf_X6_digits : GoodIn wsX6_fieldOf (wsV RX6 126 RX6 yX6_digits wsX6_digits) := goodIn_app (goodIn_of _ (by decide +kernel)) ggX6_fieldOf_X6_digits
set_option maxRecDepth 20000 in
theorem ggX6_field_X6_bad : GoodIn wsX6_field wsX6_bad := goodIn_r _ [6, 1, 22, 23, 24, 25, 26, 27, 28, 29, 30, 31, 32, 33, 34, 35, 36, 37, 38, 39, 40, 41, 42, 43, 44, 45, 46, 47, 48, 49, 50, 51, 52] (by decide +kernel) (by decide +kernel)
set_option maxRecDepth 20000 in
theorem gX6_field_X6_bad : GoodIn wsX6_field (wsV RX6 64 RX6 yX6_bad wsX6_bad) := goodIn_app (goodIn_of _ (by decide +kernel)) ggX6_field_X6_bad
set_option maxRecDepth 20000 in
theorem ggX6_field_X6_fits : GoodIn wsX6_field wsX6_fits := goodIn_r _ [10, 11, 12, 13, 14, 15, 16, 5, 17, 22, 23, 24, 25, 26, 27, 28, 29, 30, 31, 32, 33, 34, 35, 36, 37, 38, 39, 40, 41, 42, 43, 44, 45, 46, 47, 48, 49, 50, 51, 52] (by decide +kernel) (by decide +kernel)
set_option maxRecDepth 20000 in
theorem gX6_field_X6_fits : GoodIn wsX6_field (wsV RX6 129 RX6 yX6_fits wsX6_fits) := goodIn_app (goodIn_of _ (by decide +kernel)) ggX6_field_X6_fits
set_option maxRecDepth 20000 in
theorem ggX6_field_X6_fieldOf : GoodIn wsX6_field wsX6_fieldOf := goodIn_r _ [21, 14, 15, 16, 5, 17, 13, 22, 23, 24, 25, 26, 27, 28, 29, 30, 31, 32, 33, 34, 35, 36, 37, 38, 39, 40, 41, 42, 43, 44, 45, 46, 47, 48, 49, 50, 51, 52] (by decide +kernel) (by decide +kernel)
set_option maxRecDepth 20000 in
theorem gX6_field_X6_fieldOf : GoodIn wsX6_field (wsV RX6 133 RX6 yX6_fieldOf wsX6_fieldOf) := goodIn_app (goodIn_of _ (by decide +kernel)) ggX6_field_X6_fieldOf
set_option maxRecDepth 20000 in
theorem ggX6_finds_X6_fits : GoodIn wsX6_finds wsX6_fits := goodIn_r _ [10, 1, 2, 3, 11, 12, 13, 9, 14, 15, 16, 17, 18, 19, 20, 21, 22, 23, 24, 25, 26, 27, 28, 29, 30, 31, 32, 33, 34, 35, 36, 37, 38, 39, 40, 41, 42, 43, 44, 45] (by decide +kernel) (by decide +kernel)
set_option maxRecDepth 20000 in
theorem gX6_finds_X6_fits : GoodIn wsX6_finds (wsV RX6 129 RX6 yX6_fits wsX6_fits) := goodIn_app (goodIn_of _ (by decide +kernel)) ggX6_finds_X6_fits
set_option maxRecDepth 20000 in
theorem ggX6_others_X6_finds : GoodIn wsX6_others wsX6_finds := goodIn_r _ [6, 7, 8, 9, 10, 11, 12, 13, 14, 5, 15, 16, 17, 18, 19, 20, 21, 22, 23, 24, 25, 26, 27, 28, 29, 30, 31, 32, 33, 34, 35, 36, 37, 38, 39, 40, 41, 42, 43, 44, 45, 46, 47, 48, 49, 50] (by decide +kernel) (by decide +kernel)
set_option maxRecDepth 20000 in
theorem gX6_others_X6_finds : GoodIn wsX6_others (wsV RX6 142 RX6 yX6_finds wsX6_finds) := goodIn_app (goodIn_of _ (by decide +kernel)) ggX6_others_X6_finds
set_option maxRecDepth 20000 in
theorem ggX6_costWith_X6_near : GoodIn wsX6_costWith wsX6_near := goodIn_r _ [9] (by decide +kernel) (by decide +kernel)
set_option maxRecDepth 20000 in
theorem gX6_costWith_X6_near : GoodIn wsX6_costWith (va_wsS RX6 87 yX6_near wsX6_near) := goodIn_app (goodIn_of _ (by decide +kernel)) ggX6_costWith_X6_near
set_option maxRecDepth 20000 in
theorem ggX6_costWith_X6_cell : GoodIn wsX6_costWith wsX6_cell := goodIn_r _ [12] (by decide +kernel) (by decide +kernel)
set_option maxRecDepth 20000 in
theorem gX6_costWith_X6_cell : GoodIn wsX6_costWith (va_wsS RX6 74 yX6_cell wsX6_cell) := goodIn_app (goodIn_of _ (by decide +kernel)) ggX6_costWith_X6_cell
set_option maxRecDepth 20000 in
theorem ggX6_other_X6_bad : GoodIn wsX6_other wsX6_bad := goodIn_r _ [9, 1, 39, 40, 41, 42, 43, 44, 45, 46, 47, 48, 49, 50, 51, 52, 53, 54, 55, 56, 57, 58, 59, 60, 61, 62, 63, 64, 65, 66, 67, 68, 69] (by decide +kernel) (by decide +kernel)
set_option maxRecDepth 20000 in
theorem gX6_other_X6_bad : GoodIn wsX6_other (wsV RX6 64 RX6 yX6_bad wsX6_bad) := goodIn_app (goodIn_of _ (by decide +kernel)) ggX6_other_X6_bad
set_option maxRecDepth 20000 in
theorem ggX6_other_X6_finds : GoodIn wsX6_other wsX6_finds := goodIn_r _ [13, 14, 15, 16, 2, 3, 17, 18, 19, 8, 20, 21, 22, 23, 24, 39, 40, 41, 42, 43, 44, 45, 46, 47, 48, 49, 50, 51, 52, 53, 54, 55, 56, 57, 58, 59, 60, 61, 62, 63, 64, 65, 66, 67, 68, 69] (by decide +kernel) (by decide +kernel)
set_option maxRecDepth 20000 in
theorem gX6_other_X6_finds : GoodIn wsX6_other (wsV RX6 142 RX6 yX6_finds wsX6_finds) := goodIn_app (goodIn_of _ (by decide +kernel)) ggX6_other_X6_finds
set_option maxRecDepth 20000 in
theorem ggX6_other_X6_costWith : GoodIn wsX6_other wsX6_costWith := goodIn_r _ [28, 29, 16, 30, 31, 32, 33, 34, 8, 35, 36, 37, 38, 39, 40, 41, 42, 43, 44, 45, 46, 47, 48, 49, 50, 51, 52, 53, 54, 55, 56, 57, 58, 59, 60, 61, 62, 63, 64, 65, 66, 67, 68, 69] (by decide +kernel) (by decide +kernel)
set_option maxRecDepth 20000 in
theorem gX6_other_X6_costWith : GoodIn wsX6_other (wsV RX6 145 RX6 yX6_costWith wsX6_costWith) := goodIn_app (goodIn_of _ (by decide +kernel)) ggX6_other_X6_costWith
set_option maxRecDepth 20000 in
theorem ggX6_choose_X6_finds : GoodIn wsX6_choose wsX6_finds := goodIn_r _ [11, 12, 13, 5, 2, 3, 14, 15, 16, 10, 17, 18, 19, 20, 21, 36, 37, 38, 39, 40, 41, 42, 43, 44, 45, 46, 47, 48, 49, 50, 51, 52, 53, 54, 55, 56, 57, 58, 59, 60, 61, 62, 63, 64, 65, 66] (by decide +kernel) (by decide +kernel)
set_option maxRecDepth 20000 in
theorem gX6_choose_X6_finds : GoodIn wsX6_choose (wsV RX6 142 RX6 yX6_finds wsX6_finds) := goodIn_app (goodIn_of _ (by decide +kernel)) ggX6_choose_X6_finds
set_option maxRecDepth 20000 in
theorem ggX6_choose_X6_costWith : GoodIn wsX6_choose wsX6_costWith := goodIn_r _ [25, 26, 5, 27, 28, 29, 30, 31, 10, 32, 33, 34, 35, 36, 37, 38, 39, 40, 41, 42, 43, 44, 45, 46, 47, 48, 49, 50, 51, 52, 53, 54, 55, 56, 57, 58, 59, 60, 61, 62, 63, 64, 65, 66] (by decide +kernel) (by decide +kernel)
set_option maxRecDepth 20000 in
theorem gX6_choose_X6_costWith : GoodIn wsX6_choose (wsV RX6 145 RX6 yX6_costWith wsX6_costWith) := goodIn_app (goodIn_of _ (by decide +kernel)) ggX6_choose_X6_costWith
set_option maxRecDepth 20000 in
theorem ggX6_batch_X6_bad : GoodIn wsX6_batch wsX6_bad := goodIn_r _ [9, 1, 10, 11, 12, 13, 14, 15, 16, 17, 18, 19, 20, 21, 22, 23, 24, 25, 26, 27, 28, 29, 30, 31, 32, 33, 34, 35, 36, 37, 38, 39, 40] (by decide +kernel) (by decide +kernel)
set_option maxRecDepth 20000 in
theorem gX6_batch_X6_bad : GoodIn wsX6_batch (wsV RX6 64 RX6 yX6_bad wsX6_bad) := goodIn_app (goodIn_of _ (by decide +kernel)) ggX6_batch_X6_bad

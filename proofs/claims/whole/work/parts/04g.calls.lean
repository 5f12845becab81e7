set_option maxRecDepth 20000 in
theorem ggL_law_X5_twin : GoodIn wsL_law wsX5_twin := goodIn_r _ [506, 27, 31, 315, 316, 317, 26, 318, 61, 62, 250, 251, 252, 253, 55, 461, 462, 463, 30, 464, 68, 71, 72, 73, 465, 350, 351, 352, 59, 599, 600, 601, 602, 603, 604, 605, 647, 648, 649, 650, 651, 652, 653, 654, 655, 656, 657, 658, 659, 660, 661, 662] (by decide +kernel) (by decide +kernel)
set_option maxRecDepth 20000 in
theorem gL_law_X5_twin : GoodIn wsL_law (wsV RL 106 RX5 yX5_twin wsX5_twin) := goodIn_app (goodIn_of _ (by decide +kernel)) ggL_law_X5_twin
set_option maxRecDepth 20000 in
theorem ggL_law_X6_twin : GoodIn wsL_law wsX6_twin := goodIn_r _ [510, 125, 487, 488, 489, 5, 490, 478, 98, 99, 100, 323, 324, 325, 326, 266, 265, 91, 327, 328, 329, 330, 357, 358, 359, 360, 606, 607, 608, 609, 610, 611, 612, 613, 614, 615, 616, 617, 618, 619, 620, 621, 622, 623, 624, 625, 626, 627, 628, 629, 630, 631, 632, 633, 634, 635, 636] (by decide +kernel) (by decide +kernel)
set_option maxRecDepth 20000 in
theorem gL_law_X6_twin : GoodIn wsL_law (wsV RL 109 RX6 yX6_twin wsX6_twin) := goodIn_app (goodIn_of _ (by decide +kernel)) ggL_law_X6_twin
set_option maxRecDepth 20000 in
theorem ggL_law_L_out : GoodIn wsL_law wsL_out := goodIn_ca (goodIn_r _ [513, 445, 514, 515, 516, 2, 517, 31, 451, 452, 453, 454, 455, 456, 431, 518, 519, 520, 30, 521, 68, 69, 70, 67, 599, 600, 601, 602, 603, 604, 605, 655, 656, 657, 658, 659, 660, 661, 662] (by decide +kernel) (by decide +kernel)) (goodIn_sub (fun _ h => List.mem_append_right _ h) (by decide +kernel))
set_option maxRecDepth 20000 in
theorem gL_law_L_out : GoodIn wsL_law (va_wsS RL 110 yL_out wsL_out) := goodIn_app (goodIn_of _ (by decide +kernel)) ggL_law_L_out
set_option maxRecDepth 20000 in
theorem ggL_law_X6_out : GoodIn wsL_law wsX6_out := goodIn_r _ [525, 479, 480, 481, 5, 482, 441, 125, 526, 527, 528, 529, 95, 478, 96, 97, 606, 607, 608, 609, 610, 611, 612, 613, 614, 615, 616, 617, 618, 619, 620, 621, 622, 623, 624, 625, 626, 627, 628, 629, 630, 631, 632, 633, 634, 635, 636] (by decide +kernel) (by decide +kernel)
set_option maxRecDepth 20000 in
theorem gL_law_X6_out : GoodIn wsL_law (wsV RL 112 RX6 yX6_out wsX6_out) := goodIn_app (goodIn_of _ (by decide +kernel)) ggL_law_X6_out
set_option maxRecDepth 20000 in
theorem ggL_law_L_slips : GoodIn wsL_law wsL_slips := goodIn_ca (goodIn_r _ [532, 445, 533, 534, 535, 2, 536, 35, 31, 537, 451, 452, 453, 454, 455, 456, 431, 538, 539, 540, 34, 541, 77, 542, 543, 544, 545, 546, 519, 520, 30, 521, 68, 69, 70, 67, 547, 548, 549, 550, 551, 552, 553, 554, 555, 556, 557, 78, 79, 80, 558, 559, 560, 599, 600, 601, 602, 603, 604, 605, 663, 664, 665, 666, 655, 656, 657, 658, 659, 660, 661, 662] (by decide +kernel) (by decide +kernel)) (goodIn_sub (fun _ h => List.mem_append_right _ h) (by decide +kernel))
set_option maxRecDepth 20000 in
theorem gL_law_L_slips : GoodIn wsL_law (va_wsS RL 113 yL_slips wsL_slips) := goodIn_app (goodIn_of _ (by decide +kernel)) ggL_law_L_slips
set_option maxRecDepth 20000 in
theorem ggL_law_X6_slips : GoodIn wsL_law wsX6_slips := goodIn_r _ [564, 565, 479, 480, 481, 5, 482, 441, 125, 566, 567, 568, 569, 478, 96, 97, 570, 571, 572, 526, 527, 528, 529, 95, 483, 484, 485, 486, 573, 574, 575, 606, 607, 608, 609, 610, 611, 612, 613, 614, 615, 616, 617, 618, 619, 620, 621, 622, 623, 624, 625, 626, 627, 628, 629, 630, 631, 632, 633, 634, 635, 636] (by decide +kernel) (by decide +kernel)
set_option maxRecDepth 20000 in
theorem gL_law_X6_slips : GoodIn wsL_law (wsV RL 115 RX6 yX6_slips wsX6_slips) := goodIn_app (goodIn_of _ (by decide +kernel)) ggL_law_X6_slips
set_option maxRecDepth 20000 in
theorem ggL_law_L_slip : GoodIn wsL_law wsL_slip := goodIn_ca (goodIn_ca (goodIn_r _ [578, 445, 105, 579, 580, 581, 2, 582, 110, 111, 35, 31, 537, 583, 584, 585, 451, 452, 453, 454, 455, 456, 431, 538, 539, 540, 34, 541, 77, 542, 543, 544, 545, 546, 519, 520, 30, 521, 68, 69, 70, 67, 547, 548, 549, 550, 551, 552, 553, 554, 555, 556, 557, 78, 79, 80, 558, 559, 560, 599, 600, 601, 602, 603, 604, 605, 663, 664, 665, 666, 655, 656, 657, 658, 659, 660, 661, 662] (by decide +kernel) (by decide +kernel)) (goodIn_sub (fun _ h => List.mem_append_left _ (List.mem_append_left _ (List.mem_append_right _ h))) (by decide +kernel))) (goodIn_sub (fun _ h => List.mem_append_right _ h) (by decide +kernel))
set_option maxRecDepth 20000 in
theorem gL_law_L_slip : GoodIn wsL_law (va_wsS RL 116 yL_slip wsL_slip) := goodIn_app (goodIn_of _ (by decide +kernel)) ggL_law_L_slip
set_option maxRecDepth 20000 in
theorem ggL_law_X6_slip : GoodIn wsL_law wsX6_slip := goodIn_r _ [589, 565, 570, 571, 572, 479, 480, 481, 5, 482, 441, 125, 128, 129, 130, 131, 566, 567, 568, 569, 478, 96, 97, 526, 527, 528, 529, 95, 483, 484, 485, 486, 573, 574, 575, 606, 607, 608, 609, 610, 611, 612, 613, 614, 615, 616, 617, 618, 619, 620, 621, 622, 623, 624, 625, 626, 627, 628, 629, 630, 631, 632, 633, 634, 635, 636] (by decide +kernel) (by decide +kernel)
set_option maxRecDepth 20000 in
theorem gL_law_X6_slip : GoodIn wsL_law (wsV RL 119 RX6 yX6_slip wsX6_slip) := goodIn_app (goodIn_of _ (by decide +kernel)) ggL_law_X6_slip
set_option maxRecDepth 20000 in
theorem ggL_law_X5_count : GoodIn wsL_law wsX5_count := goodIn_r _ [593, 16, 594, 19, 31, 431, 450, 599, 600, 601, 602, 603, 604, 605, 637, 638, 639, 655, 656, 657, 658, 659, 660, 661, 662] (by decide +kernel) (by decide +kernel)
set_option maxRecDepth 20000 in
theorem gL_law_X5_count : GoodIn wsL_law (wsV RL 120 RX5 yX5_count wsX5_count) := goodIn_app (goodIn_of _ (by decide +kernel)) ggL_law_X5_count
set_option maxRecDepth 20000 in
theorem ggL_law_X6_count : GoodIn wsL_law wsX6_count := goodIn_r _ [598, 125, 85, 147, 441, 478, 606, 607, 608, 609, 610, 611, 612, 613, 614, 615, 616, 617, 618, 619, 620, 621, 622, 623, 624, 625, 626, 627, 628, 629, 630, 631, 632, 633, 634, 635, 636] (by decide +kernel) (by decide +kernel)
set_option maxRecDepth 20000 in
theorem gL_law_X6_count : GoodIn wsL_law (wsV RL 123 RX6 yX6_count wsX6_count) := goodIn_app (goodIn_of _ (by decide +kernel)) ggL_law_X6_count

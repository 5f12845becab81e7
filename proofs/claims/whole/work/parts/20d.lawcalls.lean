set_option maxRecDepth 20000 in
theorem ggL_law_X5_init : GoodIn wsL_law wsX5_init := goodIn_r _ [9, 10, 11, 12, 13, 14, 15, 16, 17, 18, 19, 20, 21, 22, 23, 24, 25, 26, 27, 28, 29, 30, 31, 32, 33, 34, 35, 36, 37, 38, 39, 40, 41, 42, 43, 44, 45, 46, 47, 48, 49, 50, 51, 52, 53, 54, 55, 56, 57, 58, 59, 60, 61, 62, 63, 64, 65, 66, 67, 68, 69, 70, 71, 72, 73, 74, 75, 76, 77, 78, 79, 80, 637, 638, 639, 599, 600, 601, 602, 603, 604, 605, 640, 641, 642, 643, 644, 645, 646, 647, 648, 649, 650, 651, 652, 653, 654, 655, 656, 657, 658, 659, 660, 661, 662, 663, 664, 665, 666] (by decide +kernel) (by decide +kernel)
set_option maxRecDepth 20000 in
theorem gL_law_X5_init : GoodIn wsL_law (wsX5_init) := ggL_law_X5_init
set_option maxRecDepth 20000 in
theorem ggL_law_X6_init : GoodIn wsL_law wsX6_init := goodIn_r _ [83, 84, 11, 12, 17, 85, 86, 87, 88, 89, 90, 91, 92, 93, 94, 95, 96, 97, 98, 99, 100, 606, 607, 608, 609, 610, 611, 612, 613, 614, 615, 616, 617, 618, 619, 620, 621, 622, 623, 624, 625, 626, 627, 628, 629, 630, 631, 632, 633, 634, 635, 636] (by decide +kernel) (by decide +kernel)
set_option maxRecDepth 20000 in
theorem gL_law_X6_init : GoodIn wsL_law (wsX6_init) := ggL_law_X6_init
set_option maxRecDepth 20000 in
theorem ggL_law_L_teach : GoodIn wsL_law wsL_teach := goodIn_ca (goodIn_r _ [104, 105, 106, 107, 108, 2, 109, 110, 111, 16, 112, 113, 15, 114, 115, 116, 117, 118, 119, 120, 39, 41, 40, 599, 600, 601, 602, 603, 604, 605, 637, 638, 639] (by decide +kernel) (by decide +kernel)) (goodIn_sub (fun _ h => List.mem_append_left _ (List.mem_append_left _ (List.mem_append_right _ h))) (by decide +kernel))
set_option maxRecDepth 20000 in
theorem gL_law_L_teach : GoodIn wsL_law (va_wsS RL 59 yL_teach wsL_teach) := goodIn_app (goodIn_of _ (by decide +kernel)) ggL_law_L_teach
set_option maxRecDepth 20000 in
theorem ggL_law_X6_teach : GoodIn wsL_law wsX6_teach := goodIn_r _ [124, 125, 126, 127, 85, 128, 129, 130, 5, 131, 606, 607, 608, 609, 610, 611, 612, 613, 614, 615, 616, 617, 618, 619, 620, 621, 622, 623, 624, 625, 626, 627, 628, 629, 630, 631, 632, 633, 634, 635, 636] (by decide +kernel) (by decide +kernel)
set_option maxRecDepth 20000 in
theorem gL_law_X6_teach : GoodIn wsL_law (wsV RL 64 RX6 yX6_teach wsX6_teach) := goodIn_app (goodIn_of _ (by decide +kernel)) ggL_law_X6_teach
set_option maxRecDepth 20000 in
theorem ggL_law_X6_thrown : GoodIn wsL_law wsX6_thrown := goodIn_r _ [135, 125, 606, 607, 608, 609, 610, 611, 612, 613, 614, 615, 616, 617, 618, 619, 620, 621, 622, 623, 624, 625, 626, 627, 628, 629, 630, 631, 632, 633, 634, 635, 636] (by decide +kernel) (by decide +kernel)
set_option maxRecDepth 20000 in
theorem gL_law_X6_thrown : GoodIn wsL_law (wsV RL 65 RX6 yX6_thrown wsX6_thrown) := goodIn_app (goodIn_of _ (by decide +kernel)) ggL_law_X6_thrown
set_option maxRecDepth 20000 in
theorem ggL_law_L_tick : GoodIn wsL_law wsL_tick := goodIn_ca (goodIn_r _ [138, 105, 139, 140, 141, 2, 142, 110, 111, 19, 18, 599, 600, 601, 602, 603, 604, 605] (by decide +kernel) (by decide +kernel)) (goodIn_sub (fun _ h => List.mem_append_left _ (List.mem_append_left _ (List.mem_append_right _ h))) (by decide +kernel))
set_option maxRecDepth 20000 in
theorem gL_law_L_tick : GoodIn wsL_law (va_wsS RL 69 yL_tick wsL_tick) := goodIn_app (goodIn_of _ (by decide +kernel)) ggL_law_L_tick
set_option maxRecDepth 20000 in
theorem ggL_law_X6_tick : GoodIn wsL_law wsX6_tick := goodIn_r _ [146, 125, 147, 86, 128, 129, 130, 5, 131, 606, 607, 608, 609, 610, 611, 612, 613, 614, 615, 616, 617, 618, 619, 620, 621, 622, 623, 624, 625, 626, 627, 628, 629, 630, 631, 632, 633, 634, 635, 636] (by decide +kernel) (by decide +kernel)
set_option maxRecDepth 20000 in
theorem gL_law_X6_tick : GoodIn wsL_law (wsV RL 72 RX6 yX6_tick wsX6_tick) := goodIn_app (goodIn_of _ (by decide +kernel)) ggL_law_X6_tick
set_option maxRecDepth 20000 in
theorem ggL_law_X5_read : GoodIn wsL_law wsX5_read := goodIn_r _ [151, 16, 19, 27, 23, 152, 153, 154, 155, 156, 157, 158, 15, 159, 41, 160, 161, 162, 2, 163, 164, 165, 166, 167, 18, 168, 169, 170, 171, 22, 172, 45, 46, 173, 174, 175, 176, 47, 177, 178, 179, 180, 181, 182, 183, 184, 185, 186, 187, 188, 189, 190, 191, 192, 193, 194, 48, 195, 196, 197, 198, 49, 51, 199, 200, 201, 202, 203, 204, 205, 206, 207, 208, 209, 26, 210, 55, 56, 58, 211, 212, 213, 214, 215, 216, 217, 218, 50, 219, 220, 221, 222, 223, 224, 225, 226, 227, 228, 229, 230, 231, 232, 233, 234, 235, 236, 237, 238, 239, 240, 241, 242, 243, 244, 245, 246, 247, 248, 249, 61, 62, 59, 250, 251, 252, 253, 254, 255, 256, 599, 600, 601, 602, 603, 604, 605, 647, 648, 649, 650, 651, 652, 653, 654, 637, 638, 639, 640, 641, 642, 643, 644, 645, 646] (by decide +kernel) (by decide +kernel)
set_option maxRecDepth 20000 in
theorem gL_law_X5_read : GoodIn wsL_law (wsV RL 73 RX5 yX5_read wsX5_read) := goodIn_app (goodIn_of _ (by decide +kernel)) ggL_law_X5_read
set_option maxRecDepth 20000 in
theorem ggL_law_X6_read : GoodIn wsL_law wsX6_read := goodIn_r _ [260, 125, 85, 147, 261, 262, 263, 264, 88, 87, 265, 266, 267, 268, 269, 5, 270, 271, 272, 273, 274, 275, 276, 277, 86, 278, 279, 280, 281, 89, 90, 282, 283, 284, 285, 286, 287, 288, 289, 290, 291, 292, 293, 91, 94, 93, 92, 294, 295, 296, 297, 298, 299, 300, 301, 606, 607, 608, 609, 610, 611, 612, 613, 614, 615, 616, 617, 618, 619, 620, 621, 622, 623, 624, 625, 626, 627, 628, 629, 630, 631, 632, 633, 634, 635, 636] (by decide +kernel) (by decide +kernel)
set_option maxRecDepth 20000 in
theorem gL_law_X6_read : GoodIn wsL_law (wsV RL 76 RX6 yX6_read wsX6_read) := goodIn_app (goodIn_of _ (by decide +kernel)) ggL_law_X6_read
set_option maxRecDepth 20000 in
theorem ggL_law_L_about : GoodIn wsL_law wsL_about := goodIn_ca (goodIn_r _ [304, 105, 305, 306, 307, 2, 308, 110, 111, 27, 309, 153, 154, 310, 311, 312, 313, 26, 314, 55, 315, 316, 317, 318, 61, 62, 250, 251, 252, 253, 599, 600, 601, 602, 603, 604, 605, 647, 648, 649, 650, 651, 652, 653, 654] (by decide +kernel) (by decide +kernel)) (goodIn_sub (fun _ h => List.mem_append_left _ (List.mem_append_left _ (List.mem_append_right _ h))) (by decide +kernel))
set_option maxRecDepth 20000 in
theorem gL_law_L_about : GoodIn wsL_law (va_wsS RL 77 yL_about wsL_about) := goodIn_app (goodIn_of _ (by decide +kernel)) ggL_law_L_about
set_option maxRecDepth 20000 in
theorem ggL_law_X6_about : GoodIn wsL_law wsX6_about := goodIn_r _ [322, 125, 266, 265, 263, 264, 262, 128, 129, 130, 5, 131, 323, 324, 325, 326, 91, 327, 328, 329, 330, 606, 607, 608, 609, 610, 611, 612, 613, 614, 615, 616, 617, 618, 619, 620, 621, 622, 623, 624, 625, 626, 627, 628, 629, 630, 631, 632, 633, 634, 635, 636] (by decide +kernel) (by decide +kernel)
set_option maxRecDepth 20000 in
theorem gL_law_X6_about : GoodIn wsL_law (wsV RL 79 RX6 yX6_about wsX6_about) := goodIn_app (goodIn_of _ (by decide +kernel)) ggL_law_X6_about
set_option maxRecDepth 20000 in
theorem ggL_law_L_place : GoodIn wsL_law wsL_place := goodIn_ca (goodIn_r _ [333, 105, 334, 335, 336, 2, 337, 110, 111, 27, 309, 152, 155, 599, 600, 601, 602, 603, 604, 605, 647, 648, 649, 650, 651, 652, 653, 654] (by decide +kernel) (by decide +kernel)) (goodIn_sub (fun _ h => List.mem_append_left _ (List.mem_append_left _ (List.mem_append_right _ h))) (by decide +kernel))
set_option maxRecDepth 20000 in
theorem gL_law_L_place : GoodIn wsL_law (va_wsS RL 80 yL_place wsL_place) := goodIn_app (goodIn_of _ (by decide +kernel)) ggL_law_L_place
set_option maxRecDepth 20000 in
theorem ggL_law_X6_place : GoodIn wsL_law wsX6_place := goodIn_r _ [341, 125, 266, 265, 91, 92, 128, 129, 130, 5, 131, 606, 607, 608, 609, 610, 611, 612, 613, 614, 615, 616, 617, 618, 619, 620, 621, 622, 623, 624, 625, 626, 627, 628, 629, 630, 631, 632, 633, 634, 635, 636] (by decide +kernel) (by decide +kernel)
set_option maxRecDepth 20000 in
theorem gL_law_X6_place : GoodIn wsL_law (wsV RL 82 RX6 yX6_place wsX6_place) := goodIn_app (goodIn_of _ (by decide +kernel)) ggL_law_X6_place
set_option maxRecDepth 20000 in
theorem ggL_law_L_field : GoodIn wsL_law wsL_field := goodIn_ca (goodIn_r _ [344, 105, 345, 346, 347, 2, 348, 110, 111, 27, 315, 316, 317, 26, 318, 61, 62, 250, 251, 252, 253, 55, 349, 350, 351, 352, 59, 599, 600, 601, 602, 603, 604, 605, 647, 648, 649, 650, 651, 652, 653, 654] (by decide +kernel) (by decide +kernel)) (goodIn_sub (fun _ h => List.mem_append_left _ (List.mem_append_left _ (List.mem_append_right _ h))) (by decide +kernel))
set_option maxRecDepth 20000 in
theorem gL_law_L_field : GoodIn wsL_law (va_wsS RL 83 yL_field wsL_field) := goodIn_app (goodIn_of _ (by decide +kernel)) ggL_law_L_field
set_option maxRecDepth 20000 in
theorem ggL_law_X6_field : GoodIn wsL_law wsX6_field := goodIn_r _ [356, 125, 128, 129, 130, 5, 131, 323, 324, 325, 326, 266, 265, 91, 327, 328, 329, 330, 357, 358, 359, 360, 606, 607, 608, 609, 610, 611, 612, 613, 614, 615, 616, 617, 618, 619, 620, 621, 622, 623, 624, 625, 626, 627, 628, 629, 630, 631, 632, 633, 634, 635, 636] (by decide +kernel) (by decide +kernel)
set_option maxRecDepth 20000 in
theorem gL_law_X6_field : GoodIn wsL_law (wsV RL 85 RX6 yX6_field wsX6_field) := goodIn_app (goodIn_of _ (by decide +kernel)) ggL_law_X6_field
set_option maxRecDepth 20000 in
theorem ggL_law_X5_others : GoodIn wsL_law wsX5_others := goodIn_r _ [364, 27, 365, 366, 367, 26, 368, 250, 251, 252, 253, 55, 369, 370, 371, 372, 59, 61, 62, 254, 255, 256, 599, 600, 601, 602, 603, 604, 605, 647, 648, 649, 650, 651, 652, 653, 654] (by decide +kernel) (by decide +kernel)
set_option maxRecDepth 20000 in
theorem gL_law_X5_others : GoodIn wsL_law (wsV RL 86 RX5 yX5_others wsX5_others) := goodIn_app (goodIn_of _ (by decide +kernel)) ggL_law_X5_others
set_option maxRecDepth 20000 in
theorem ggL_law_X6_others : GoodIn wsL_law wsX6_others := goodIn_r _ [376, 125, 377, 378, 379, 5, 380, 266, 265, 91, 381, 382, 323, 324, 325, 326, 327, 328, 329, 330, 606, 607, 608, 609, 610, 611, 612, 613, 614, 615, 616, 617, 618, 619, 620, 621, 622, 623, 624, 625, 626, 627, 628, 629, 630, 631, 632, 633, 634, 635, 636] (by decide +kernel) (by decide +kernel)
set_option maxRecDepth 20000 in
theorem gL_law_X6_others : GoodIn wsL_law (wsV RL 89 RX6 yX6_others wsX6_others) := goodIn_app (goodIn_of _ (by decide +kernel)) ggL_law_X6_others
set_option maxRecDepth 20000 in
theorem ggL_law_L_other : GoodIn wsL_law wsL_other := goodIn_ca (goodIn_r _ [385, 105, 386, 387, 388, 2, 389, 110, 111, 27, 23, 152, 153, 390, 391, 392, 26, 393, 250, 251, 252, 253, 55, 369, 370, 371, 372, 59, 61, 62, 254, 255, 256, 394, 395, 396, 22, 397, 238, 239, 240, 241, 45, 242, 243, 244, 245, 48, 47, 177, 178, 179, 195, 196, 197, 198, 49, 51, 199, 200, 201, 202, 192, 193, 186, 194, 398, 204, 205, 206, 599, 600, 601, 602, 603, 604, 605, 647, 648, 649, 650, 651, 652, 653, 654, 640, 641, 642, 643, 644, 645, 646] (by decide +kernel) (by decide +kernel)) (goodIn_sub (fun _ h => List.mem_append_left _ (List.mem_append_left _ (List.mem_append_right _ h))) (by decide +kernel))
set_option maxRecDepth 20000 in
theorem gL_law_L_other : GoodIn wsL_law (va_wsS RL 90 yL_other wsL_other) := goodIn_app (goodIn_of _ (by decide +kernel)) ggL_law_L_other
set_option maxRecDepth 20000 in
theorem ggL_law_X6_other : GoodIn wsL_law wsX6_other := goodIn_r _ [402, 125, 381, 382, 263, 128, 129, 130, 5, 131, 377, 378, 379, 380, 266, 265, 91, 323, 324, 325, 326, 327, 328, 329, 330, 403, 404, 405, 406, 93, 94, 88, 282, 287, 288, 289, 271, 272, 273, 606, 607, 608, 609, 610, 611, 612, 613, 614, 615, 616, 617, 618, 619, 620, 621, 622, 623, 624, 625, 626, 627, 628, 629, 630, 631, 632, 633, 634, 635, 636] (by decide +kernel) (by decide +kernel)
set_option maxRecDepth 20000 in
theorem gL_law_X6_other : GoodIn wsL_law (wsV RL 92 RX6 yX6_other wsX6_other) := goodIn_app (goodIn_of _ (by decide +kernel)) ggL_law_X6_other
set_option maxRecDepth 20000 in
theorem ggL_law_X5_choose : GoodIn wsL_law wsX5_choose := goodIn_r _ [410, 27, 23, 152, 390, 391, 392, 26, 393, 250, 251, 252, 253, 55, 369, 370, 371, 372, 59, 61, 62, 254, 255, 256, 394, 395, 396, 22, 397, 238, 239, 240, 241, 45, 242, 243, 244, 245, 48, 47, 177, 178, 179, 195, 196, 197, 198, 49, 51, 199, 200, 201, 202, 192, 193, 186, 194, 398, 204, 205, 206, 411, 412, 413, 414, 56, 57, 415, 247, 248, 249, 599, 600, 601, 602, 603, 604, 605, 647, 648, 649, 650, 651, 652, 653, 654, 640, 641, 642, 643, 644, 645, 646] (by decide +kernel) (by decide +kernel)
set_option maxRecDepth 20000 in
theorem gL_law_X5_choose : GoodIn wsL_law (wsV RL 93 RX5 yX5_choose wsX5_choose) := goodIn_app (goodIn_of _ (by decide +kernel)) ggL_law_X5_choose
set_option maxRecDepth 20000 in
theorem ggL_law_X6_choose : GoodIn wsL_law wsX6_choose := goodIn_r _ [419, 125, 381, 382, 263, 91, 264, 377, 378, 379, 5, 380, 266, 265, 323, 324, 325, 326, 327, 328, 329, 330, 403, 404, 405, 406, 93, 94, 88, 282, 287, 288, 289, 271, 272, 273, 606, 607, 608, 609, 610, 611, 612, 613, 614, 615, 616, 617, 618, 619, 620, 621, 622, 623, 624, 625, 626, 627, 628, 629, 630, 631, 632, 633, 634, 635, 636] (by decide +kernel) (by decide +kernel)
set_option maxRecDepth 20000 in
theorem gL_law_X6_choose : GoodIn wsL_law (wsV RL 96 RX6 yX6_choose wsX6_choose) := goodIn_app (goodIn_of _ (by decide +kernel)) ggL_law_X6_choose
set_option maxRecDepth 20000 in
theorem ggL_law_L_batch : GoodIn wsL_law wsL_batch := goodIn_ca (goodIn_ca (goodIn_r _ [422, 105, 423, 424, 425, 426, 2, 427, 110, 111, 428, 429, 430, 31, 431, 432, 433, 434, 30, 435, 67, 66, 599, 600, 601, 602, 603, 604, 605, 655, 656, 657, 658, 659, 660, 661, 662] (by decide +kernel) (by decide +kernel)) (goodIn_sub (fun _ h => List.mem_append_left _ (List.mem_append_left _ (List.mem_append_right _ h))) (by decide +kernel))) (goodIn_sub (fun _ h => List.mem_append_left _ (List.mem_append_right _ h)) (by decide +kernel))
set_option maxRecDepth 20000 in
theorem gL_law_L_batch : GoodIn wsL_law (va_wsS RL 97 yL_batch wsL_batch) := goodIn_app (goodIn_of _ (by decide +kernel)) ggL_law_L_batch
set_option maxRecDepth 20000 in
theorem ggL_law_X6_batch : GoodIn wsL_law wsX6_batch := goodIn_r _ [439, 125, 440, 441, 95, 128, 129, 130, 5, 131, 606, 607, 608, 609, 610, 611, 612, 613, 614, 615, 616, 617, 618, 619, 620, 621, 622, 623, 624, 625, 626, 627, 628, 629, 630, 631, 632, 633, 634, 635, 636] (by decide +kernel) (by decide +kernel)
set_option maxRecDepth 20000 in
theorem gL_law_X6_batch : GoodIn wsL_law (wsV RL 99 RX6 yX6_batch wsX6_batch) := goodIn_app (goodIn_of _ (by decide +kernel)) ggL_law_X6_batch
set_option maxRecDepth 20000 in
theorem ggL_law_L_paper : GoodIn wsL_law wsL_paper := goodIn_ca (goodIn_ca (goodIn_r _ [444, 445, 105, 446, 447, 448, 2, 449, 27, 31, 450, 451, 452, 453, 454, 455, 456, 431, 457, 458, 459, 110, 111, 460, 315, 316, 317, 26, 318, 61, 62, 250, 251, 252, 253, 55, 461, 462, 463, 30, 464, 68, 71, 72, 73, 465, 350, 351, 352, 59, 466, 467, 468, 469, 69, 70, 470, 471, 472, 473, 599, 600, 601, 602, 603, 604, 605, 655, 656, 657, 658, 659, 660, 661, 662, 647, 648, 649, 650, 651, 652, 653, 654] (by decide +kernel) (by decide +kernel)) (goodIn_sub (fun _ h => List.mem_append_right _ h) (by decide +kernel))) (goodIn_sub (fun _ h => List.mem_append_left _ (List.mem_append_left _ (List.mem_append_right _ h))) (by decide +kernel))
set_option maxRecDepth 20000 in
theorem gL_law_L_paper : GoodIn wsL_law (va_wsS RL 100 yL_paper wsL_paper) := goodIn_app (goodIn_of _ (by decide +kernel)) ggL_law_L_paper
set_option maxRecDepth 20000 in
theorem ggL_law_X6_paper : GoodIn wsL_law wsX6_paper := goodIn_r _ [477, 478, 96, 97, 98, 99, 100, 266, 479, 480, 481, 5, 482, 441, 125, 483, 484, 485, 486, 128, 129, 130, 131, 323, 324, 325, 326, 265, 91, 327, 328, 329, 330, 487, 488, 489, 490, 357, 358, 359, 360, 606, 607, 608, 609, 610, 611, 612, 613, 614, 615, 616, 617, 618, 619, 620, 621, 622, 623, 624, 625, 626, 627, 628, 629, 630, 631, 632, 633, 634, 635, 636] (by decide +kernel) (by decide +kernel)
set_option maxRecDepth 20000 in
theorem gL_law_X6_paper : GoodIn wsL_law (wsV RL 102 RX6 yX6_paper wsX6_paper) := goodIn_app (goodIn_of _ (by decide +kernel)) ggL_law_X6_paper
set_option maxRecDepth 20000 in
theorem ggL_law_L_amount : GoodIn wsL_law wsL_amount := goodIn_ca (goodIn_ca (goodIn_r _ [493, 445, 105, 494, 495, 496, 2, 497, 455, 456, 31, 450, 498, 457, 458, 459, 110, 111, 460, 599, 600, 601, 602, 603, 604, 605, 655, 656, 657, 658, 659, 660, 661, 662] (by decide +kernel) (by decide +kernel)) (goodIn_sub (fun _ h => List.mem_append_right _ h) (by decide +kernel))) (goodIn_sub (fun _ h => List.mem_append_left _ (List.mem_append_left _ (List.mem_append_right _ h))) (by decide +kernel))
set_option maxRecDepth 20000 in
theorem gL_law_L_amount : GoodIn wsL_law (va_wsS RL 103 yL_amount wsL_amount) := goodIn_app (goodIn_of _ (by decide +kernel)) ggL_law_L_amount
set_option maxRecDepth 20000 in
theorem ggL_law_X6_amount : GoodIn wsL_law wsX6_amount := goodIn_r _ [502, 125, 478, 97, 128, 129, 130, 5, 131, 483, 484, 485, 486, 606, 607, 608, 609, 610, 611, 612, 613, 614, 615, 616, 617, 618, 619, 620, 621, 622, 623, 624, 625, 626, 627, 628, 629, 630, 631, 632, 633, 634, 635, 636] (by decide +kernel) (by decide +kernel)
set_option maxRecDepth 20000 in
theorem gL_law_X6_amount : GoodIn wsL_law (wsV RL 105 RX6 yX6_amount wsX6_amount) := goodIn_app (goodIn_of _ (by decide +kernel)) ggL_law_X6_amount
set_option maxRecDepth 20000 in
theorem ggL_law_X5_twin : GoodIn wsL_law wsX5_twin := goodIn_r _ [506, 27, 31, 315, 316, 317, 26, 318, 61, 62, 250, 251, 252, 253, 55, 461, 462, 463, 30, 464, 68, 71, 72, 73, 465, 350, 351, 352, 59, 599, 600, 601, 602, 603, 604, 605, 647, 648, 649, 650, 651, 652, 653, 654, 655, 656, 657, 658, 659, 660, 661, 662] (by decide +kernel) (by decide +kernel)
set_option maxRecDepth 20000 in
theorem gL_law_X5_twin : GoodIn wsL_law (wsV RL 106 RX5 yX5_twin wsX5_twin) := goodIn_app (goodIn_of _ (by decide +kernel)) ggL_law_X5_twin
set_option maxRecDepth 20000 in
theorem ggL_law_X6_twin : GoodIn wsL_law wsX6_twin := goodIn_r _ [510, 125, 487, 488, 489, 5, 490, 478, 98, 99, 100, 323, 324, 325, 326, 266, 265, 91, 327, 328, 329, 330, 357, 358, 359, 360, 606, 607, 608, 609, 610, 611, 612, 613, 614, 615, 616, 617, 618, 619, 620, 621, 622, 623, 624, 625, 626, 627, 628, 629, 630, 631, 632, 633, 634, 635, 636] (by decide +kernel) (by decide +kernel)
set_option maxRecDepth 20000 in
theorem gL_law_X6_twin : GoodIn wsL_law (wsV RL 109 RX6 yX6_twin wsX6_twin) := goodIn_app (goodIn_of _ (by decide +kernel)) ggL_law_X6_twin
set_option maxRecDepth 20000 in
theorem ggL_law_L_out : GoodIn wsL_law wsL_out := goodIn_ca (goodIn_r _ [513, 445, 514, 515, 516, 2, 517, 31, 451, 452, 453, 454, 455, 456, 431, 518, 519, 520, 30, 521, 68, 69, 70, 67, 599, 600, 601, 602, 603, 604, 605, 655, 656, 657, 658, 659, 660, 661, 662] (by decide +kernel) (by decide +kernel)) (goodIn_sub (fun _ h => List.mem_append_right _ h) (by decide +kernel))
set_option maxRecDepth 20000 in
theorem gL_law_L_out : GoodIn wsL_law (va_wsS RL 110 yL_out wsL_out) := goodIn_app (goodIn_of _ (by decide +kernel)) ggL_law_L_out
set_option maxRecDepth 20000 in
theorem ggL_law_X6_out : GoodIn wsL_law wsX6_out := goodIn_r _ [525, 479, 480, 481, 5, 482, 441, 125, 526, 527, 528, 529, 95, 478, 96, 97, 606, 607, 608, 609, 610, 611, 612, 613, 614, 615, 616, 617, 618, 619, 620, 621, 622, 623, 624, 625, 626, 627, 628, 629, 630, 631, 632, 633, 634, 635, 636] (by decide +kernel) (by decide +kernel)
set_option maxRecDepth 20000 in
theorem gL_law_X6_out : GoodIn wsL_law (wsV RL 112 RX6 yX6_out wsX6_out) := goodIn_app (goodIn_of _ (by decide +kernel)) ggL_law_X6_out
set_option maxRecDepth 20000 in
theorem ggL_law_L_slips : GoodIn wsL_law wsL_slips := goodIn_ca (goodIn_r _ [532, 445, 533, 534, 535, 2, 536, 35, 31, 537, 451, 452, 453, 454, 455, 456, 431, 538, 539, 540, 34, 541, 77, 542, 543, 544, 545, 546, 519, 520, 30, 521, 68, 69, 70, 67, 547, 548, 549, 550, 551, 552, 553, 554, 555, 556, 557, 78, 79, 80, 558, 559, 560, 599, 600, 601, 602, 603, 604, 605, 663, 664, 665, 666, 655, 656, 657, 658, 659, 660, 661, 662] (by decide +kernel) (by decide +kernel)) (goodIn_sub (fun _ h => List.mem_append_right _ h) (by decide +kernel))
set_option maxRecDepth 20000 in
theorem gL_law_L_slips : GoodIn wsL_law (va_wsS RL 113 yL_slips wsL_slips) := goodIn_app (goodIn_of _ (by decide +kernel)) ggL_law_L_slips
set_option maxRecDepth 20000 in
theorem ggL_law_X6_slips : GoodIn wsL_law wsX6_slips := goodIn_r _ [564, 565, 479, 480, 481, 5, 482, 441, 125, 566, 567, 568, 569, 478, 96, 97, 570, 571, 572, 526, 527, 528, 529, 95, 483, 484, 485, 486, 573, 574, 575, 606, 607, 608, 609, 610, 611, 612, 613, 614, 615, 616, 617, 618, 619, 620, 621, 622, 623, 624, 625, 626, 627, 628, 629, 630, 631, 632, 633, 634, 635, 636] (by decide +kernel) (by decide +kernel)
set_option maxRecDepth 20000 in
theorem gL_law_X6_slips : GoodIn wsL_law (wsV RL 115 RX6 yX6_slips wsX6_slips) := goodIn_app (goodIn_of _ (by decide +kernel)) ggL_law_X6_slips
set_option maxRecDepth 20000 in
theorem ggL_law_L_slip : GoodIn wsL_law wsL_slip := goodIn_ca (goodIn_ca (goodIn_r _ [578, 445, 105, 579, 580, 581, 2, 582, 110, 111, 35, 31, 537, 583, 584, 585, 451, 452, 453, 454, 455, 456, 431, 538, 539, 540, 34, 541, 77, 542, 543, 544, 545, 546, 519, 520, 30, 521, 68, 69, 70, 67, 547, 548, 549, 550, 551, 552, 553, 554, 555, 556, 557, 78, 79, 80, 558, 559, 560, 599, 600, 601, 602, 603, 604, 605, 663, 664, 665, 666, 655, 656, 657, 658, 659, 660, 661, 662] (by decide +kernel) (by decide +kernel)) (goodIn_sub (fun _ h => List.mem_append_left _ (List.mem_append_left _ (List.mem_append_right _ h))) (by decide +kernel))) (goodIn_sub (fun _ h => List.mem_append_right _ h) (by decide +kernel))
set_option maxRecDepth 20000 in
theorem gL_law_L_slip : GoodIn wsL_law (va_wsS RL 116 yL_slip wsL_slip) := goodIn_app (goodIn_of _ (by decide +kernel)) ggL_law_L_slip
set_option maxRecDepth 20000 in
theorem ggL_law_X6_slip : GoodIn wsL_law wsX6_slip := goodIn_r _ [589, 565, 570, 571, 572, 479, 480, 481, 5, 482, 441, 125, 128, 129, 130, 131, 566, 567, 568, 569, 478, 96, 97, 526, 527, 528, 529, 95, 483, 484, 485, 486, 573, 574, 575, 606, 607, 608, 609, 610, 611, 612, 613, 614, 615, 616, 617, 618, 619, 620, 621, 622, 623, 624, 625, 626, 627, 628, 629, 630, 631, 632, 633, 634, 635, 636] (by decide +kernel) (by decide +kernel)
set_option maxRecDepth 20000 in
theorem gL_law_X6_slip : GoodIn wsL_law (wsV RL 119 RX6 yX6_slip wsX6_slip) := goodIn_app (goodIn_of _ (by decide +kernel)) ggL_law_X6_slip
set_option maxRecDepth 20000 in
theorem ggL_law_X5_count : GoodIn wsL_law wsX5_count := goodIn_r _ [593, 16, 594, 19, 31, 431, 450, 599, 600, 601, 602, 603, 604, 605, 637, 638, 639, 655, 656, 657, 658, 659, 660, 661, 662] (by decide +kernel) (by decide +kernel)
set_option maxRecDepth 20000 in
theorem gL_law_X5_count : GoodIn wsL_law (wsV RL 120 RX5 yX5_count wsX5_count) := goodIn_app (goodIn_of _ (by decide +kernel)) ggL_law_X5_count
set_option maxRecDepth 20000 in
theorem ggL_law_X6_count : GoodIn wsL_law wsX6_count := goodIn_r _ [598, 125, 85, 147, 441, 478, 606, 607, 608, 609, 610, 611, 612, 613, 614, 615, 616, 617, 618, 619, 620, 621, 622, 623, 624, 625, 626, 627, 628, 629, 630, 631, 632, 633, 634, 635, 636] (by decide +kernel) (by decide +kernel)
set_option maxRecDepth 20000 in
theorem gL_law_X6_count : GoodIn wsL_law (wsV RL 123 RX6 yX6_count wsX6_count) := goodIn_app (goodIn_of _ (by decide +kernel)) ggL_law_X6_count

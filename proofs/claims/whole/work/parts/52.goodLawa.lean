set_option maxRecDepth 20000 in
theorem ggL_law_X4_init : GoodIn wsL_law wsX4_init := goodIn_r _ [9, 10, 11, 12, 13, 14, 15, 16, 17, 18, 19, 20, 21, 22, 23, 24, 25, 26, 27, 28, 29, 30, 31, 32, 33, 34, 35, 36, 37, 38, 39, 40, 41, 42, 43, 44, 45, 46, 47, 48, 49, 50, 51, 52, 53, 54, 55, 56, 57, 58, 59, 60, 598, 599, 600, 566, 567, 568, 569, 570, 571, 572, 573, 574, 575, 576, 601, 602, 603, 604, 605, 606, 607, 608, 609] (by decide +kernel) (by decide +kernel)
set_option maxRecDepth 20000 in
theorem gL_law_X4_init : GoodIn wsL_law (wsX4_init) := ggL_law_X4_init
set_option maxRecDepth 20000 in
theorem ggL_law_X5_init : GoodIn wsL_law wsX5_init := goodIn_ca (goodIn_r _ [63, 64, 11, 12, 29, 65, 66, 67, 68, 69, 70, 71, 72, 73, 74, 75, 76, 77, 78, 79, 80, 81, 82, 83, 84, 5, 85, 86, 87, 88, 89, 90, 91, 577, 578, 579, 580, 581, 582, 583, 584, 585, 586, 587, 588, 589, 590, 591, 592, 593, 594, 595, 596, 597] (by decide +kernel) (by decide +kernel)) (goodIn_sub (fun _ h => List.mem_append_left _ (List.mem_append_left _ (List.mem_append_left _ (List.mem_append_right _ h)))) (by decide +kernel))
set_option maxRecDepth 20000 in
theorem gL_law_X5_init : GoodIn wsL_law (wsX5_init) := ggL_law_X5_init
set_option maxRecDepth 20000 in
theorem ggL_law_L_insert : GoodIn wsL_law wsL_insert := goodIn_ca (goodIn_ca (goodIn_ca (goodIn_ca (goodIn_r _ [95, 96, 97, 98, 99, 100, 101, 2, 102, 16, 103, 104, 105, 106, 107, 108, 109, 110, 111, 112, 113, 114, 115, 116, 117, 118, 119, 120, 121, 122, 123, 124, 32, 125, 126, 127, 128, 20, 33, 129, 130, 131, 132, 28, 133, 27, 134, 135, 60, 136, 19, 137, 138, 46, 47, 139, 140, 141, 142, 143, 144, 145, 49, 48, 146, 147, 148, 149, 15, 150, 151, 40, 41, 152, 153, 154, 155, 42, 156, 157, 158, 159, 160, 161, 162, 163, 164, 165, 166, 167, 168, 169, 170, 171, 172, 173, 174, 175, 176, 177, 178, 179, 180, 566, 567, 568, 569, 570, 571, 572, 573, 574, 575, 576, 598, 599, 600, 601, 602, 603, 604, 609, 610, 611, 612, 613, 614, 615, 616, 617, 618, 619] (by decide +kernel) (by decide +kernel)) (goodIn_sub (fun _ h => List.mem_append_left _ (List.mem_append_left _ (List.mem_append_left _ (List.mem_append_right _ h)))) (by decide +kernel))) (goodIn_sub (fun _ h => List.mem_append_left _ (List.mem_append_left _ (List.mem_append_right _ h))) (by decide +kernel))) (goodIn_sub (fun _ h => List.mem_append_left _ (List.mem_append_right _ h)) (by decide +kernel))) (goodIn_sub (fun _ h => List.mem_append_right _ h) (by decide +kernel))
set_option maxRecDepth 20000 in
theorem gL_law_L_insert : GoodIn wsL_law (va_wsS RL 75 yL_insert wsL_insert) := goodIn_app (goodIn_of _ (by decide +kernel)) ggL_law_L_insert
set_option maxRecDepth 20000 in
theorem ggL_law_X5_insert : GoodIn wsL_law wsX5_insert := goodIn_ca (goodIn_r _ [184, 185, 186, 86, 187, 188, 189, 5, 190, 191, 192, 193, 194, 195, 196, 197, 198, 199, 200, 201, 65, 91, 66, 68, 67, 202, 77, 78, 82, 83, 84, 85, 76, 87, 88, 89, 90, 577, 578, 579, 580, 581, 582, 583, 584, 585, 586, 587, 588, 589, 590, 591, 592, 593, 594, 595, 596, 597] (by decide +kernel) (by decide +kernel)) (goodIn_sub (fun _ h => List.mem_append_left _ (List.mem_append_left _ (List.mem_append_left _ (List.mem_append_right _ h)))) (by decide +kernel))
set_option maxRecDepth 20000 in
theorem gL_law_X5_insert : GoodIn wsL_law (wsV RL 80 RX5 yX5_insert wsX5_insert) := goodIn_app (goodIn_of _ (by decide +kernel)) ggL_law_X5_insert
set_option maxRecDepth 20000 in
theorem ggL_law_X5_thrown : GoodIn wsL_law wsX5_thrown := goodIn_r _ [206, 185, 577, 578, 579, 580, 581, 582, 583, 584, 585, 586, 587, 588, 589, 590, 591, 592, 593, 594, 595, 596, 597] (by decide +kernel) (by decide +kernel)
set_option maxRecDepth 20000 in
theorem gL_law_X5_thrown : GoodIn wsL_law (wsV RL 81 RX5 yX5_thrown wsX5_thrown) := goodIn_app (goodIn_of _ (by decide +kernel)) ggL_law_X5_thrown
set_option maxRecDepth 20000 in
theorem ggL_law_L_remove : GoodIn wsL_law wsL_remove := goodIn_ca (goodIn_ca (goodIn_ca (goodIn_ca (goodIn_r _ [209, 96, 97, 98, 210, 211, 212, 2, 213, 16, 103, 104, 105, 106, 107, 108, 113, 114, 115, 116, 117, 118, 119, 120, 121, 122, 123, 124, 32, 214, 215, 216, 217, 20, 33, 129, 130, 131, 132, 28, 133, 27, 134, 135, 60, 136, 19, 137, 138, 46, 47, 139, 140, 141, 142, 218, 219, 220, 49, 221, 222, 223, 224, 225, 226, 227, 176, 177, 228, 229, 230, 231, 36, 232, 233, 15, 234, 235, 152, 153, 154, 155, 42, 40, 156, 157, 158, 159, 41, 236, 237, 238, 239, 240, 241, 242, 566, 567, 568, 569, 570, 571, 572, 573, 574, 575, 576, 598, 599, 600, 601, 602, 603, 604, 609] (by decide +kernel) (by decide +kernel)) (goodIn_sub (fun _ h => List.mem_append_left _ (List.mem_append_left _ (List.mem_append_left _ (List.mem_append_right _ h)))) (by decide +kernel))) (goodIn_sub (fun _ h => List.mem_append_left _ (List.mem_append_left _ (List.mem_append_right _ h))) (by decide +kernel))) (goodIn_sub (fun _ h => List.mem_append_left _ (List.mem_append_right _ h)) (by decide +kernel))) (goodIn_sub (fun _ h => List.mem_append_right _ h) (by decide +kernel))
set_option maxRecDepth 20000 in
theorem gL_law_L_remove : GoodIn wsL_law (va_wsS RL 85 yL_remove wsL_remove) := goodIn_app (goodIn_of _ (by decide +kernel)) ggL_law_L_remove
set_option maxRecDepth 20000 in
theorem ggL_law_X5_remove : GoodIn wsL_law wsX5_remove := goodIn_ca (goodIn_r _ [246, 185, 186, 86, 187, 188, 189, 5, 190, 191, 192, 193, 194, 195, 196, 197, 247, 248, 249, 250, 65, 91, 66, 67, 202, 77, 78, 81, 251, 252, 253, 82, 83, 84, 85, 76, 87, 88, 89, 90, 577, 578, 579, 580, 581, 582, 583, 584, 585, 586, 587, 588, 589, 590, 591, 592, 593, 594, 595, 596, 597] (by decide +kernel) (by decide +kernel)) (goodIn_sub (fun _ h => List.mem_append_left _ (List.mem_append_left _ (List.mem_append_left _ (List.mem_append_right _ h)))) (by decide +kernel))
set_option maxRecDepth 20000 in
theorem gL_law_X5_remove : GoodIn wsL_law (wsV RL 88 RX5 yX5_remove wsX5_remove) := goodIn_app (goodIn_of _ (by decide +kernel)) ggL_law_X5_remove
set_option maxRecDepth 20000 in
theorem ggL_law_X4_length : GoodIn wsL_law wsX4_length := goodIn_r _ [257, 16, 566, 567, 568, 569, 570, 571, 572, 573, 574, 575, 576, 598, 599, 600] (by decide +kernel) (by decide +kernel)
set_option maxRecDepth 20000 in
theorem gL_law_X4_length : GoodIn wsL_law (wsV RL 89 RX4 yX4_length wsX4_length) := goodIn_app (goodIn_of _ (by decide +kernel)) ggL_law_X4_length
set_option maxRecDepth 20000 in
theorem ggL_law_X5_length : GoodIn wsL_law wsX5_length := goodIn_r _ [261, 185, 186, 577, 578, 579, 580, 581, 582, 583, 584, 585, 586, 587, 588, 589, 590, 591, 592, 593, 594, 595, 596, 597] (by decide +kernel) (by decide +kernel)
set_option maxRecDepth 20000 in
theorem gL_law_X5_length : GoodIn wsL_law (wsV RL 92 RX5 yX5_length wsX5_length) := goodIn_app (goodIn_of _ (by decide +kernel)) ggL_law_X5_length
set_option maxRecDepth 20000 in
theorem ggL_law_L_letterAt : GoodIn wsL_law wsL_letterAt := goodIn_ca (goodIn_ca (goodIn_r _ [264, 96, 265, 266, 267, 2, 268, 16, 103, 104, 105, 106, 107, 108, 269, 15, 270, 271, 40, 272, 273, 274, 275, 42, 566, 567, 568, 569, 570, 571, 572, 573, 574, 575, 576, 598, 599, 600] (by decide +kernel) (by decide +kernel)) (goodIn_sub (fun _ h => List.mem_append_left _ (List.mem_append_left _ (List.mem_append_left _ (List.mem_append_right _ h)))) (by decide +kernel))) (goodIn_sub (fun _ h => List.mem_append_left _ (List.mem_append_left _ (List.mem_append_right _ h))) (by decide +kernel))
set_option maxRecDepth 20000 in
theorem gL_law_L_letterAt : GoodIn wsL_law (va_wsS RL 93 yL_letterAt wsL_letterAt) := goodIn_app (goodIn_of _ (by decide +kernel)) ggL_law_L_letterAt
set_option maxRecDepth 20000 in
theorem ggL_law_X5_letterAt : GoodIn wsL_law wsX5_letterAt := goodIn_ca (goodIn_r _ [279, 185, 187, 188, 189, 5, 190, 186, 191, 192, 193, 280, 281, 282, 283, 65, 194, 195, 196, 197, 577, 578, 579, 580, 581, 582, 583, 584, 585, 586, 587, 588, 589, 590, 591, 592, 593, 594, 595, 596, 597] (by decide +kernel) (by decide +kernel)) (goodIn_sub (fun _ h => List.mem_append_left _ (List.mem_append_left _ (List.mem_append_left _ (List.mem_append_right _ h)))) (by decide +kernel))
set_option maxRecDepth 20000 in
theorem gL_law_X5_letterAt : GoodIn wsL_law (wsV RL 96 RX5 yX5_letterAt wsX5_letterAt) := goodIn_app (goodIn_of _ (by decide +kernel)) ggL_law_X5_letterAt
set_option maxRecDepth 20000 in
theorem ggL_law_X4_version : GoodIn wsL_law wsX4_version := goodIn_r _ [287, 32, 566, 567, 568, 569, 570, 571, 572, 573, 574, 575, 576] (by decide +kernel) (by decide +kernel)
set_option maxRecDepth 20000 in
theorem gL_law_X4_version : GoodIn wsL_law (wsV RL 97 RX4 yX4_version wsX4_version) := goodIn_app (goodIn_of _ (by decide +kernel)) ggL_law_X4_version
set_option maxRecDepth 20000 in
theorem ggL_law_X5_version : GoodIn wsL_law wsX5_version := goodIn_r _ [291, 185, 86, 577, 578, 579, 580, 581, 582, 583, 584, 585, 586, 587, 588, 589, 590, 591, 592, 593, 594, 595, 596, 597] (by decide +kernel) (by decide +kernel)
set_option maxRecDepth 20000 in
theorem gL_law_X5_version : GoodIn wsL_law (wsV RL 100 RX5 yX5_version wsX5_version) := goodIn_app (goodIn_of _ (by decide +kernel)) ggL_law_X5_version
set_option maxRecDepth 20000 in
theorem ggL_law_L_comment : GoodIn wsL_law wsL_comment := goodIn_ca (goodIn_ca (goodIn_ca (goodIn_ca (goodIn_r _ [294, 96, 97, 98, 295, 296, 297, 2, 298, 123, 124, 20, 24, 16, 31, 299, 300, 301, 302, 117, 118, 103, 104, 105, 106, 107, 108, 113, 114, 115, 116, 303, 19, 304, 305, 49, 46, 47, 48, 306, 23, 307, 308, 54, 53, 309, 157, 158, 159, 55, 56, 269, 15, 270, 271, 40, 272, 273, 274, 275, 42, 232, 176, 177, 178, 179, 180, 41, 566, 567, 568, 569, 570, 571, 572, 573, 574, 575, 576, 601, 602, 603, 604, 598, 599, 600, 605, 606, 607, 608] (by decide +kernel) (by decide +kernel)) (goodIn_sub (fun _ h => List.mem_append_left _ (List.mem_append_left _ (List.mem_append_left _ (List.mem_append_right _ h)))) (by decide +kernel))) (goodIn_sub (fun _ h => List.mem_append_right _ h) (by decide +kernel))) (goodIn_sub (fun _ h => List.mem_append_left _ (List.mem_append_right _ h)) (by decide +kernel))) (goodIn_sub (fun _ h => List.mem_append_left _ (List.mem_append_left _ (List.mem_append_right _ h))) (by decide +kernel))
set_option maxRecDepth 20000 in
theorem gL_law_L_comment : GoodIn wsL_law (va_wsS RL 101 yL_comment wsL_comment) := goodIn_app (goodIn_of _ (by decide +kernel)) ggL_law_L_comment
set_option maxRecDepth 20000 in
theorem ggL_law_X5_comment : GoodIn wsL_law wsX5_comment := goodIn_ca (goodIn_r _ [313, 185, 91, 66, 67, 68, 70, 73, 72, 65, 74, 75, 187, 188, 189, 5, 190, 186, 191, 192, 193, 194, 195, 196, 197, 280, 281, 282, 283, 82, 83, 84, 85, 76, 86, 87, 88, 89, 90, 577, 578, 579, 580, 581, 582, 583, 584, 585, 586, 587, 588, 589, 590, 591, 592, 593, 594, 595, 596, 597] (by decide +kernel) (by decide +kernel)) (goodIn_sub (fun _ h => List.mem_append_left _ (List.mem_append_left _ (List.mem_append_left _ (List.mem_append_right _ h)))) (by decide +kernel))
set_option maxRecDepth 20000 in
theorem gL_law_X5_comment : GoodIn wsL_law (wsV RL 103 RX5 yX5_comment wsX5_comment) := goodIn_app (goodIn_of _ (by decide +kernel)) ggL_law_X5_comment
set_option maxRecDepth 20000 in
theorem ggL_law_L_answer : GoodIn wsL_law wsL_answer := goodIn_ca (goodIn_ca (goodIn_r _ [316, 96, 317, 318, 319, 2, 320, 31, 30, 321, 322, 323, 324, 107, 108, 20, 232, 176, 177, 566, 567, 568, 569, 570, 571, 572, 573, 574, 575, 576, 601, 602, 603, 604] (by decide +kernel) (by decide +kernel)) (goodIn_sub (fun _ h => List.mem_append_left _ (List.mem_append_left _ (List.mem_append_left _ (List.mem_append_right _ h)))) (by decide +kernel))) (goodIn_sub (fun _ h => List.mem_append_left _ (List.mem_append_left _ (List.mem_append_right _ h))) (by decide +kernel))
set_option maxRecDepth 20000 in
theorem gL_law_L_answer : GoodIn wsL_law (va_wsS RL 104 yL_answer wsL_answer) := goodIn_app (goodIn_of _ (by decide +kernel)) ggL_law_L_answer
set_option maxRecDepth 20000 in
theorem ggL_law_X5_answer : GoodIn wsL_law wsX5_answer := goodIn_ca (goodIn_r _ [328, 185, 70, 71, 329, 330, 331, 5, 332, 91, 191, 192, 193, 194, 195, 196, 197, 577, 578, 579, 580, 581, 582, 583, 584, 585, 586, 587, 588, 589, 590, 591, 592, 593, 594, 595, 596, 597] (by decide +kernel) (by decide +kernel)) (goodIn_sub (fun _ h => List.mem_append_left _ (List.mem_append_left _ (List.mem_append_left _ (List.mem_append_right _ h)))) (by decide +kernel))
set_option maxRecDepth 20000 in
theorem gL_law_X5_answer : GoodIn wsL_law (wsV RL 106 RX5 yX5_answer wsX5_answer) := goodIn_app (goodIn_of _ (by decide +kernel)) ggL_law_X5_answer
set_option maxRecDepth 20000 in
theorem ggL_law_L_resolve : GoodIn wsL_law wsL_resolve := goodIn_ca (goodIn_ca (goodIn_r _ [335, 96, 336, 337, 338, 2, 339, 31, 321, 322, 323, 324, 107, 108, 20, 232, 176, 177, 566, 567, 568, 569, 570, 571, 572, 573, 574, 575, 576, 601, 602, 603, 604] (by decide +kernel) (by decide +kernel)) (goodIn_sub (fun _ h => List.mem_append_left _ (List.mem_append_left _ (List.mem_append_left _ (List.mem_append_right _ h)))) (by decide +kernel))) (goodIn_sub (fun _ h => List.mem_append_left _ (List.mem_append_left _ (List.mem_append_right _ h))) (by decide +kernel))
set_option maxRecDepth 20000 in
theorem gL_law_L_resolve : GoodIn wsL_law (va_wsS RL 107 yL_resolve wsL_resolve) := goodIn_app (goodIn_of _ (by decide +kernel)) ggL_law_L_resolve
set_option maxRecDepth 20000 in
theorem ggL_law_X5_resolve : GoodIn wsL_law wsX5_resolve := goodIn_ca (goodIn_r _ [343, 185, 70, 329, 330, 331, 5, 332, 91, 191, 192, 193, 577, 578, 579, 580, 581, 582, 583, 584, 585, 586, 587, 588, 589, 590, 591, 592, 593, 594, 595, 596, 597] (by decide +kernel) (by decide +kernel)) (goodIn_sub (fun _ h => List.mem_append_left _ (List.mem_append_left _ (List.mem_append_left _ (List.mem_append_right _ h)))) (by decide +kernel))
set_option maxRecDepth 20000 in
theorem gL_law_X5_resolve : GoodIn wsL_law (wsV RL 109 RX5 yX5_resolve wsX5_resolve) := goodIn_app (goodIn_of _ (by decide +kernel)) ggL_law_X5_resolve
set_option maxRecDepth 20000 in
theorem ggL_law_L_find : GoodIn wsL_law wsL_find := goodIn_ca (goodIn_ca (goodIn_ca (goodIn_r _ [346, 96, 98, 347, 348, 349, 2, 350, 123, 124, 20, 24, 16, 321, 322, 323, 324, 107, 108, 140, 19, 141, 142, 46, 351, 23, 352, 353, 54, 354, 355, 356, 357, 53, 358, 359, 360, 361, 55, 56, 269, 15, 270, 271, 40, 272, 273, 274, 275, 42, 362, 363, 364, 365, 366, 367, 47, 232, 176, 177, 178, 179, 180, 41, 566, 567, 568, 569, 570, 571, 572, 573, 574, 575, 576, 601, 602, 603, 604, 598, 599, 600, 605, 606, 607, 608] (by decide +kernel) (by decide +kernel)) (goodIn_sub (fun _ h => List.mem_append_left _ (List.mem_append_left _ (List.mem_append_left _ (List.mem_append_right _ h)))) (by decide +kernel))) (goodIn_sub (fun _ h => List.mem_append_right _ h) (by decide +kernel))) (goodIn_sub (fun _ h => List.mem_append_left _ (List.mem_append_left _ (List.mem_append_right _ h))) (by decide +kernel))
set_option maxRecDepth 20000 in
theorem gL_law_L_find : GoodIn wsL_law (va_wsS RL 110 yL_find wsL_find) := goodIn_app (goodIn_of _ (by decide +kernel)) ggL_law_L_find
set_option maxRecDepth 20000 in
theorem ggL_law_X5_find : GoodIn wsL_law wsX5_find := goodIn_ca (goodIn_r _ [371, 185, 66, 186, 67, 73, 329, 330, 331, 5, 332, 91, 191, 192, 193, 194, 195, 196, 197, 372, 373, 374, 375, 65, 72, 74, 75, 280, 281, 282, 283, 82, 83, 84, 85, 76, 86, 87, 88, 89, 90, 577, 578, 579, 580, 581, 582, 583, 584, 585, 586, 587, 588, 589, 590, 591, 592, 593, 594, 595, 596, 597] (by decide +kernel) (by decide +kernel)) (goodIn_sub (fun _ h => List.mem_append_left _ (List.mem_append_left _ (List.mem_append_left _ (List.mem_append_right _ h)))) (by decide +kernel))
set_option maxRecDepth 20000 in
theorem gL_law_X5_find : GoodIn wsL_law (wsV RL 112 RX5 yX5_find wsX5_find) := goodIn_app (goodIn_of _ (by decide +kernel)) ggL_law_X5_find
set_option maxRecDepth 20000 in
theorem ggL_law_X4_comments : GoodIn wsL_law wsX4_comments := goodIn_r _ [379, 20, 566, 567, 568, 569, 570, 571, 572, 573, 574, 575, 576, 601, 602, 603, 604] (by decide +kernel) (by decide +kernel)
set_option maxRecDepth 20000 in
theorem gL_law_X4_comments : GoodIn wsL_law (wsV RL 113 RX4 yX4_comments wsX4_comments) := goodIn_app (goodIn_of _ (by decide +kernel)) ggL_law_X4_comments
set_option maxRecDepth 20000 in
theorem ggL_law_X5_comments : GoodIn wsL_law wsX5_comments := goodIn_r _ [383, 185, 91, 577, 578, 579, 580, 581, 582, 583, 584, 585, 586, 587, 588, 589, 590, 591, 592, 593, 594, 595, 596, 597] (by decide +kernel) (by decide +kernel)
set_option maxRecDepth 20000 in
theorem gL_law_X5_comments : GoodIn wsL_law (wsV RL 116 RX5 yX5_comments wsX5_comments) := goodIn_app (goodIn_of _ (by decide +kernel)) ggL_law_X5_comments
set_option maxRecDepth 20000 in
theorem ggL_law_L_rangeOf : GoodIn wsL_law wsL_rangeOf := goodIn_ca (goodIn_ca (goodIn_r _ [386, 96, 387, 388, 389, 2, 390, 20, 321, 322, 323, 324, 107, 108, 136, 19, 137, 138, 46, 47, 139, 140, 141, 142, 566, 567, 568, 569, 570, 571, 572, 573, 574, 575, 576, 601, 602, 603, 604] (by decide +kernel) (by decide +kernel)) (goodIn_sub (fun _ h => List.mem_append_left _ (List.mem_append_left _ (List.mem_append_left _ (List.mem_append_right _ h)))) (by decide +kernel))) (goodIn_sub (fun _ h => List.mem_append_left _ (List.mem_append_left _ (List.mem_append_right _ h))) (by decide +kernel))
set_option maxRecDepth 20000 in
theorem gL_law_L_rangeOf : GoodIn wsL_law (va_wsS RL 117 yL_rangeOf wsL_rangeOf) := goodIn_app (goodIn_of _ (by decide +kernel)) ggL_law_L_rangeOf
set_option maxRecDepth 20000 in
theorem ggL_law_X5_rangeOf : GoodIn wsL_law wsX5_rangeOf := goodIn_ca (goodIn_r _ [394, 185, 329, 330, 331, 5, 332, 91, 191, 192, 193, 87, 88, 89, 90, 66, 67, 194, 195, 196, 197, 577, 578, 579, 580, 581, 582, 583, 584, 585, 586, 587, 588, 589, 590, 591, 592, 593, 594, 595, 596, 597] (by decide +kernel) (by decide +kernel)) (goodIn_sub (fun _ h => List.mem_append_left _ (List.mem_append_left _ (List.mem_append_left _ (List.mem_append_right _ h)))) (by decide +kernel))
set_option maxRecDepth 20000 in
theorem gL_law_X5_rangeOf : GoodIn wsL_law (wsV RL 119 RX5 yX5_rangeOf wsX5_rangeOf) := goodIn_app (goodIn_of _ (by decide +kernel)) ggL_law_X5_rangeOf

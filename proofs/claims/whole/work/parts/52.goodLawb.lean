set_option maxRecDepth 20000 in
theorem ggL_law_L_rangeThen : GoodIn wsL_law wsL_rangeThen := goodIn_ca (goodIn_ca (goodIn_r _ [397, 96, 398, 399, 400, 2, 401, 107, 108, 32, 20, 28, 321, 322, 323, 324, 136, 19, 137, 138, 46, 47, 139, 140, 141, 142, 402, 27, 403, 404, 60, 566, 567, 568, 569, 570, 571, 572, 573, 574, 575, 576, 601, 602, 603, 604, 609] (by decide +kernel) (by decide +kernel)) (goodIn_sub (fun _ h => List.mem_append_left _ (List.mem_append_left _ (List.mem_append_left _ (List.mem_append_right _ h)))) (by decide +kernel))) (goodIn_sub (fun _ h => List.mem_append_left _ (List.mem_append_left _ (List.mem_append_right _ h))) (by decide +kernel))
set_option maxRecDepth 20000 in
theorem gL_law_L_rangeThen : GoodIn wsL_law (va_wsS RL 120 yL_rangeThen wsL_rangeThen) := goodIn_app (goodIn_of _ (by decide +kernel)) ggL_law_L_rangeThen
set_option maxRecDepth 20000 in
theorem ggL_law_X5_rangeThen : GoodIn wsL_law wsX5_rangeThen := goodIn_ca (goodIn_r _ [408, 185, 86, 76, 329, 330, 331, 5, 332, 91, 191, 192, 193, 194, 195, 196, 197, 577, 578, 579, 580, 581, 582, 583, 584, 585, 586, 587, 588, 589, 590, 591, 592, 593, 594, 595, 596, 597] (by decide +kernel) (by decide +kernel)) (goodIn_sub (fun _ h => List.mem_append_left _ (List.mem_append_left _ (List.mem_append_left _ (List.mem_append_right _ h)))) (by decide +kernel))
set_option maxRecDepth 20000 in
theorem gL_law_X5_rangeThen : GoodIn wsL_law (wsV RL 122 RX5 yX5_rangeThen wsX5_rangeThen) := goodIn_app (goodIn_of _ (by decide +kernel)) ggL_law_X5_rangeThen
set_option maxRecDepth 20000 in
theorem ggL_law_X4_open : GoodIn wsL_law wsX4_open := goodIn_r _ [412, 31, 566, 567, 568, 569, 570, 571, 572, 573, 574, 575, 576] (by decide +kernel) (by decide +kernel)
set_option maxRecDepth 20000 in
theorem gL_law_X4_open : GoodIn wsL_law (wsV RL 123 RX4 yX4_open wsX4_open) := goodIn_app (goodIn_of _ (by decide +kernel)) ggL_law_X4_open
set_option maxRecDepth 20000 in
theorem ggL_law_X5_open : GoodIn wsL_law wsX5_open := goodIn_ca (goodIn_r _ [416, 185, 91, 70, 577, 578, 579, 580, 581, 582, 583, 584, 585, 586, 587, 588, 589, 590, 591, 592, 593, 594, 595, 596, 597] (by decide +kernel) (by decide +kernel)) (goodIn_sub (fun _ h => List.mem_append_left _ (List.mem_append_left _ (List.mem_append_left _ (List.mem_append_right _ h)))) (by decide +kernel))
set_option maxRecDepth 20000 in
theorem gL_law_X5_open : GoodIn wsL_law (wsV RL 126 RX5 yX5_open wsX5_open) := goodIn_app (goodIn_of _ (by decide +kernel)) ggL_law_X5_open
set_option maxRecDepth 20000 in
theorem ggL_law_X4_orphans : GoodIn wsL_law wsX4_orphans := goodIn_ca (goodIn_r _ [420, 20, 140, 19, 141, 142, 46, 232, 176, 2, 177, 566, 567, 568, 569, 570, 571, 572, 573, 574, 575, 576, 601, 602, 603, 604] (by decide +kernel) (by decide +kernel)) (goodIn_sub (fun _ h => List.mem_append_left _ (List.mem_append_left _ (List.mem_append_left _ (List.mem_append_right _ h)))) (by decide +kernel))
set_option maxRecDepth 20000 in
theorem gL_law_X4_orphans : GoodIn wsL_law (wsV RL 127 RX4 yX4_orphans wsX4_orphans) := goodIn_app (goodIn_of _ (by decide +kernel)) ggL_law_X4_orphans
set_option maxRecDepth 20000 in
theorem ggL_law_X5_orphans : GoodIn wsL_law wsX5_orphans := goodIn_ca (goodIn_r _ [424, 185, 91, 66, 577, 578, 579, 580, 581, 582, 583, 584, 585, 586, 587, 588, 589, 590, 591, 592, 593, 594, 595, 596, 597] (by decide +kernel) (by decide +kernel)) (goodIn_sub (fun _ h => List.mem_append_left _ (List.mem_append_left _ (List.mem_append_left _ (List.mem_append_right _ h)))) (by decide +kernel))
set_option maxRecDepth 20000 in
theorem gL_law_X5_orphans : GoodIn wsL_law (wsV RL 130 RX5 yX5_orphans wsX5_orphans) := goodIn_app (goodIn_of _ (by decide +kernel)) ggL_law_X5_orphans
set_option maxRecDepth 20000 in
theorem ggL_law_L_cover : GoodIn wsL_law wsL_cover := goodIn_ca (goodIn_ca (goodIn_r _ [427, 96, 428, 429, 430, 2, 431, 20, 103, 104, 105, 106, 107, 108, 16, 173, 19, 174, 175, 49, 46, 47, 176, 177, 566, 567, 568, 569, 570, 571, 572, 573, 574, 575, 576, 598, 599, 600, 601, 602, 603, 604] (by decide +kernel) (by decide +kernel)) (goodIn_sub (fun _ h => List.mem_append_left _ (List.mem_append_left _ (List.mem_append_left _ (List.mem_append_right _ h)))) (by decide +kernel))) (goodIn_sub (fun _ h => List.mem_append_left _ (List.mem_append_left _ (List.mem_append_right _ h))) (by decide +kernel))
set_option maxRecDepth 20000 in
theorem gL_law_L_cover : GoodIn wsL_law (va_wsS RL 131 yL_cover wsL_cover) := goodIn_app (goodIn_of _ (by decide +kernel)) ggL_law_L_cover
set_option maxRecDepth 20000 in
theorem ggL_law_X5_cover : GoodIn wsL_law wsX5_cover := goodIn_ca (goodIn_r _ [435, 185, 187, 188, 189, 5, 190, 186, 191, 192, 193, 436, 437, 438, 439, 91, 66, 67, 194, 195, 196, 197, 577, 578, 579, 580, 581, 582, 583, 584, 585, 586, 587, 588, 589, 590, 591, 592, 593, 594, 595, 596, 597] (by decide +kernel) (by decide +kernel)) (goodIn_sub (fun _ h => List.mem_append_left _ (List.mem_append_left _ (List.mem_append_left _ (List.mem_append_right _ h)))) (by decide +kernel))
set_option maxRecDepth 20000 in
theorem gL_law_X5_cover : GoodIn wsL_law (wsV RL 133 RX5 yX5_cover wsX5_cover) := goodIn_app (goodIn_of _ (by decide +kernel)) ggL_law_X5_cover
set_option maxRecDepth 20000 in
theorem ggL_law_L_coverByLetters : GoodIn wsL_law wsL_coverByLetters := goodIn_ca (goodIn_ca (goodIn_r _ [442, 96, 443, 444, 445, 2, 446, 16, 103, 104, 105, 106, 107, 108, 447, 15, 448, 449, 41, 272, 273, 274, 275, 42, 566, 567, 568, 569, 570, 571, 572, 573, 574, 575, 576, 598, 599, 600] (by decide +kernel) (by decide +kernel)) (goodIn_sub (fun _ h => List.mem_append_left _ (List.mem_append_left _ (List.mem_append_left _ (List.mem_append_right _ h)))) (by decide +kernel))) (goodIn_sub (fun _ h => List.mem_append_left _ (List.mem_append_left _ (List.mem_append_right _ h))) (by decide +kernel))
set_option maxRecDepth 20000 in
theorem gL_law_L_coverByLetters : GoodIn wsL_law (va_wsS RL 134 yL_coverByLetters wsL_coverByLetters) := goodIn_app (goodIn_of _ (by decide +kernel)) ggL_law_L_coverByLetters
set_option maxRecDepth 20000 in
theorem ggL_law_X5_coverByLetters : GoodIn wsL_law wsX5_coverByLetters := goodIn_ca (goodIn_r _ [453, 185, 187, 188, 189, 5, 190, 186, 191, 192, 193, 436, 437, 438, 439, 91, 66, 67, 194, 195, 196, 197, 577, 578, 579, 580, 581, 582, 583, 584, 585, 586, 587, 588, 589, 590, 591, 592, 593, 594, 595, 596, 597] (by decide +kernel) (by decide +kernel)) (goodIn_sub (fun _ h => List.mem_append_left _ (List.mem_append_left _ (List.mem_append_left _ (List.mem_append_right _ h)))) (by decide +kernel))
set_option maxRecDepth 20000 in
theorem gL_law_X5_coverByLetters : GoodIn wsL_law (wsV RL 136 RX5 yX5_coverByLetters wsX5_coverByLetters) := goodIn_app (goodIn_of _ (by decide +kernel)) ggL_law_X5_coverByLetters
set_option maxRecDepth 20000 in
theorem ggL_law_X4_pieces : GoodIn wsL_law wsX4_pieces := goodIn_ca (goodIn_r _ [457, 16, 458, 459, 460, 2, 461, 20, 173, 19, 174, 175, 49, 46, 47, 176, 177, 566, 567, 568, 569, 570, 571, 572, 573, 574, 575, 576, 598, 599, 600, 601, 602, 603, 604] (by decide +kernel) (by decide +kernel)) (goodIn_sub (fun _ h => List.mem_append_left _ (List.mem_append_left _ (List.mem_append_left _ (List.mem_append_right _ h)))) (by decide +kernel))
set_option maxRecDepth 20000 in
theorem gL_law_X4_pieces : GoodIn wsL_law (wsV RL 137 RX4 yX4_pieces wsX4_pieces) := goodIn_app (goodIn_of _ (by decide +kernel)) ggL_law_X4_pieces
set_option maxRecDepth 20000 in
theorem ggL_law_X5_pieces : GoodIn wsL_law wsX5_pieces := goodIn_ca (goodIn_r _ [465, 185, 466, 467, 468, 5, 469, 186, 436, 437, 438, 439, 91, 66, 67, 577, 578, 579, 580, 581, 582, 583, 584, 585, 586, 587, 588, 589, 590, 591, 592, 593, 594, 595, 596, 597] (by decide +kernel) (by decide +kernel)) (goodIn_sub (fun _ h => List.mem_append_left _ (List.mem_append_left _ (List.mem_append_left _ (List.mem_append_right _ h)))) (by decide +kernel))
set_option maxRecDepth 20000 in
theorem gL_law_X5_pieces : GoodIn wsL_law (wsV RL 140 RX5 yX5_pieces wsX5_pieces) := goodIn_app (goodIn_of _ (by decide +kernel)) ggL_law_X5_pieces
set_option maxRecDepth 20000 in
theorem ggL_law_L_pieceAt : GoodIn wsL_law wsL_pieceAt := goodIn_ca (goodIn_ca (goodIn_r _ [472, 96, 473, 474, 475, 2, 476, 107, 108, 16, 458, 459, 460, 461, 20, 173, 19, 174, 175, 49, 46, 47, 176, 177, 566, 567, 568, 569, 570, 571, 572, 573, 574, 575, 576, 598, 599, 600, 601, 602, 603, 604] (by decide +kernel) (by decide +kernel)) (goodIn_sub (fun _ h => List.mem_append_left _ (List.mem_append_left _ (List.mem_append_left _ (List.mem_append_right _ h)))) (by decide +kernel))) (goodIn_sub (fun _ h => List.mem_append_left _ (List.mem_append_left _ (List.mem_append_right _ h))) (by decide +kernel))
set_option maxRecDepth 20000 in
theorem gL_law_L_pieceAt : GoodIn wsL_law (va_wsS RL 141 yL_pieceAt wsL_pieceAt) := goodIn_app (goodIn_of _ (by decide +kernel)) ggL_law_L_pieceAt
set_option maxRecDepth 20000 in
theorem ggL_law_X5_pieceAt : GoodIn wsL_law wsX5_pieceAt := goodIn_ca (goodIn_r _ [480, 185, 466, 467, 468, 5, 469, 186, 436, 437, 438, 439, 91, 66, 67, 191, 192, 193, 194, 195, 196, 197, 577, 578, 579, 580, 581, 582, 583, 584, 585, 586, 587, 588, 589, 590, 591, 592, 593, 594, 595, 596, 597] (by decide +kernel) (by decide +kernel)) (goodIn_sub (fun _ h => List.mem_append_left _ (List.mem_append_left _ (List.mem_append_left _ (List.mem_append_right _ h)))) (by decide +kernel))
set_option maxRecDepth 20000 in
theorem gL_law_X5_pieceAt : GoodIn wsL_law (wsV RL 143 RX5 yX5_pieceAt wsX5_pieceAt) := goodIn_app (goodIn_of _ (by decide +kernel)) ggL_law_X5_pieceAt
set_option maxRecDepth 20000 in
theorem ggL_law_L_suggest : GoodIn wsL_law wsL_suggest := goodIn_ca (goodIn_ca (goodIn_ca (goodIn_ca (goodIn_r _ [483, 96, 97, 98, 484, 485, 486, 2, 487, 123, 124, 33, 34, 35, 36, 299, 300, 301, 302, 117, 118, 103, 104, 105, 106, 107, 108, 16, 109, 110, 111, 112, 113, 114, 115, 116, 303, 19, 304, 305, 49, 46, 47, 48, 566, 567, 568, 569, 570, 571, 572, 573, 574, 575, 576, 601, 602, 603, 604, 598, 599, 600] (by decide +kernel) (by decide +kernel)) (goodIn_sub (fun _ h => List.mem_append_left _ (List.mem_append_left _ (List.mem_append_left _ (List.mem_append_right _ h)))) (by decide +kernel))) (goodIn_sub (fun _ h => List.mem_append_right _ h) (by decide +kernel))) (goodIn_sub (fun _ h => List.mem_append_left _ (List.mem_append_right _ h)) (by decide +kernel))) (goodIn_sub (fun _ h => List.mem_append_left _ (List.mem_append_left _ (List.mem_append_right _ h))) (by decide +kernel))
set_option maxRecDepth 20000 in
theorem gL_law_L_suggest : GoodIn wsL_law (va_wsS RL 144 yL_suggest wsL_suggest) := goodIn_app (goodIn_of _ (by decide +kernel)) ggL_law_L_suggest
set_option maxRecDepth 20000 in
theorem ggL_law_X5_suggest : GoodIn wsL_law wsX5_suggest := goodIn_ca (goodIn_r _ [491, 185, 202, 77, 78, 79, 80, 187, 188, 189, 5, 190, 186, 191, 192, 193, 194, 195, 196, 197, 577, 578, 579, 580, 581, 582, 583, 584, 585, 586, 587, 588, 589, 590, 591, 592, 593, 594, 595, 596, 597] (by decide +kernel) (by decide +kernel)) (goodIn_sub (fun _ h => List.mem_append_left _ (List.mem_append_left _ (List.mem_append_left _ (List.mem_append_right _ h)))) (by decide +kernel))
set_option maxRecDepth 20000 in
theorem gL_law_X5_suggest : GoodIn wsL_law (wsV RL 147 RX5 yX5_suggest wsX5_suggest) := goodIn_app (goodIn_of _ (by decide +kernel)) ggL_law_X5_suggest
set_option maxRecDepth 20000 in
theorem ggL_law_L_accept : GoodIn wsL_law wsL_accept := goodIn_ca (goodIn_ca (goodIn_ca (goodIn_r _ [494, 96, 98, 495, 496, 497, 2, 498, 123, 124, 33, 35, 36, 34, 16, 499, 500, 501, 502, 107, 108, 503, 504, 505, 506, 507, 508, 509, 510, 511, 19, 512, 513, 46, 224, 225, 226, 227, 47, 514, 515, 516, 232, 176, 177, 119, 120, 121, 122, 32, 214, 215, 216, 217, 20, 129, 130, 131, 132, 28, 133, 27, 134, 135, 60, 136, 137, 138, 139, 140, 141, 142, 218, 219, 220, 49, 221, 222, 223, 228, 229, 230, 231, 233, 15, 234, 235, 152, 153, 154, 155, 42, 40, 156, 157, 158, 159, 41, 236, 237, 238, 239, 240, 241, 242, 125, 126, 127, 128, 143, 144, 145, 48, 146, 147, 148, 149, 150, 151, 160, 161, 162, 163, 164, 165, 166, 167, 168, 169, 170, 171, 172, 173, 174, 175, 178, 179, 180, 566, 567, 568, 569, 570, 571, 572, 573, 574, 575, 576, 601, 602, 603, 604, 598, 599, 600, 609, 610, 611, 612, 613, 614, 615, 616, 617, 618, 619] (by decide +kernel) (by decide +kernel)) (goodIn_sub (fun _ h => List.mem_append_left _ (List.mem_append_left _ (List.mem_append_left _ (List.mem_append_right _ h)))) (by decide +kernel))) (goodIn_sub (fun _ h => List.mem_append_right _ h) (by decide +kernel))) (goodIn_sub (fun _ h => List.mem_append_left _ (List.mem_append_left _ (List.mem_append_right _ h))) (by decide +kernel))
set_option maxRecDepth 20000 in
theorem gL_law_L_accept : GoodIn wsL_law (va_wsS RL 148 yL_accept wsL_accept) := goodIn_app (goodIn_of _ (by decide +kernel)) ggL_law_L_accept
set_option maxRecDepth 20000 in
theorem ggL_law_X5_accept : GoodIn wsL_law wsX5_accept := goodIn_ca (goodIn_r _ [520, 185, 77, 78, 81, 186, 80, 86, 79, 521, 522, 523, 5, 524, 202, 191, 192, 193, 194, 195, 196, 197, 525, 526, 527, 528, 247, 248, 249, 250, 65, 91, 66, 67, 251, 252, 253, 82, 83, 84, 85, 76, 87, 88, 89, 90, 198, 199, 200, 201, 68, 577, 578, 579, 580, 581, 582, 583, 584, 585, 586, 587, 588, 589, 590, 591, 592, 593, 594, 595, 596, 597] (by decide +kernel) (by decide +kernel)) (goodIn_sub (fun _ h => List.mem_append_left _ (List.mem_append_left _ (List.mem_append_left _ (List.mem_append_right _ h)))) (by decide +kernel))
set_option maxRecDepth 20000 in
theorem gL_law_X5_accept : GoodIn wsL_law (wsV RL 150 RX5 yX5_accept wsX5_accept) := goodIn_app (goodIn_of _ (by decide +kernel)) ggL_law_X5_accept
set_option maxRecDepth 20000 in
theorem ggL_law_L_reject : GoodIn wsL_law wsL_reject := goodIn_ca (goodIn_ca (goodIn_ca (goodIn_r _ [531, 96, 98, 532, 533, 534, 2, 535, 36, 499, 500, 501, 502, 107, 108, 33, 503, 504, 505, 506, 123, 124, 536, 537, 538, 539, 566, 567, 568, 569, 570, 571, 572, 573, 574, 575, 576, 601, 602, 603, 604] (by decide +kernel) (by decide +kernel)) (goodIn_sub (fun _ h => List.mem_append_left _ (List.mem_append_left _ (List.mem_append_left _ (List.mem_append_right _ h)))) (by decide +kernel))) (goodIn_sub (fun _ h => List.mem_append_left _ (List.mem_append_left _ (List.mem_append_right _ h))) (by decide +kernel))) (goodIn_sub (fun _ h => List.mem_append_right _ h) (by decide +kernel))
set_option maxRecDepth 20000 in
theorem gL_law_L_reject : GoodIn wsL_law (va_wsS RL 151 yL_reject wsL_reject) := goodIn_app (goodIn_of _ (by decide +kernel)) ggL_law_L_reject
set_option maxRecDepth 20000 in
theorem ggL_law_X5_reject : GoodIn wsL_law wsX5_reject := goodIn_ca (goodIn_r _ [543, 185, 81, 202, 521, 522, 523, 5, 524, 191, 192, 193, 194, 195, 196, 197, 577, 578, 579, 580, 581, 582, 583, 584, 585, 586, 587, 588, 589, 590, 591, 592, 593, 594, 595, 596, 597] (by decide +kernel) (by decide +kernel)) (goodIn_sub (fun _ h => List.mem_append_left _ (List.mem_append_left _ (List.mem_append_left _ (List.mem_append_right _ h)))) (by decide +kernel))
set_option maxRecDepth 20000 in
theorem gL_law_X5_reject : GoodIn wsL_law (wsV RL 153 RX5 yX5_reject wsX5_reject) := goodIn_app (goodIn_of _ (by decide +kernel)) ggL_law_X5_reject
set_option maxRecDepth 20000 in
theorem ggL_law_L_stateOf : GoodIn wsL_law wsL_stateOf := goodIn_ca (goodIn_ca (goodIn_r _ [546, 96, 547, 548, 549, 2, 550, 36, 499, 500, 501, 502, 107, 108, 33, 566, 567, 568, 569, 570, 571, 572, 573, 574, 575, 576, 601, 602, 603, 604] (by decide +kernel) (by decide +kernel)) (goodIn_sub (fun _ h => List.mem_append_left _ (List.mem_append_left _ (List.mem_append_left _ (List.mem_append_right _ h)))) (by decide +kernel))) (goodIn_sub (fun _ h => List.mem_append_left _ (List.mem_append_left _ (List.mem_append_right _ h))) (by decide +kernel))
set_option maxRecDepth 20000 in
theorem gL_law_L_stateOf : GoodIn wsL_law (va_wsS RL 154 yL_stateOf wsL_stateOf) := goodIn_app (goodIn_of _ (by decide +kernel)) ggL_law_L_stateOf
set_option maxRecDepth 20000 in
theorem ggL_law_X5_stateOf : GoodIn wsL_law wsX5_stateOf := goodIn_ca (goodIn_r _ [554, 185, 81, 521, 522, 523, 5, 524, 202, 191, 192, 193, 194, 195, 196, 197, 577, 578, 579, 580, 581, 582, 583, 584, 585, 586, 587, 588, 589, 590, 591, 592, 593, 594, 595, 596, 597] (by decide +kernel) (by decide +kernel)) (goodIn_sub (fun _ h => List.mem_append_left _ (List.mem_append_left _ (List.mem_append_left _ (List.mem_append_right _ h)))) (by decide +kernel))
set_option maxRecDepth 20000 in
theorem gL_law_X5_stateOf : GoodIn wsL_law (wsV RL 156 RX5 yX5_stateOf wsX5_stateOf) := goodIn_app (goodIn_of _ (by decide +kernel)) ggL_law_X5_stateOf
set_option maxRecDepth 20000 in
theorem ggL_law_L_overlaps : GoodIn wsL_law wsL_overlaps := goodIn_ca (goodIn_ca (goodIn_r _ [557, 96, 558, 559, 560, 2, 561, 499, 500, 501, 502, 107, 108, 33, 507, 508, 509, 510, 36, 511, 19, 512, 513, 46, 224, 225, 226, 227, 47, 514, 515, 516, 232, 176, 177, 566, 567, 568, 569, 570, 571, 572, 573, 574, 575, 576, 601, 602, 603, 604] (by decide +kernel) (by decide +kernel)) (goodIn_sub (fun _ h => List.mem_append_left _ (List.mem_append_left _ (List.mem_append_left _ (List.mem_append_right _ h)))) (by decide +kernel))) (goodIn_sub (fun _ h => List.mem_append_left _ (List.mem_append_left _ (List.mem_append_right _ h))) (by decide +kernel))
set_option maxRecDepth 20000 in
theorem gL_law_L_overlaps : GoodIn wsL_law (va_wsS RL 157 yL_overlaps wsL_overlaps) := goodIn_app (goodIn_of _ (by decide +kernel)) ggL_law_L_overlaps
set_option maxRecDepth 20000 in
theorem ggL_law_X5_overlaps : GoodIn wsL_law wsX5_overlaps := goodIn_ca (goodIn_r _ [565, 185, 521, 522, 523, 5, 524, 202, 191, 192, 193, 525, 526, 527, 528, 81, 77, 78, 194, 195, 196, 197, 577, 578, 579, 580, 581, 582, 583, 584, 585, 586, 587, 588, 589, 590, 591, 592, 593, 594, 595, 596, 597] (by decide +kernel) (by decide +kernel)) (goodIn_sub (fun _ h => List.mem_append_left _ (List.mem_append_left _ (List.mem_append_left _ (List.mem_append_right _ h)))) (by decide +kernel))
set_option maxRecDepth 20000 in
theorem gL_law_X5_overlaps : GoodIn wsL_law (wsV RL 159 RX5 yX5_overlaps wsX5_overlaps) := goodIn_app (goodIn_of _ (by decide +kernel)) ggL_law_X5_overlaps

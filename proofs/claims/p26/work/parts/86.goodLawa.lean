theorem goodIn_cc {big : List Cond} {c : Cond} {l : List Cond} (hc : GoodIn big [c]) (hl : GoodIn big l) : GoodIn big (c :: l) := fun w h => (List.mem_cons.mp h).elim (fun e => hc w (e ▸ List.mem_cons_self)) (hl w)
set_option maxRecDepth 20000 in
theorem ggL_law_X4_init : GoodIn wsL_law wsX4_init := goodIn_r _ [6, 7, 8, 9, 10, 11, 12, 13, 14, 15, 16, 17, 18, 19, 20, 21, 22, 23, 24, 25, 3, 26, 27, 28, 29, 30, 31, 32, 33, 34, 35, 36, 37, 38, 39, 40, 41, 42, 43, 44, 45, 46, 47, 48, 49, 50, 51, 52, 53, 54, 55, 56, 379, 380, 381, 368, 369, 370, 371, 372, 373, 374, 375, 376, 377, 378, 382, 383, 384, 385, 386, 387, 388, 389, 390] (by decide +kernel) (by decide +kernel)
set_option maxRecDepth 20000 in
theorem gL_law_X4_init : GoodIn wsL_law (wsX4_init) := ggL_law_X4_init
set_option maxRecDepth 20000 in
theorem ggL_law_L_cell : GoodIn wsL_law wsL_cell := goodIn_r _ [60, 61, 62] (by decide +kernel) (by decide +kernel)
set_option maxRecDepth 20000 in
theorem gL_law_L_cell : GoodIn wsL_law (va_wsS RL 125 yL_cell wsL_cell) := goodIn_app (goodIn_of _ (by decide +kernel)) ggL_law_L_cell
set_option maxRecDepth 20000 in
theorem ggL_law_L_low : GoodIn wsL_law wsL_low := goodIn_r _ [65, 66] (by decide +kernel) (by decide +kernel)
set_option maxRecDepth 20000 in
theorem gL_law_L_low : GoodIn wsL_law (va_wsS RL 66 yL_low wsL_low) := goodIn_app (goodIn_of _ (by decide +kernel)) ggL_law_L_low
set_option maxRecDepth 20000 in
theorem ggL_law_L_inserts : GoodIn wsL_law wsL_inserts := goodIn_r _ [69, 70, 71, 59, 72, 73, 74, 75, 76, 77, 78, 79, 80, 81] (by decide +kernel) (by decide +kernel)
set_option maxRecDepth 20000 in
theorem gL_law_L_inserts : GoodIn wsL_law (va_wsS RL 120 yL_inserts wsL_inserts) := goodIn_app (goodIn_of _ (by decide +kernel)) ggL_law_L_inserts
theorem gr_calls_c : GoodIn wsL_law [.codeWith yL_calls cL_calls 6 (some .int) [(0, 46, 47, 26)]] := goodIn_r _ [84] (by decide +kernel) (by decide +kernel)
theorem gr_calls_r1 : GoodIn wsL_law wsL_calls_r1 := goodIn_r _ [85, 86, 87, 88, 2, 89, 13, 90, 91, 92, 93, 94, 95, 96, 97, 98, 99, 100, 101, 102, 103, 104, 105, 106] (by decide +kernel) (by decide +kernel)
theorem gr_calls_r2 : GoodIn wsL_law wsL_calls_r2 := goodIn_r _ [107, 108, 109, 110, 111, 28, 112, 113, 114, 115, 17, 29, 116, 117, 118, 119, 25, 120, 24, 121, 122, 56, 123, 16] (by decide +kernel) (by decide +kernel)
theorem gr_calls_r3 : GoodIn wsL_law wsL_calls_r3 := goodIn_r _ [124, 125, 42, 43, 126, 127, 128, 129, 130, 131, 132, 45, 44, 133, 134, 135, 136, 12, 137, 138, 36, 37, 139, 140] (by decide +kernel) (by decide +kernel)
theorem gr_calls_r4 : GoodIn wsL_law wsL_calls_r4 := goodIn_r _ [141, 142, 38, 143, 144, 145, 146, 147, 148, 149, 150, 151, 152, 153, 154, 155, 156, 157, 158, 159, 160, 161, 162, 163] (by decide +kernel) (by decide +kernel)
theorem gr_calls_r5 : GoodIn wsL_law wsL_calls_r5 := goodIn_r _ [164, 165, 21, 166, 167, 168, 169, 170, 20, 171, 172, 50, 173, 174, 175, 176, 49, 177, 178, 179, 180, 51, 52, 181] (by decide +kernel) (by decide +kernel)
theorem gr_calls_r6 : GoodIn wsL_law wsL_calls_r6 := goodIn_r _ [182, 183, 184, 185, 186, 187, 188, 189, 190, 191, 192, 193, 194, 195, 196, 197, 198, 31, 32, 30, 199, 200, 201, 202] (by decide +kernel) (by decide +kernel)
theorem gr_calls_r7 : GoodIn wsL_law wsL_calls_r7 := goodIn_r _ [203, 204, 205, 206, 207, 208, 209, 210, 211, 212, 213, 214, 215, 216, 217, 218, 219, 220, 221, 222, 223, 224, 225, 226] (by decide +kernel) (by decide +kernel)
theorem gr_calls_r8 : GoodIn wsL_law wsL_calls_r8 := goodIn_r _ [227, 228, 229, 230, 231, 232, 233, 234, 235, 236, 237, 238, 239, 240, 241, 242, 243, 244, 245, 246, 247, 248, 249, 250] (by decide +kernel) (by decide +kernel)
theorem gr_calls_r9 : GoodIn wsL_law wsL_calls_r9 := goodIn_r _ [251, 252] (by decide +kernel) (by decide +kernel)
theorem gr_calls_X4 : GoodIn wsL_law wsX40 := goodIn_r _ [368, 369, 370, 371, 372, 373, 374, 375, 376, 377, 378] (by decide +kernel) (by decide +kernel)
theorem gr_calls_X3 : GoodIn wsL_law wsX30 := goodIn_r _ [379, 380, 381] (by decide +kernel) (by decide +kernel)
theorem gr_calls_X2 : GoodIn wsL_law wsX20 := goodIn_r _ [382, 383, 384, 385] (by decide +kernel) (by decide +kernel)
theorem gr_calls_X0 : GoodIn wsL_law wsX00 := goodIn_r _ [390] (by decide +kernel) (by decide +kernel)
theorem gr_calls_X1 : GoodIn wsL_law wsX10 := goodIn_r _ [386, 387, 388, 389] (by decide +kernel) (by decide +kernel)
theorem ggL_law_L_calls : GoodIn wsL_law wsL_calls := goodIn_ca (goodIn_ca (goodIn_ca (goodIn_ca (goodIn_ca (goodIn_ca (goodIn_ca (goodIn_ca (goodIn_cc gr_calls_c (goodIn_app gr_calls_r1 (goodIn_app gr_calls_r2 (goodIn_app gr_calls_r3 (goodIn_app gr_calls_r4 (goodIn_app gr_calls_r5 (goodIn_app gr_calls_r6 (goodIn_app gr_calls_r7 (goodIn_app gr_calls_r8 (gr_calls_r9)))))))))) gr_calls_X4) gr_calls_X3) gr_calls_X2) gr_calls_X0) gr_calls_X1) (goodIn_sub (fun _ h => List.mem_append_left _ (List.mem_append_left _ (List.mem_append_right _ h))) (by decide +kernel))) (goodIn_sub (fun _ h => List.mem_append_left _ (List.mem_append_right _ h)) (by decide +kernel))) (goodIn_sub (fun _ h => List.mem_append_right _ h) (by decide +kernel))
set_option maxRecDepth 20000 in
theorem gL_law_L_calls : GoodIn wsL_law (va_wsS RL 104 yL_calls wsL_calls) := goodIn_app (goodIn_of _ (by decide +kernel)) ggL_law_L_calls

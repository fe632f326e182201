theorem dL_cell_0 : decode cL_cell 0 = .ok (.iload_n 1, 1) := by decide +kernel
theorem dL_cell_1 : decode cL_cell 1 = .ok (.aload_n 0, 1) := by decide +kernel
theorem dL_cell_2 : decode cL_cell 2 = .ok (.arraylength, 1) := by decide +kernel
theorem dL_cell_3 : decode cL_cell 3 = .ok (.if_icmp .ge 9, 3) := by decide +kernel
theorem dL_cell_6 : decode cL_cell 6 = .ok (.aload_n 0, 1) := by decide +kernel
theorem dL_cell_7 : decode cL_cell 7 = .ok (.iload_n 1, 1) := by decide +kernel
theorem dL_cell_8 : decode cL_cell 8 = .ok (.iaload, 1) := by decide +kernel
theorem dL_cell_9 : decode cL_cell 9 = .ok (.goto 13, 3) := by decide +kernel
theorem dL_cell_12 : decode cL_cell 12 = .ok (.ldc 7, 2) := by decide +kernel
theorem dL_cell_14 : decode cL_cell 14 = .ok (.iload_n 1, 1) := by decide +kernel
theorem dL_cell_15 : decode cL_cell 15 = .ok (.bipush 39, 2) := by decide +kernel
theorem dL_cell_17 : decode cL_cell 17 = .ok (.iadd, 1) := by decide +kernel
theorem dL_cell_18 : decode cL_cell 18 = .ok (.imul, 1) := by decide +kernel
theorem dL_cell_19 : decode cL_cell 19 = .ok (.ldc 8, 2) := by decide +kernel
theorem dL_cell_21 : decode cL_cell 21 = .ok (.iadd, 1) := by decide +kernel
theorem dL_cell_22 : decode cL_cell 22 = .ok (.ireturn, 1) := by decide +kernel
theorem dL_low_0 : decode cL_low 0 = .ok (.iload_n 0, 1) := by decide +kernel
theorem dL_low_1 : decode cL_low 1 = .ok (.ldc 9, 2) := by decide +kernel
theorem dL_low_3 : decode cL_low 3 = .ok (.iand, 1) := by decide +kernel
theorem dL_low_4 : decode cL_low 4 = .ok (.iload_n 1, 1) := by decide +kernel
theorem dL_low_5 : decode cL_low 5 = .ok (.irem, 1) := by decide +kernel
theorem dL_low_6 : decode cL_low 6 = .ok (.ireturn, 1) := by decide +kernel
set_option maxRecDepth 20000 in
theorem ggL_calls_X4_insert : GoodIn wsL_calls wsX4_insert := goodIn_ca (goodIn_ca (goodIn_ca (goodIn_r _ [6, 7, 8, 9, 10, 5, 11, 12, 13, 14, 15, 16, 17, 18, 19, 20, 21, 22, 23, 24, 25, 26, 27, 28, 29, 30, 31, 32, 33, 34, 35, 36, 37, 38, 39, 40, 41, 42, 43, 44, 45, 46, 47, 48, 49, 50, 51, 52, 53, 54, 55, 56, 57, 58, 59, 60, 61, 62, 63, 64, 65, 66, 67, 68, 69, 70, 71, 72, 73, 74, 75, 76, 77, 78, 79, 80, 81, 82, 83, 84, 85, 86, 87, 88, 89, 90, 91, 92, 93, 94, 195, 196, 197, 198, 199, 200, 201, 202, 203, 204, 205, 206, 207, 208, 209, 210, 211, 212, 213] (by decide +kernel) (by decide +kernel)) (goodIn_sub (fun _ h => List.mem_cons_of_mem _ (List.mem_append_left _ (List.mem_append_left _ (List.mem_append_right _ h)))) (by decide +kernel))) (goodIn_sub (fun _ h => List.mem_cons_of_mem _ (List.mem_append_left _ (List.mem_append_right _ h))) (by decide +kernel))) (goodIn_sub (fun _ h => List.mem_cons_of_mem _ (List.mem_append_right _ h)) (by decide +kernel))
set_option maxRecDepth 20000 in
theorem gL_calls_X4_insert : GoodIn wsL_calls (wsV RL 10 RX4 yX4_insert wsX4_insert) := goodIn_app (goodIn_of _ (by decide +kernel)) ggL_calls_X4_insert
set_option maxRecDepth 20000 in
theorem ggL_calls_X4_find : GoodIn wsL_calls wsX4_find := goodIn_ca (goodIn_ca (goodIn_r _ [98, 28, 29, 35, 99, 7, 100, 101, 102, 5, 103, 12, 13, 54, 48, 55, 56, 51, 104, 105, 106, 107, 108, 109, 110, 111, 112, 113, 114, 115, 116, 117, 118, 119, 120, 66, 121, 122, 69, 123, 124, 125, 126, 75, 127, 128, 129, 130, 131, 132, 52, 133, 90, 91, 92, 93, 94, 70, 195, 196, 197, 198, 199, 200, 201, 202, 203, 204, 205, 209, 210, 211, 212, 206, 207, 208, 214, 215, 216, 217] (by decide +kernel) (by decide +kernel)) (goodIn_sub (fun _ h => List.mem_cons_of_mem _ (List.mem_append_right _ h)) (by decide +kernel))) (goodIn_sub (fun _ h => List.mem_cons_of_mem _ (List.mem_append_left _ (List.mem_append_left _ (List.mem_append_right _ h)))) (by decide +kernel))
set_option maxRecDepth 20000 in
theorem gL_calls_X4_find : GoodIn wsL_calls (wsV RL 16 RX4 yX4_find wsX4_find) := goodIn_app (goodIn_of _ (by decide +kernel)) ggL_calls_X4_find
set_option maxRecDepth 20000 in
theorem ggL_calls_X4_accept : GoodIn wsL_calls wsX4_accept := goodIn_ca (goodIn_ca (goodIn_r _ [137, 28, 29, 36, 138, 139, 140, 7, 141, 142, 143, 5, 144, 12, 13, 145, 146, 147, 148, 149, 150, 151, 152, 153, 48, 154, 155, 51, 156, 157, 158, 159, 52, 160, 161, 162, 133, 90, 91, 24, 25, 26, 27, 30, 163, 164, 165, 166, 35, 37, 38, 39, 40, 41, 42, 43, 44, 45, 46, 47, 49, 50, 53, 54, 55, 56, 167, 168, 169, 60, 170, 171, 172, 173, 174, 175, 176, 177, 66, 178, 179, 71, 72, 73, 74, 75, 69, 76, 77, 78, 79, 70, 180, 181, 182, 183, 184, 185, 186, 31, 32, 33, 34, 57, 58, 59, 61, 62, 63, 64, 65, 67, 68, 80, 81, 82, 83, 84, 85, 86, 87, 88, 89, 92, 93, 94, 195, 196, 197, 198, 199, 200, 201, 202, 203, 204, 205, 209, 210, 211, 212, 206, 207, 208, 213] (by decide +kernel) (by decide +kernel)) (goodIn_sub (fun _ h => List.mem_cons_of_mem _ (List.mem_append_right _ h)) (by decide +kernel))) (goodIn_sub (fun _ h => List.mem_cons_of_mem _ (List.mem_append_left _ (List.mem_append_left _ (List.mem_append_right _ h)))) (by decide +kernel))
set_option maxRecDepth 20000 in
theorem gL_calls_X4_accept : GoodIn wsL_calls (wsV RL 20 RX4 yX4_accept wsX4_accept) := goodIn_app (goodIn_of _ (by decide +kernel)) ggL_calls_X4_accept
set_option maxRecDepth 20000 in
theorem ggL_calls_X4_reject : GoodIn wsL_calls wsX4_reject := goodIn_ca (goodIn_ca (goodIn_r _ [190, 139, 141, 142, 143, 5, 144, 12, 13, 36, 145, 146, 147, 148, 28, 29, 191, 192, 193, 194, 195, 196, 197, 198, 199, 200, 201, 202, 203, 204, 205, 209, 210, 211, 212] (by decide +kernel) (by decide +kernel)) (goodIn_sub (fun _ h => List.mem_cons_of_mem _ (List.mem_append_left _ (List.mem_append_left _ (List.mem_append_right _ h)))) (by decide +kernel))) (goodIn_sub (fun _ h => List.mem_cons_of_mem _ (List.mem_append_right _ h)) (by decide +kernel))
set_option maxRecDepth 20000 in
theorem gL_calls_X4_reject : GoodIn wsL_calls (wsV RL 23 RX4 yX4_reject wsX4_reject) := goodIn_app (goodIn_of _ (by decide +kernel)) ggL_calls_X4_reject
theorem dL_calls_0 : decode cL_calls 0 = .ok (.iload_n 1, 1) := by decide +kernel
theorem dL_calls_1 : decode cL_calls 1 = .ok (.ifCond .ne 14, 3) := by decide +kernel
theorem dL_calls_4 : decode cL_calls 4 = .ok (.aload_n 0, 1) := by decide +kernel
theorem dL_calls_5 : decode cL_calls 5 = .ok (.iload_n 2, 1) := by decide +kernel
theorem dL_calls_6 : decode cL_calls 6 = .ok (.iload_n 3, 1) := by decide +kernel
theorem dL_calls_7 : decode cL_calls 7 = .ok (.iload 4, 2) := by decide +kernel
theorem dL_calls_9 : decode cL_calls 9 = .ok (.invokevirtual 10, 3) := by decide +kernel
theorem dL_calls_12 : decode cL_calls 12 = .ok (.goto 34, 3) := by decide +kernel
theorem dL_calls_15 : decode cL_calls 15 = .ok (.iload_n 1, 1) := by decide +kernel
theorem dL_calls_16 : decode cL_calls 16 = .ok (.iconst 1, 1) := by decide +kernel
theorem dL_calls_17 : decode cL_calls 17 = .ok (.if_icmp .ne 11, 3) := by decide +kernel
theorem dL_calls_20 : decode cL_calls 20 = .ok (.aload_n 0, 1) := by decide +kernel
theorem dL_calls_21 : decode cL_calls 21 = .ok (.iload_n 2, 1) := by decide +kernel
theorem dL_calls_22 : decode cL_calls 22 = .ok (.invokevirtual 16, 3) := by decide +kernel
theorem dL_calls_25 : decode cL_calls 25 = .ok (.goto 21, 3) := by decide +kernel
theorem dL_calls_28 : decode cL_calls 28 = .ok (.iload_n 1, 1) := by decide +kernel
theorem dL_calls_29 : decode cL_calls 29 = .ok (.iconst 2, 1) := by decide +kernel
theorem dL_calls_30 : decode cL_calls 30 = .ok (.if_icmp .ne 11, 3) := by decide +kernel
theorem dL_calls_33 : decode cL_calls 33 = .ok (.aload_n 0, 1) := by decide +kernel
theorem dL_calls_34 : decode cL_calls 34 = .ok (.iload_n 2, 1) := by decide +kernel
theorem dL_calls_35 : decode cL_calls 35 = .ok (.invokevirtual 20, 3) := by decide +kernel
theorem dL_calls_38 : decode cL_calls 38 = .ok (.goto 8, 3) := by decide +kernel
theorem dL_calls_41 : decode cL_calls 41 = .ok (.aload_n 0, 1) := by decide +kernel
theorem dL_calls_42 : decode cL_calls 42 = .ok (.iload_n 2, 1) := by decide +kernel
theorem dL_calls_43 : decode cL_calls 43 = .ok (.invokevirtual 23, 3) := by decide +kernel
theorem dL_calls_46 : decode cL_calls 46 = .ok (.ireturn, 1) := by decide +kernel
theorem dL_calls_47 : decode cL_calls 47 = .ok (.astore 5, 2) := by decide +kernel
theorem dL_calls_49 : decode cL_calls 49 = .ok (.bipush (-3), 2) := by decide +kernel
theorem dL_calls_51 : decode cL_calls 51 = .ok (.ireturn, 1) := by decide +kernel
theorem dL_first_0 : decode cL_first 0 = .ok (.iconst 0, 1) := by decide +kernel
theorem dL_first_1 : decode cL_first 1 = .ok (.istore_n 3, 1) := by decide +kernel
theorem dL_first_2 : decode cL_first 2 = .ok (.iload_n 3, 1) := by decide +kernel
theorem dL_first_3 : decode cL_first 3 = .ok (.aload_n 2, 1) := by decide +kernel
theorem dL_first_4 : decode cL_first 4 = .ok (.iconst 0, 1) := by decide +kernel
theorem dL_first_5 : decode cL_first 5 = .ok (.iaload, 1) := by decide +kernel
theorem dL_first_6 : decode cL_first 6 = .ok (.if_icmp .ge 19, 3) := by decide +kernel
theorem dL_first_9 : decode cL_first 9 = .ok (.aload_n 1, 1) := by decide +kernel
theorem dL_first_10 : decode cL_first 10 = .ok (.iload_n 3, 1) := by decide +kernel
theorem dL_first_11 : decode cL_first 11 = .ok (.iaload, 1) := by decide +kernel
theorem dL_first_12 : decode cL_first 12 = .ok (.iload_n 0, 1) := by decide +kernel
theorem dL_first_13 : decode cL_first 13 = .ok (.ishr, 1) := by decide +kernel
theorem dL_first_14 : decode cL_first 14 = .ok (.iconst 1, 1) := by decide +kernel
theorem dL_first_15 : decode cL_first 15 = .ok (.iand, 1) := by decide +kernel
theorem dL_first_16 : decode cL_first 16 = .ok (.ifCond .ne 9, 3) := by decide +kernel
theorem dL_first_19 : decode cL_first 19 = .ok (.iinc 3 1, 3) := by decide +kernel
theorem dL_first_22 : decode cL_first 22 = .ok (.goto (-20), 3) := by decide +kernel
theorem dL_first_25 : decode cL_first 25 = .ok (.iload_n 3, 1) := by decide +kernel
theorem dL_first_26 : decode cL_first 26 = .ok (.ireturn, 1) := by decide +kernel
theorem dL_behind_0 : decode cL_behind 0 = .ok (.aload_n 2, 1) := by decide +kernel
theorem dL_behind_1 : decode cL_behind 1 = .ok (.iconst 0, 1) := by decide +kernel
theorem dL_behind_2 : decode cL_behind 2 = .ok (.iaload, 1) := by decide +kernel
theorem dL_behind_3 : decode cL_behind 3 = .ok (.istore_n 3, 1) := by decide +kernel
theorem dL_behind_4 : decode cL_behind 4 = .ok (.iload_n 3, 1) := by decide +kernel
theorem dL_behind_5 : decode cL_behind 5 = .ok (.ifCond .le 21, 3) := by decide +kernel
theorem dL_behind_8 : decode cL_behind 8 = .ok (.aload_n 1, 1) := by decide +kernel
theorem dL_behind_9 : decode cL_behind 9 = .ok (.iload_n 3, 1) := by decide +kernel
theorem dL_behind_10 : decode cL_behind 10 = .ok (.iconst 1, 1) := by decide +kernel
theorem dL_behind_11 : decode cL_behind 11 = .ok (.isub, 1) := by decide +kernel
theorem dL_behind_12 : decode cL_behind 12 = .ok (.iaload, 1) := by decide +kernel
theorem dL_behind_13 : decode cL_behind 13 = .ok (.iload_n 0, 1) := by decide +kernel
theorem dL_behind_14 : decode cL_behind 14 = .ok (.ishr, 1) := by decide +kernel
theorem dL_behind_15 : decode cL_behind 15 = .ok (.iconst 1, 1) := by decide +kernel
theorem dL_behind_16 : decode cL_behind 16 = .ok (.iand, 1) := by decide +kernel
theorem dL_behind_17 : decode cL_behind 17 = .ok (.ifCond .ne 9, 3) := by decide +kernel
theorem dL_behind_20 : decode cL_behind 20 = .ok (.iinc 3 (-1), 3) := by decide +kernel
theorem dL_behind_23 : decode cL_behind 23 = .ok (.goto (-19), 3) := by decide +kernel
theorem dL_behind_26 : decode cL_behind 26 = .ok (.iload_n 3, 1) := by decide +kernel
theorem dL_behind_27 : decode cL_behind 27 = .ok (.ireturn, 1) := by decide +kernel
set_option maxRecDepth 20000 in
theorem ggL_range_L_behind : GoodIn wsL_range wsL_behind := goodIn_r _ [4] (by decide +kernel) (by decide +kernel)
set_option maxRecDepth 20000 in
theorem gL_range_L_behind : GoodIn wsL_range (va_wsS RL 28 yL_behind wsL_behind) := goodIn_app (goodIn_of _ (by decide +kernel)) ggL_range_L_behind
set_option maxRecDepth 20000 in
theorem ggL_range_L_first : GoodIn wsL_range wsL_first := goodIn_r _ [7] (by decide +kernel) (by decide +kernel)
set_option maxRecDepth 20000 in
theorem gL_range_L_first : GoodIn wsL_range (va_wsS RL 34 yL_first wsL_first) := goodIn_app (goodIn_of _ (by decide +kernel)) ggL_range_L_first
theorem dL_range_0 : decode cL_range 0 = .ok (.iload_n 0, 1) := by decide +kernel
theorem dL_range_1 : decode cL_range 1 = .ok (.aload_n 1, 1) := by decide +kernel
theorem dL_range_2 : decode cL_range 2 = .ok (.aload_n 2, 1) := by decide +kernel
theorem dL_range_3 : decode cL_range 3 = .ok (.invokestatic 28, 3) := by decide +kernel
theorem dL_range_6 : decode cL_range 6 = .ok (.istore_n 3, 1) := by decide +kernel
theorem dL_range_7 : decode cL_range 7 = .ok (.iload_n 3, 1) := by decide +kernel
theorem dL_range_8 : decode cL_range 8 = .ok (.ifCond .ne 7, 3) := by decide +kernel
theorem dL_range_11 : decode cL_range 11 = .ok (.iconst (-1), 1) := by decide +kernel
theorem dL_range_12 : decode cL_range 12 = .ok (.goto 14, 3) := by decide +kernel
theorem dL_range_15 : decode cL_range 15 = .ok (.bipush 100, 2) := by decide +kernel
theorem dL_range_17 : decode cL_range 17 = .ok (.iload_n 0, 1) := by decide +kernel
theorem dL_range_18 : decode cL_range 18 = .ok (.aload_n 1, 1) := by decide +kernel
theorem dL_range_19 : decode cL_range 19 = .ok (.aload_n 2, 1) := by decide +kernel
theorem dL_range_20 : decode cL_range 20 = .ok (.invokestatic 34, 3) := by decide +kernel
theorem dL_range_23 : decode cL_range 23 = .ok (.imul, 1) := by decide +kernel
theorem dL_range_24 : decode cL_range 24 = .ok (.iload_n 3, 1) := by decide +kernel
theorem dL_range_25 : decode cL_range 25 = .ok (.iadd, 1) := by decide +kernel
theorem dL_range_26 : decode cL_range 26 = .ok (.ireturn, 1) := by decide +kernel
set_option maxRecDepth 20000 in
theorem ggL_keeps_L_range : GoodIn wsL_keeps wsL_range := goodIn_r _ [4, 5, 6, 3, 7, 8, 9, 10] (by decide +kernel) (by decide +kernel)
set_option maxRecDepth 20000 in
theorem gL_keeps_L_range : GoodIn wsL_keeps (va_wsS RL 37 yL_range wsL_range) := goodIn_app (goodIn_of _ (by decide +kernel)) ggL_keeps_L_range
theorem dL_keeps_0 : decode cL_keeps 0 = .ok (.iconst 0, 1) := by decide +kernel
theorem dL_keeps_1 : decode cL_keeps 1 = .ok (.istore_n 3, 1) := by decide +kernel
theorem dL_keeps_2 : decode cL_keeps 2 = .ok (.iload_n 3, 1) := by decide +kernel
theorem dL_keeps_3 : decode cL_keeps 3 = .ok (.bipush 8, 2) := by decide +kernel
theorem dL_keeps_5 : decode cL_keeps 5 = .ok (.if_icmp .ge 39, 3) := by decide +kernel
theorem dL_keeps_8 : decode cL_keeps 8 = .ok (.aload_n 1, 1) := by decide +kernel
theorem dL_keeps_9 : decode cL_keeps 9 = .ok (.bipush 8, 2) := by decide +kernel
theorem dL_keeps_11 : decode cL_keeps 11 = .ok (.aload_n 2, 1) := by decide +kernel
theorem dL_keeps_12 : decode cL_keeps 12 = .ok (.iconst 1, 1) := by decide +kernel
theorem dL_keeps_13 : decode cL_keeps 13 = .ok (.iaload, 1) := by decide +kernel
theorem dL_keeps_14 : decode cL_keeps 14 = .ok (.bipush 8, 2) := by decide +kernel
theorem dL_keeps_16 : decode cL_keeps 16 = .ok (.irem, 1) := by decide +kernel
theorem dL_keeps_17 : decode cL_keeps 17 = .ok (.imul, 1) := by decide +kernel
theorem dL_keeps_18 : decode cL_keeps 18 = .ok (.iload_n 3, 1) := by decide +kernel
theorem dL_keeps_19 : decode cL_keeps 19 = .ok (.iadd, 1) := by decide +kernel
theorem dL_keeps_20 : decode cL_keeps 20 = .ok (.iload_n 3, 1) := by decide +kernel
theorem dL_keeps_21 : decode cL_keeps 21 = .ok (.aload_n 2, 1) := by decide +kernel
theorem dL_keeps_22 : decode cL_keeps 22 = .ok (.iconst 2, 1) := by decide +kernel
theorem dL_keeps_23 : decode cL_keeps 23 = .ok (.iaload, 1) := by decide +kernel
theorem dL_keeps_24 : decode cL_keeps 24 = .ok (.if_icmp .ge 12, 3) := by decide +kernel
theorem dL_keeps_27 : decode cL_keeps 27 = .ok (.iload_n 3, 1) := by decide +kernel
theorem dL_keeps_28 : decode cL_keeps 28 = .ok (.aload_n 0, 1) := by decide +kernel
theorem dL_keeps_29 : decode cL_keeps 29 = .ok (.aload_n 2, 1) := by decide +kernel
theorem dL_keeps_30 : decode cL_keeps 30 = .ok (.invokestatic 37, 3) := by decide +kernel
theorem dL_keeps_33 : decode cL_keeps 33 = .ok (.goto 4, 3) := by decide +kernel
theorem dL_keeps_36 : decode cL_keeps 36 = .ok (.iconst (-1), 1) := by decide +kernel
theorem dL_keeps_37 : decode cL_keeps 37 = .ok (.iastore, 1) := by decide +kernel
theorem dL_keeps_38 : decode cL_keeps 38 = .ok (.iinc 3 1, 3) := by decide +kernel
theorem dL_keeps_41 : decode cL_keeps 41 = .ok (.goto (-39), 3) := by decide +kernel
theorem dL_keeps_44 : decode cL_keeps 44 = .ok (.return_, 1) := by decide +kernel
set_option maxRecDepth 20000 in
theorem ggL_inserts_L_range : GoodIn wsL_inserts wsL_range := goodIn_r _ [4, 5, 6, 3, 7, 8, 9, 10] (by decide +kernel) (by decide +kernel)
set_option maxRecDepth 20000 in
theorem gL_inserts_L_range : GoodIn wsL_inserts (va_wsS RL 37 yL_range wsL_range) := goodIn_app (goodIn_of _ (by decide +kernel)) ggL_inserts_L_range
set_option maxRecDepth 20000 in
theorem ggL_inserts_L_keeps : GoodIn wsL_inserts wsL_keeps := goodIn_r _ [13, 1, 2, 3, 4, 5, 6, 7, 8, 9, 10] (by decide +kernel) (by decide +kernel)
set_option maxRecDepth 20000 in
theorem gL_inserts_L_keeps : GoodIn wsL_inserts (va_wsS RL 40 yL_keeps wsL_keeps) := goodIn_app (goodIn_of _ (by decide +kernel)) ggL_inserts_L_keeps
theorem dL_inserts_0 : decode cL_inserts 0 = .ok (.iconst 0, 1) := by decide +kernel
theorem dL_inserts_1 : decode cL_inserts 1 = .ok (.istore 8, 2) := by decide +kernel
theorem dL_inserts_3 : decode cL_inserts 3 = .ok (.iconst 0, 1) := by decide +kernel
theorem dL_inserts_4 : decode cL_inserts 4 = .ok (.istore 9, 2) := by decide +kernel
theorem dL_inserts_6 : decode cL_inserts 6 = .ok (.iload 9, 2) := by decide +kernel
theorem dL_inserts_8 : decode cL_inserts 8 = .ok (.bipush 8, 2) := by decide +kernel
theorem dL_inserts_10 : decode cL_inserts 10 = .ok (.aload 7, 2) := by decide +kernel
theorem dL_inserts_12 : decode cL_inserts 12 = .ok (.iconst 3, 1) := by decide +kernel
theorem dL_inserts_13 : decode cL_inserts 13 = .ok (.iaload, 1) := by decide +kernel
theorem dL_inserts_14 : decode cL_inserts 14 = .ok (.iadd, 1) := by decide +kernel
theorem dL_inserts_15 : decode cL_inserts 15 = .ok (.if_icmp .ge 143, 3) := by decide +kernel
theorem dL_inserts_18 : decode cL_inserts 18 = .ok (.iload 9, 2) := by decide +kernel
theorem dL_inserts_20 : decode cL_inserts 20 = .ok (.bipush 8, 2) := by decide +kernel
theorem dL_inserts_22 : decode cL_inserts 22 = .ok (.if_icmp .ge 16, 3) := by decide +kernel
theorem dL_inserts_25 : decode cL_inserts 25 = .ok (.iload 9, 2) := by decide +kernel
theorem dL_inserts_27 : decode cL_inserts 27 = .ok (.aload 7, 2) := by decide +kernel
theorem dL_inserts_29 : decode cL_inserts 29 = .ok (.iconst 2, 1) := by decide +kernel
theorem dL_inserts_30 : decode cL_inserts 30 = .ok (.iaload, 1) := by decide +kernel
theorem dL_inserts_31 : decode cL_inserts 31 = .ok (.if_icmp .lt 7, 3) := by decide +kernel
theorem dL_inserts_34 : decode cL_inserts 34 = .ok (.iconst (-1), 1) := by decide +kernel
theorem dL_inserts_35 : decode cL_inserts 35 = .ok (.goto 12, 3) := by decide +kernel
theorem dL_inserts_38 : decode cL_inserts 38 = .ok (.iload 9, 2) := by decide +kernel
theorem dL_inserts_40 : decode cL_inserts 40 = .ok (.aload 4, 2) := by decide +kernel
theorem dL_inserts_42 : decode cL_inserts 42 = .ok (.aload 7, 2) := by decide +kernel
theorem dL_inserts_44 : decode cL_inserts 44 = .ok (.invokestatic 37, 3) := by decide +kernel
theorem dL_inserts_47 : decode cL_inserts 47 = .ok (.istore 10, 2) := by decide +kernel
theorem dL_inserts_49 : decode cL_inserts 49 = .ok (.iload 9, 2) := by decide +kernel
theorem dL_inserts_51 : decode cL_inserts 51 = .ok (.aload 7, 2) := by decide +kernel
theorem dL_inserts_53 : decode cL_inserts 53 = .ok (.iconst 2, 1) := by decide +kernel
theorem dL_inserts_54 : decode cL_inserts 54 = .ok (.iaload, 1) := by decide +kernel
theorem dL_inserts_55 : decode cL_inserts 55 = .ok (.if_icmp .ge 14, 3) := by decide +kernel
theorem dL_inserts_58 : decode cL_inserts 58 = .ok (.aload 5, 2) := by decide +kernel
theorem dL_inserts_60 : decode cL_inserts 60 = .ok (.bipush 6, 2) := by decide +kernel
theorem dL_inserts_62 : decode cL_inserts 62 = .ok (.iload 9, 2) := by decide +kernel
theorem dL_inserts_64 : decode cL_inserts 64 = .ok (.imul, 1) := by decide +kernel
theorem dL_inserts_65 : decode cL_inserts 65 = .ok (.iaload, 1) := by decide +kernel
theorem dL_inserts_66 : decode cL_inserts 66 = .ok (.goto 4, 3) := by decide +kernel
theorem dL_inserts_69 : decode cL_inserts 69 = .ok (.iconst 0, 1) := by decide +kernel
theorem dL_inserts_70 : decode cL_inserts 70 = .ok (.istore 11, 2) := by decide +kernel
theorem dL_inserts_72 : decode cL_inserts 72 = .ok (.iload 10, 2) := by decide +kernel
theorem dL_inserts_74 : decode cL_inserts 74 = .ok (.ifCond .lt 57, 3) := by decide +kernel
theorem dL_inserts_77 : decode cL_inserts 77 = .ok (.iload 10, 2) := by decide +kernel
theorem dL_inserts_79 : decode cL_inserts 79 = .ok (.bipush 100, 2) := by decide +kernel
theorem dL_inserts_81 : decode cL_inserts 81 = .ok (.idiv, 1) := by decide +kernel
theorem dL_inserts_82 : decode cL_inserts 82 = .ok (.iload_n 0, 1) := by decide +kernel
theorem dL_inserts_83 : decode cL_inserts 83 = .ok (.if_icmp .lt 20, 3) := by decide +kernel
theorem dL_inserts_86 : decode cL_inserts 86 = .ok (.iload 10, 2) := by decide +kernel
theorem dL_inserts_88 : decode cL_inserts 88 = .ok (.bipush 100, 2) := by decide +kernel
theorem dL_inserts_90 : decode cL_inserts 90 = .ok (.idiv, 1) := by decide +kernel
theorem dL_inserts_91 : decode cL_inserts 91 = .ok (.iload_n 0, 1) := by decide +kernel
theorem dL_inserts_92 : decode cL_inserts 92 = .ok (.if_icmp .ne 39, 3) := by decide +kernel
theorem dL_inserts_95 : decode cL_inserts 95 = .ok (.iload 11, 2) := by decide +kernel
theorem dL_inserts_97 : decode cL_inserts 97 = .ok (.iconst 2, 1) := by decide +kernel
theorem dL_inserts_98 : decode cL_inserts 98 = .ok (.irem, 1) := by decide +kernel
theorem dL_inserts_99 : decode cL_inserts 99 = .ok (.iconst 1, 1) := by decide +kernel
theorem dL_inserts_100 : decode cL_inserts 100 = .ok (.if_icmp .ne 31, 3) := by decide +kernel
theorem dL_inserts_103 : decode cL_inserts 103 = .ok (.iload 10, 2) := by decide +kernel
theorem dL_inserts_105 : decode cL_inserts 105 = .ok (.bipush 100, 2) := by decide +kernel
theorem dL_inserts_107 : decode cL_inserts 107 = .ok (.irem, 1) := by decide +kernel
theorem dL_inserts_108 : decode cL_inserts 108 = .ok (.iload_n 0, 1) := by decide +kernel
theorem dL_inserts_109 : decode cL_inserts 109 = .ok (.if_icmp .gt 18, 3) := by decide +kernel
theorem dL_inserts_112 : decode cL_inserts 112 = .ok (.iload 10, 2) := by decide +kernel
theorem dL_inserts_114 : decode cL_inserts 114 = .ok (.bipush 100, 2) := by decide +kernel
theorem dL_inserts_116 : decode cL_inserts 116 = .ok (.irem, 1) := by decide +kernel
theorem dL_inserts_117 : decode cL_inserts 117 = .ok (.iload_n 0, 1) := by decide +kernel
theorem dL_inserts_118 : decode cL_inserts 118 = .ok (.if_icmp .ne 13, 3) := by decide +kernel
theorem dL_inserts_121 : decode cL_inserts 121 = .ok (.iload 11, 2) := by decide +kernel
theorem dL_inserts_123 : decode cL_inserts 123 = .ok (.iconst 1, 1) := by decide +kernel
theorem dL_inserts_124 : decode cL_inserts 124 = .ok (.if_icmp .le 7, 3) := by decide +kernel
theorem dL_inserts_127 : decode cL_inserts 127 = .ok (.iconst 1, 1) := by decide +kernel
theorem dL_inserts_128 : decode cL_inserts 128 = .ok (.goto 4, 3) := by decide +kernel
theorem dL_inserts_131 : decode cL_inserts 131 = .ok (.iconst 0, 1) := by decide +kernel
theorem dL_inserts_132 : decode cL_inserts 132 = .ok (.istore 12, 2) := by decide +kernel
theorem dL_inserts_134 : decode cL_inserts 134 = .ok (.iload 8, 2) := by decide +kernel
theorem dL_inserts_136 : decode cL_inserts 136 = .ok (.iload 12, 2) := by decide +kernel
theorem dL_inserts_138 : decode cL_inserts 138 = .ok (.ifCond .eq 10, 3) := by decide +kernel
theorem dL_inserts_141 : decode cL_inserts 141 = .ok (.iconst 1, 1) := by decide +kernel
theorem dL_inserts_142 : decode cL_inserts 142 = .ok (.iload 9, 2) := by decide +kernel
theorem dL_inserts_144 : decode cL_inserts 144 = .ok (.ishl, 1) := by decide +kernel
theorem dL_inserts_145 : decode cL_inserts 145 = .ok (.goto 4, 3) := by decide +kernel
theorem dL_inserts_148 : decode cL_inserts 148 = .ok (.iconst 0, 1) := by decide +kernel
theorem dL_inserts_149 : decode cL_inserts 149 = .ok (.ior, 1) := by decide +kernel
theorem dL_inserts_150 : decode cL_inserts 150 = .ok (.istore 8, 2) := by decide +kernel
theorem dL_inserts_152 : decode cL_inserts 152 = .ok (.iinc 9 1, 3) := by decide +kernel
theorem dL_inserts_155 : decode cL_inserts 155 = .ok (.goto (-149), 3) := by decide +kernel
theorem dL_inserts_158 : decode cL_inserts 158 = .ok (.aload 7, 2) := by decide +kernel
theorem dL_inserts_160 : decode cL_inserts 160 = .ok (.iconst 0, 1) := by decide +kernel
theorem dL_inserts_161 : decode cL_inserts 161 = .ok (.iaload, 1) := by decide +kernel
theorem dL_inserts_162 : decode cL_inserts 162 = .ok (.iconst 1, 1) := by decide +kernel
theorem dL_inserts_163 : decode cL_inserts 163 = .ok (.isub, 1) := by decide +kernel
theorem dL_inserts_164 : decode cL_inserts 164 = .ok (.istore 9, 2) := by decide +kernel
theorem dL_inserts_166 : decode cL_inserts 166 = .ok (.iload 9, 2) := by decide +kernel
theorem dL_inserts_168 : decode cL_inserts 168 = .ok (.iload_n 0, 1) := by decide +kernel
theorem dL_inserts_169 : decode cL_inserts 169 = .ok (.if_icmp .lt 31, 3) := by decide +kernel
theorem dL_inserts_172 : decode cL_inserts 172 = .ok (.aload_n 3, 1) := by decide +kernel
theorem dL_inserts_173 : decode cL_inserts 173 = .ok (.iload 9, 2) := by decide +kernel
theorem dL_inserts_175 : decode cL_inserts 175 = .ok (.iload_n 2, 1) := by decide +kernel
theorem dL_inserts_176 : decode cL_inserts 176 = .ok (.iadd, 1) := by decide +kernel
theorem dL_inserts_177 : decode cL_inserts 177 = .ok (.aload_n 3, 1) := by decide +kernel
theorem dL_inserts_178 : decode cL_inserts 178 = .ok (.iload 9, 2) := by decide +kernel
theorem dL_inserts_180 : decode cL_inserts 180 = .ok (.iaload, 1) := by decide +kernel
theorem dL_inserts_181 : decode cL_inserts 181 = .ok (.iastore, 1) := by decide +kernel
theorem dL_inserts_182 : decode cL_inserts 182 = .ok (.aload 4, 2) := by decide +kernel
theorem dL_inserts_184 : decode cL_inserts 184 = .ok (.iload 9, 2) := by decide +kernel
theorem dL_inserts_186 : decode cL_inserts 186 = .ok (.iload_n 2, 1) := by decide +kernel
theorem dL_inserts_187 : decode cL_inserts 187 = .ok (.iadd, 1) := by decide +kernel
theorem dL_inserts_188 : decode cL_inserts 188 = .ok (.aload 4, 2) := by decide +kernel
theorem dL_inserts_190 : decode cL_inserts 190 = .ok (.iload 9, 2) := by decide +kernel
theorem dL_inserts_192 : decode cL_inserts 192 = .ok (.iaload, 1) := by decide +kernel
theorem dL_inserts_193 : decode cL_inserts 193 = .ok (.iastore, 1) := by decide +kernel
theorem dL_inserts_194 : decode cL_inserts 194 = .ok (.iinc 9 (-1), 3) := by decide +kernel
theorem dL_inserts_197 : decode cL_inserts 197 = .ok (.goto (-31), 3) := by decide +kernel
theorem dL_inserts_200 : decode cL_inserts 200 = .ok (.iload_n 0, 1) := by decide +kernel
theorem dL_inserts_201 : decode cL_inserts 201 = .ok (.istore 9, 2) := by decide +kernel
theorem dL_inserts_203 : decode cL_inserts 203 = .ok (.iload 9, 2) := by decide +kernel
theorem dL_inserts_205 : decode cL_inserts 205 = .ok (.iload_n 0, 1) := by decide +kernel
theorem dL_inserts_206 : decode cL_inserts 206 = .ok (.iload_n 2, 1) := by decide +kernel
theorem dL_inserts_207 : decode cL_inserts 207 = .ok (.iadd, 1) := by decide +kernel
theorem dL_inserts_208 : decode cL_inserts 208 = .ok (.if_icmp .ge 21, 3) := by decide +kernel
theorem dL_inserts_211 : decode cL_inserts 211 = .ok (.aload_n 3, 1) := by decide +kernel
theorem dL_inserts_212 : decode cL_inserts 212 = .ok (.iload 9, 2) := by decide +kernel
theorem dL_inserts_214 : decode cL_inserts 214 = .ok (.iload_n 1, 1) := by decide +kernel
theorem dL_inserts_215 : decode cL_inserts 215 = .ok (.iastore, 1) := by decide +kernel
theorem dL_inserts_216 : decode cL_inserts 216 = .ok (.aload 4, 2) := by decide +kernel
theorem dL_inserts_218 : decode cL_inserts 218 = .ok (.iload 9, 2) := by decide +kernel
theorem dL_inserts_220 : decode cL_inserts 220 = .ok (.iload 8, 2) := by decide +kernel
theorem dL_inserts_222 : decode cL_inserts 222 = .ok (.iastore, 1) := by decide +kernel
theorem dL_inserts_223 : decode cL_inserts 223 = .ok (.iinc 9 1, 3) := by decide +kernel
theorem dL_inserts_226 : decode cL_inserts 226 = .ok (.goto (-23), 3) := by decide +kernel
theorem dL_inserts_229 : decode cL_inserts 229 = .ok (.aload 7, 2) := by decide +kernel
theorem dL_inserts_231 : decode cL_inserts 231 = .ok (.iconst 0, 1) := by decide +kernel
theorem dL_inserts_232 : decode cL_inserts 232 = .ok (.dup2, 1) := by decide +kernel
theorem dL_inserts_233 : decode cL_inserts 233 = .ok (.iaload, 1) := by decide +kernel
theorem dL_inserts_234 : decode cL_inserts 234 = .ok (.iload_n 2, 1) := by decide +kernel
theorem dL_inserts_235 : decode cL_inserts 235 = .ok (.iadd, 1) := by decide +kernel
theorem dL_inserts_236 : decode cL_inserts 236 = .ok (.iastore, 1) := by decide +kernel
theorem dL_inserts_237 : decode cL_inserts 237 = .ok (.aload 7, 2) := by decide +kernel
theorem dL_inserts_239 : decode cL_inserts 239 = .ok (.iconst 1, 1) := by decide +kernel
theorem dL_inserts_240 : decode cL_inserts 240 = .ok (.dup2, 1) := by decide +kernel
theorem dL_inserts_241 : decode cL_inserts 241 = .ok (.iaload, 1) := by decide +kernel
theorem dL_inserts_242 : decode cL_inserts 242 = .ok (.iconst 1, 1) := by decide +kernel
theorem dL_inserts_243 : decode cL_inserts 243 = .ok (.iadd, 1) := by decide +kernel
theorem dL_inserts_244 : decode cL_inserts 244 = .ok (.iastore, 1) := by decide +kernel
theorem dL_inserts_245 : decode cL_inserts 245 = .ok (.aload 4, 2) := by decide +kernel
theorem dL_inserts_247 : decode cL_inserts 247 = .ok (.aload 6, 2) := by decide +kernel
theorem dL_inserts_249 : decode cL_inserts 249 = .ok (.aload 7, 2) := by decide +kernel
theorem dL_inserts_251 : decode cL_inserts 251 = .ok (.invokestatic 40, 3) := by decide +kernel
theorem dL_inserts_254 : decode cL_inserts 254 = .ok (.return_, 1) := by decide +kernel
set_option maxRecDepth 20000 in
theorem ggL_removes_L_keeps : GoodIn wsL_removes wsL_keeps := goodIn_r _ [4, 5, 6, 3, 7, 8, 9, 10, 11, 12, 13] (by decide +kernel) (by decide +kernel)
set_option maxRecDepth 20000 in
theorem gL_removes_L_keeps : GoodIn wsL_removes (va_wsS RL 40 yL_keeps wsL_keeps) := goodIn_app (goodIn_of _ (by decide +kernel)) ggL_removes_L_keeps
theorem dL_removes_0 : decode cL_removes 0 = .ok (.iconst 0, 1) := by decide +kernel
theorem dL_removes_1 : decode cL_removes 1 = .ok (.istore 8, 2) := by decide +kernel
theorem dL_removes_3 : decode cL_removes 3 = .ok (.iconst 0, 1) := by decide +kernel
theorem dL_removes_4 : decode cL_removes 4 = .ok (.istore 9, 2) := by decide +kernel
theorem dL_removes_6 : decode cL_removes 6 = .ok (.iload 9, 2) := by decide +kernel
theorem dL_removes_8 : decode cL_removes 8 = .ok (.aload 7, 2) := by decide +kernel
theorem dL_removes_10 : decode cL_removes 10 = .ok (.iconst 0, 1) := by decide +kernel
theorem dL_removes_11 : decode cL_removes 11 = .ok (.iaload, 1) := by decide +kernel
theorem dL_removes_12 : decode cL_removes 12 = .ok (.if_icmp .ge 19, 3) := by decide +kernel
theorem dL_removes_15 : decode cL_removes 15 = .ok (.iload 8, 2) := by decide +kernel
theorem dL_removes_17 : decode cL_removes 17 = .ok (.aload 4, 2) := by decide +kernel
theorem dL_removes_19 : decode cL_removes 19 = .ok (.iload 9, 2) := by decide +kernel
theorem dL_removes_21 : decode cL_removes 21 = .ok (.iaload, 1) := by decide +kernel
theorem dL_removes_22 : decode cL_removes 22 = .ok (.ior, 1) := by decide +kernel
theorem dL_removes_23 : decode cL_removes 23 = .ok (.istore 8, 2) := by decide +kernel
theorem dL_removes_25 : decode cL_removes 25 = .ok (.iinc 9 1, 3) := by decide +kernel
theorem dL_removes_28 : decode cL_removes 28 = .ok (.goto (-22), 3) := by decide +kernel
theorem dL_removes_31 : decode cL_removes 31 = .ok (.iload_n 0, 1) := by decide +kernel
theorem dL_removes_32 : decode cL_removes 32 = .ok (.iload_n 1, 1) := by decide +kernel
theorem dL_removes_33 : decode cL_removes 33 = .ok (.iadd, 1) := by decide +kernel
theorem dL_removes_34 : decode cL_removes 34 = .ok (.istore 9, 2) := by decide +kernel
theorem dL_removes_36 : decode cL_removes 36 = .ok (.iload 9, 2) := by decide +kernel
theorem dL_removes_38 : decode cL_removes 38 = .ok (.aload 7, 2) := by decide +kernel
theorem dL_removes_40 : decode cL_removes 40 = .ok (.iconst 0, 1) := by decide +kernel
theorem dL_removes_41 : decode cL_removes 41 = .ok (.iaload, 1) := by decide +kernel
theorem dL_removes_42 : decode cL_removes 42 = .ok (.if_icmp .ge 31, 3) := by decide +kernel
theorem dL_removes_45 : decode cL_removes 45 = .ok (.aload_n 3, 1) := by decide +kernel
theorem dL_removes_46 : decode cL_removes 46 = .ok (.iload 9, 2) := by decide +kernel
theorem dL_removes_48 : decode cL_removes 48 = .ok (.iload_n 1, 1) := by decide +kernel
theorem dL_removes_49 : decode cL_removes 49 = .ok (.isub, 1) := by decide +kernel
theorem dL_removes_50 : decode cL_removes 50 = .ok (.aload_n 3, 1) := by decide +kernel
theorem dL_removes_51 : decode cL_removes 51 = .ok (.iload 9, 2) := by decide +kernel
theorem dL_removes_53 : decode cL_removes 53 = .ok (.iaload, 1) := by decide +kernel
theorem dL_removes_54 : decode cL_removes 54 = .ok (.iastore, 1) := by decide +kernel
theorem dL_removes_55 : decode cL_removes 55 = .ok (.aload 4, 2) := by decide +kernel
theorem dL_removes_57 : decode cL_removes 57 = .ok (.iload 9, 2) := by decide +kernel
theorem dL_removes_59 : decode cL_removes 59 = .ok (.iload_n 1, 1) := by decide +kernel
theorem dL_removes_60 : decode cL_removes 60 = .ok (.isub, 1) := by decide +kernel
theorem dL_removes_61 : decode cL_removes 61 = .ok (.aload 4, 2) := by decide +kernel
theorem dL_removes_63 : decode cL_removes 63 = .ok (.iload 9, 2) := by decide +kernel
theorem dL_removes_65 : decode cL_removes 65 = .ok (.iaload, 1) := by decide +kernel
theorem dL_removes_66 : decode cL_removes 66 = .ok (.iastore, 1) := by decide +kernel
theorem dL_removes_67 : decode cL_removes 67 = .ok (.iinc 9 1, 3) := by decide +kernel
theorem dL_removes_70 : decode cL_removes 70 = .ok (.goto (-34), 3) := by decide +kernel
theorem dL_removes_73 : decode cL_removes 73 = .ok (.aload 7, 2) := by decide +kernel
theorem dL_removes_75 : decode cL_removes 75 = .ok (.iconst 0, 1) := by decide +kernel
theorem dL_removes_76 : decode cL_removes 76 = .ok (.dup2, 1) := by decide +kernel
theorem dL_removes_77 : decode cL_removes 77 = .ok (.iaload, 1) := by decide +kernel
theorem dL_removes_78 : decode cL_removes 78 = .ok (.iload_n 1, 1) := by decide +kernel
theorem dL_removes_79 : decode cL_removes 79 = .ok (.isub, 1) := by decide +kernel
theorem dL_removes_80 : decode cL_removes 80 = .ok (.iastore, 1) := by decide +kernel
theorem dL_removes_81 : decode cL_removes 81 = .ok (.aload 7, 2) := by decide +kernel
theorem dL_removes_83 : decode cL_removes 83 = .ok (.iconst 1, 1) := by decide +kernel
theorem dL_removes_84 : decode cL_removes 84 = .ok (.dup2, 1) := by decide +kernel
theorem dL_removes_85 : decode cL_removes 85 = .ok (.iaload, 1) := by decide +kernel
theorem dL_removes_86 : decode cL_removes 86 = .ok (.iconst 1, 1) := by decide +kernel
theorem dL_removes_87 : decode cL_removes 87 = .ok (.iadd, 1) := by decide +kernel
theorem dL_removes_88 : decode cL_removes 88 = .ok (.iastore, 1) := by decide +kernel
theorem dL_removes_89 : decode cL_removes 89 = .ok (.iconst 0, 1) := by decide +kernel
theorem dL_removes_90 : decode cL_removes 90 = .ok (.istore 9, 2) := by decide +kernel
theorem dL_removes_92 : decode cL_removes 92 = .ok (.iconst 0, 1) := by decide +kernel
theorem dL_removes_93 : decode cL_removes 93 = .ok (.istore 10, 2) := by decide +kernel
theorem dL_removes_95 : decode cL_removes 95 = .ok (.iload 10, 2) := by decide +kernel
theorem dL_removes_97 : decode cL_removes 97 = .ok (.aload 7, 2) := by decide +kernel
theorem dL_removes_99 : decode cL_removes 99 = .ok (.iconst 0, 1) := by decide +kernel
theorem dL_removes_100 : decode cL_removes 100 = .ok (.iaload, 1) := by decide +kernel
theorem dL_removes_101 : decode cL_removes 101 = .ok (.if_icmp .ge 19, 3) := by decide +kernel
theorem dL_removes_104 : decode cL_removes 104 = .ok (.iload 9, 2) := by decide +kernel
theorem dL_removes_106 : decode cL_removes 106 = .ok (.aload 4, 2) := by decide +kernel
theorem dL_removes_108 : decode cL_removes 108 = .ok (.iload 10, 2) := by decide +kernel
theorem dL_removes_110 : decode cL_removes 110 = .ok (.iaload, 1) := by decide +kernel
theorem dL_removes_111 : decode cL_removes 111 = .ok (.ior, 1) := by decide +kernel
theorem dL_removes_112 : decode cL_removes 112 = .ok (.istore 9, 2) := by decide +kernel
theorem dL_removes_114 : decode cL_removes 114 = .ok (.iinc 10 1, 3) := by decide +kernel

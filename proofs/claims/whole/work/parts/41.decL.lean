set_option maxRecDepth 20000 in
theorem ggL_insert_X4_insert : GoodIn wsL_insert wsX4_insert := goodIn_ca (goodIn_ca (goodIn_ca (goodIn_ca (goodIn_r _ [8, 9, 10, 11, 12, 7, 13, 14, 15, 16, 17, 18, 19, 20, 21, 22, 23, 24, 25, 26, 27, 28, 29, 30, 31, 32, 33, 34, 35, 36, 37, 38, 39, 40, 41, 42, 43, 44, 45, 46, 47, 48, 49, 50, 51, 52, 53, 54, 55, 56, 57, 58, 59, 60, 61, 62, 63, 64, 65, 66, 67, 68, 69, 70, 71, 72, 73, 74, 75, 76, 77, 78, 79, 80, 81, 82, 83, 84, 85, 86, 87, 88, 89, 90, 91, 92, 93, 94, 95, 96, 97, 98, 99, 100, 101, 102, 103, 104, 105, 106, 107, 108, 109, 110, 111, 112, 113, 114, 115, 116, 117, 118, 119, 120, 121, 122, 123, 124, 125, 126, 127, 128, 129, 130, 131] (by decide +kernel) (by decide +kernel)) (goodIn_sub (fun _ h => List.mem_cons_of_mem _ (List.mem_append_left _ (List.mem_append_left _ (List.mem_append_right _ h)))) (by decide +kernel))) (goodIn_sub (fun _ h => List.mem_cons_of_mem _ (List.mem_append_left _ (List.mem_append_right _ h))) (by decide +kernel))) (goodIn_sub (fun _ h => List.mem_cons_of_mem _ (List.mem_append_right _ h)) (by decide +kernel))) (goodIn_sub (fun _ h => List.mem_cons_of_mem _ (List.mem_append_left _ (List.mem_append_left _ (List.mem_append_left _ (List.mem_append_right _ h))))) (by decide +kernel))
set_option maxRecDepth 20000 in
theorem gL_insert_X4_insert : GoodIn wsL_insert (wsV RL 7 RX4 yX4_insert wsX4_insert) := goodIn_app (goodIn_of _ (by decide +kernel)) ggL_insert_X4_insert
theorem dL_insert_0 : decode cL_insert 0 = .ok (.aload 4, 2) := by decide +kernel
theorem dL_insert_2 : decode cL_insert 2 = .ok (.iconst 0, 1) := by decide +kernel
theorem dL_insert_3 : decode cL_insert 3 = .ok (.aload_n 0, 1) := by decide +kernel
theorem dL_insert_4 : decode cL_insert 4 = .ok (.iload_n 1, 1) := by decide +kernel
theorem dL_insert_5 : decode cL_insert 5 = .ok (.iload_n 2, 1) := by decide +kernel
theorem dL_insert_6 : decode cL_insert 6 = .ok (.iload_n 3, 1) := by decide +kernel
theorem dL_insert_7 : decode cL_insert 7 = .ok (.invokevirtual 7, 3) := by decide +kernel
theorem dL_insert_10 : decode cL_insert 10 = .ok (.i2l, 1) := by decide +kernel
theorem dL_insert_11 : decode cL_insert 11 = .ok (.lastore, 1) := by decide +kernel
theorem dL_insert_12 : decode cL_insert 12 = .ok (.goto 15, 3) := by decide +kernel
theorem dL_insert_15 : decode cL_insert 15 = .ok (.astore 5, 2) := by decide +kernel
theorem dL_insert_17 : decode cL_insert 17 = .ok (.iconst 1, 1) := by decide +kernel
theorem dL_insert_18 : decode cL_insert 18 = .ok (.ireturn, 1) := by decide +kernel
theorem dL_insert_19 : decode cL_insert 19 = .ok (.astore 5, 2) := by decide +kernel
theorem dL_insert_21 : decode cL_insert 21 = .ok (.iconst 2, 1) := by decide +kernel
theorem dL_insert_22 : decode cL_insert 22 = .ok (.ireturn, 1) := by decide +kernel
theorem dL_insert_23 : decode cL_insert 23 = .ok (.astore 5, 2) := by decide +kernel
theorem dL_insert_25 : decode cL_insert 25 = .ok (.iconst 3, 1) := by decide +kernel
theorem dL_insert_26 : decode cL_insert 26 = .ok (.ireturn, 1) := by decide +kernel
theorem dL_insert_27 : decode cL_insert 27 = .ok (.iconst 0, 1) := by decide +kernel
theorem dL_insert_28 : decode cL_insert 28 = .ok (.ireturn, 1) := by decide +kernel
set_option maxRecDepth 20000 in
theorem ggL_remove_X4_remove : GoodIn wsL_remove wsX4_remove := goodIn_ca (goodIn_ca (goodIn_ca (goodIn_ca (goodIn_r _ [8, 9, 10, 11, 12, 7, 13, 14, 15, 16, 17, 18, 19, 20, 21, 22, 23, 24, 25, 26, 27, 28, 29, 30, 31, 32, 33, 34, 35, 36, 37, 38, 39, 40, 41, 42, 43, 44, 45, 46, 47, 48, 49, 50, 51, 52, 53, 54, 55, 56, 57, 58, 59, 60, 61, 62, 63, 64, 65, 66, 67, 68, 69, 70, 71, 72, 73, 74, 75, 76, 77, 78, 79, 80, 81, 82, 83, 84, 85, 86, 87, 88, 89, 90, 91, 92, 93, 94, 95, 96, 97, 98, 99, 100, 101, 102, 103, 104, 105, 106, 107, 108, 109, 110, 111, 112, 113, 114] (by decide +kernel) (by decide +kernel)) (goodIn_sub (fun _ h => List.mem_cons_of_mem _ (List.mem_append_left _ (List.mem_append_left _ (List.mem_append_right _ h)))) (by decide +kernel))) (goodIn_sub (fun _ h => List.mem_cons_of_mem _ (List.mem_append_left _ (List.mem_append_right _ h))) (by decide +kernel))) (goodIn_sub (fun _ h => List.mem_cons_of_mem _ (List.mem_append_right _ h)) (by decide +kernel))) (goodIn_sub (fun _ h => List.mem_cons_of_mem _ (List.mem_append_left _ (List.mem_append_left _ (List.mem_append_left _ (List.mem_append_right _ h))))) (by decide +kernel))
set_option maxRecDepth 20000 in
theorem gL_remove_X4_remove : GoodIn wsL_remove (wsV RL 19 RX4 yX4_remove wsX4_remove) := goodIn_app (goodIn_of _ (by decide +kernel)) ggL_remove_X4_remove
theorem dL_remove_0 : decode cL_remove 0 = .ok (.aload_n 3, 1) := by decide +kernel
theorem dL_remove_1 : decode cL_remove 1 = .ok (.iconst 0, 1) := by decide +kernel
theorem dL_remove_2 : decode cL_remove 2 = .ok (.aload_n 0, 1) := by decide +kernel
theorem dL_remove_3 : decode cL_remove 3 = .ok (.iload_n 1, 1) := by decide +kernel
theorem dL_remove_4 : decode cL_remove 4 = .ok (.iload_n 2, 1) := by decide +kernel
theorem dL_remove_5 : decode cL_remove 5 = .ok (.invokevirtual 19, 3) := by decide +kernel
theorem dL_remove_8 : decode cL_remove 8 = .ok (.i2l, 1) := by decide +kernel
theorem dL_remove_9 : decode cL_remove 9 = .ok (.lastore, 1) := by decide +kernel
theorem dL_remove_10 : decode cL_remove 10 = .ok (.goto 15, 3) := by decide +kernel
theorem dL_remove_13 : decode cL_remove 13 = .ok (.astore 4, 2) := by decide +kernel
theorem dL_remove_15 : decode cL_remove 15 = .ok (.iconst 1, 1) := by decide +kernel
theorem dL_remove_16 : decode cL_remove 16 = .ok (.ireturn, 1) := by decide +kernel
theorem dL_remove_17 : decode cL_remove 17 = .ok (.astore 4, 2) := by decide +kernel
theorem dL_remove_19 : decode cL_remove 19 = .ok (.iconst 2, 1) := by decide +kernel
theorem dL_remove_20 : decode cL_remove 20 = .ok (.ireturn, 1) := by decide +kernel
theorem dL_remove_21 : decode cL_remove 21 = .ok (.astore 4, 2) := by decide +kernel
theorem dL_remove_23 : decode cL_remove 23 = .ok (.iconst 3, 1) := by decide +kernel
theorem dL_remove_24 : decode cL_remove 24 = .ok (.ireturn, 1) := by decide +kernel
theorem dL_remove_25 : decode cL_remove 25 = .ok (.iconst 0, 1) := by decide +kernel
theorem dL_remove_26 : decode cL_remove 26 = .ok (.ireturn, 1) := by decide +kernel
set_option maxRecDepth 20000 in
theorem ggL_letterAt_X4_letterAt : GoodIn wsL_letterAt wsX4_letterAt := goodIn_ca (goodIn_ca (goodIn_r _ [6, 7, 8, 9, 10, 5, 11, 12, 13, 14, 15, 16, 17, 18, 19, 20, 21, 22, 23, 24, 25, 26, 27, 28, 29, 30, 31, 32, 33, 34, 35, 36, 37] (by decide +kernel) (by decide +kernel)) (goodIn_sub (fun _ h => List.mem_cons_of_mem _ (List.mem_append_right _ h)) (by decide +kernel))) (goodIn_sub (fun _ h => List.mem_cons_of_mem _ (List.mem_append_left _ (List.mem_append_right _ h))) (by decide +kernel))
set_option maxRecDepth 20000 in
theorem gL_letterAt_X4_letterAt : GoodIn wsL_letterAt (wsV RL 23 RX4 yX4_letterAt wsX4_letterAt) := goodIn_app (goodIn_of _ (by decide +kernel)) ggL_letterAt_X4_letterAt
theorem dL_letterAt_0 : decode cL_letterAt 0 = .ok (.aload_n 2, 1) := by decide +kernel
theorem dL_letterAt_1 : decode cL_letterAt 1 = .ok (.iconst 0, 1) := by decide +kernel
theorem dL_letterAt_2 : decode cL_letterAt 2 = .ok (.aload_n 0, 1) := by decide +kernel
theorem dL_letterAt_3 : decode cL_letterAt 3 = .ok (.iload_n 1, 1) := by decide +kernel
theorem dL_letterAt_4 : decode cL_letterAt 4 = .ok (.invokevirtual 23, 3) := by decide +kernel
theorem dL_letterAt_7 : decode cL_letterAt 7 = .ok (.i2l, 1) := by decide +kernel
theorem dL_letterAt_8 : decode cL_letterAt 8 = .ok (.lastore, 1) := by decide +kernel
theorem dL_letterAt_9 : decode cL_letterAt 9 = .ok (.goto 6, 3) := by decide +kernel
theorem dL_letterAt_12 : decode cL_letterAt 12 = .ok (.astore_n 3, 1) := by decide +kernel
theorem dL_letterAt_13 : decode cL_letterAt 13 = .ok (.iconst 1, 1) := by decide +kernel
theorem dL_letterAt_14 : decode cL_letterAt 14 = .ok (.ireturn, 1) := by decide +kernel
theorem dL_letterAt_15 : decode cL_letterAt 15 = .ok (.iconst 0, 1) := by decide +kernel
theorem dL_letterAt_16 : decode cL_letterAt 16 = .ok (.ireturn, 1) := by decide +kernel
set_option maxRecDepth 20000 in
theorem ggL_comment_X4_comment : GoodIn wsL_comment wsX4_comment := goodIn_ca (goodIn_ca (goodIn_ca (goodIn_ca (goodIn_r _ [8, 9, 10, 11, 12, 13, 14, 15, 16, 17, 7, 18, 19, 20, 21, 22, 23, 24, 25, 26, 27, 28, 29, 30, 31, 32, 33, 34, 35, 36, 37, 38, 39, 40, 41, 42, 43, 44, 45, 46, 47, 48, 49, 50, 51, 52, 53, 54, 55, 56, 57, 58, 59, 60, 61, 62, 63, 64, 65, 66, 67, 68, 69, 70, 71, 72, 73, 74, 75, 76, 77, 78, 79, 80, 81, 82, 83, 84, 85, 86, 87, 88, 89] (by decide +kernel) (by decide +kernel)) (goodIn_sub (fun _ h => List.mem_cons_of_mem _ (List.mem_append_left _ (List.mem_append_left _ (List.mem_append_right _ h)))) (by decide +kernel))) (goodIn_sub (fun _ h => List.mem_cons_of_mem _ (List.mem_append_left _ (List.mem_append_right _ h))) (by decide +kernel))) (goodIn_sub (fun _ h => List.mem_cons_of_mem _ (List.mem_append_right _ h)) (by decide +kernel))) (goodIn_sub (fun _ h => List.mem_cons_of_mem _ (List.mem_append_left _ (List.mem_append_left _ (List.mem_append_left _ (List.mem_append_right _ h))))) (by decide +kernel))
set_option maxRecDepth 20000 in
theorem gL_comment_X4_comment : GoodIn wsL_comment (wsV RL 27 RX4 yX4_comment wsX4_comment) := goodIn_app (goodIn_of _ (by decide +kernel)) ggL_comment_X4_comment
theorem dL_comment_0 : decode cL_comment 0 = .ok (.aload 4, 2) := by decide +kernel
theorem dL_comment_2 : decode cL_comment 2 = .ok (.iconst 0, 1) := by decide +kernel
theorem dL_comment_3 : decode cL_comment 3 = .ok (.aload_n 0, 1) := by decide +kernel
theorem dL_comment_4 : decode cL_comment 4 = .ok (.iload_n 1, 1) := by decide +kernel
theorem dL_comment_5 : decode cL_comment 5 = .ok (.iload_n 2, 1) := by decide +kernel
theorem dL_comment_6 : decode cL_comment 6 = .ok (.iload_n 3, 1) := by decide +kernel
theorem dL_comment_7 : decode cL_comment 7 = .ok (.invokevirtual 27, 3) := by decide +kernel
theorem dL_comment_10 : decode cL_comment 10 = .ok (.i2l, 1) := by decide +kernel
theorem dL_comment_11 : decode cL_comment 11 = .ok (.lastore, 1) := by decide +kernel
theorem dL_comment_12 : decode cL_comment 12 = .ok (.goto 15, 3) := by decide +kernel
theorem dL_comment_15 : decode cL_comment 15 = .ok (.astore 5, 2) := by decide +kernel
theorem dL_comment_17 : decode cL_comment 17 = .ok (.iconst 1, 1) := by decide +kernel
theorem dL_comment_18 : decode cL_comment 18 = .ok (.ireturn, 1) := by decide +kernel
theorem dL_comment_19 : decode cL_comment 19 = .ok (.astore 5, 2) := by decide +kernel
theorem dL_comment_21 : decode cL_comment 21 = .ok (.iconst 2, 1) := by decide +kernel
theorem dL_comment_22 : decode cL_comment 22 = .ok (.ireturn, 1) := by decide +kernel
theorem dL_comment_23 : decode cL_comment 23 = .ok (.astore 5, 2) := by decide +kernel
theorem dL_comment_25 : decode cL_comment 25 = .ok (.iconst 3, 1) := by decide +kernel
theorem dL_comment_26 : decode cL_comment 26 = .ok (.ireturn, 1) := by decide +kernel
theorem dL_comment_27 : decode cL_comment 27 = .ok (.iconst 0, 1) := by decide +kernel
theorem dL_comment_28 : decode cL_comment 28 = .ok (.ireturn, 1) := by decide +kernel
set_option maxRecDepth 20000 in
theorem ggL_answer_X4_answer : GoodIn wsL_answer wsX4_answer := goodIn_ca (goodIn_ca (goodIn_r _ [6, 7, 8, 9, 10, 11, 5, 12, 13, 14, 15, 16, 17, 18, 19, 20, 21, 22, 23, 24, 25, 26, 27, 28, 29, 30, 31, 32, 33] (by decide +kernel) (by decide +kernel)) (goodIn_sub (fun _ h => List.mem_cons_of_mem _ (List.mem_append_left _ (List.mem_append_right _ h))) (by decide +kernel))) (goodIn_sub (fun _ h => List.mem_cons_of_mem _ (List.mem_append_right _ h)) (by decide +kernel))
set_option maxRecDepth 20000 in
theorem gL_answer_X4_answer : GoodIn wsL_answer (wsV RL 30 RX4 yX4_answer wsX4_answer) := goodIn_app (goodIn_of _ (by decide +kernel)) ggL_answer_X4_answer
theorem dL_answer_0 : decode cL_answer 0 = .ok (.aload_n 2, 1) := by decide +kernel
theorem dL_answer_1 : decode cL_answer 1 = .ok (.iconst 0, 1) := by decide +kernel
theorem dL_answer_2 : decode cL_answer 2 = .ok (.aload_n 0, 1) := by decide +kernel
theorem dL_answer_3 : decode cL_answer 3 = .ok (.iload_n 1, 1) := by decide +kernel
theorem dL_answer_4 : decode cL_answer 4 = .ok (.invokevirtual 30, 3) := by decide +kernel
theorem dL_answer_7 : decode cL_answer 7 = .ok (.i2l, 1) := by decide +kernel
theorem dL_answer_8 : decode cL_answer 8 = .ok (.lastore, 1) := by decide +kernel
theorem dL_answer_9 : decode cL_answer 9 = .ok (.goto 6, 3) := by decide +kernel
theorem dL_answer_12 : decode cL_answer 12 = .ok (.astore_n 3, 1) := by decide +kernel
theorem dL_answer_13 : decode cL_answer 13 = .ok (.iconst 1, 1) := by decide +kernel
theorem dL_answer_14 : decode cL_answer 14 = .ok (.ireturn, 1) := by decide +kernel
theorem dL_answer_15 : decode cL_answer 15 = .ok (.iconst 0, 1) := by decide +kernel
theorem dL_answer_16 : decode cL_answer 16 = .ok (.ireturn, 1) := by decide +kernel
set_option maxRecDepth 20000 in
theorem ggL_resolve_X4_resolve : GoodIn wsL_resolve wsX4_resolve := goodIn_ca (goodIn_r _ [6, 7, 8, 9, 10, 5, 11, 12, 13, 14, 15, 16, 17, 18, 19, 20, 21, 22, 23, 24, 25, 26, 27, 28, 29, 30, 31, 32] (by decide +kernel) (by decide +kernel)) (goodIn_sub (fun _ h => List.mem_cons_of_mem _ (List.mem_append_right _ h)) (by decide +kernel))
set_option maxRecDepth 20000 in
theorem gL_resolve_X4_resolve : GoodIn wsL_resolve (wsV RL 33 RX4 yX4_resolve wsX4_resolve) := goodIn_app (goodIn_of _ (by decide +kernel)) ggL_resolve_X4_resolve
theorem dL_resolve_0 : decode cL_resolve 0 = .ok (.aload_n 2, 1) := by decide +kernel
theorem dL_resolve_1 : decode cL_resolve 1 = .ok (.iconst 0, 1) := by decide +kernel
theorem dL_resolve_2 : decode cL_resolve 2 = .ok (.aload_n 0, 1) := by decide +kernel
theorem dL_resolve_3 : decode cL_resolve 3 = .ok (.iload_n 1, 1) := by decide +kernel
theorem dL_resolve_4 : decode cL_resolve 4 = .ok (.invokevirtual 33, 3) := by decide +kernel
theorem dL_resolve_7 : decode cL_resolve 7 = .ok (.ifCond .eq 7, 3) := by decide +kernel
theorem dL_resolve_10 : decode cL_resolve 10 = .ok (.lconst 1, 1) := by decide +kernel
theorem dL_resolve_11 : decode cL_resolve 11 = .ok (.goto 4, 3) := by decide +kernel
theorem dL_resolve_14 : decode cL_resolve 14 = .ok (.lconst 0, 1) := by decide +kernel
theorem dL_resolve_15 : decode cL_resolve 15 = .ok (.lastore, 1) := by decide +kernel
theorem dL_resolve_16 : decode cL_resolve 16 = .ok (.goto 6, 3) := by decide +kernel
theorem dL_resolve_19 : decode cL_resolve 19 = .ok (.astore_n 3, 1) := by decide +kernel
theorem dL_resolve_20 : decode cL_resolve 20 = .ok (.iconst 1, 1) := by decide +kernel
theorem dL_resolve_21 : decode cL_resolve 21 = .ok (.ireturn, 1) := by decide +kernel
theorem dL_resolve_22 : decode cL_resolve 22 = .ok (.iconst 0, 1) := by decide +kernel
theorem dL_resolve_23 : decode cL_resolve 23 = .ok (.ireturn, 1) := by decide +kernel
set_option maxRecDepth 20000 in
theorem ggL_find_X4_find : GoodIn wsL_find wsX4_find := goodIn_ca (goodIn_ca (goodIn_ca (goodIn_r _ [7, 8, 9, 10, 11, 12, 13, 14, 15, 6, 16, 17, 18, 19, 20, 21, 22, 23, 24, 25, 26, 27, 28, 29, 30, 31, 32, 33, 34, 35, 36, 37, 38, 39, 40, 41, 42, 43, 44, 45, 46, 47, 48, 49, 50, 51, 52, 53, 54, 55, 56, 57, 58, 59, 60, 61, 62, 63, 64, 65, 66, 67, 68, 69, 70, 71, 72, 73, 74, 75, 76, 77, 78, 79, 80, 81, 82, 83, 84, 85] (by decide +kernel) (by decide +kernel)) (goodIn_sub (fun _ h => List.mem_cons_of_mem _ (List.mem_append_left _ (List.mem_append_right _ h))) (by decide +kernel))) (goodIn_sub (fun _ h => List.mem_cons_of_mem _ (List.mem_append_right _ h)) (by decide +kernel))) (goodIn_sub (fun _ h => List.mem_cons_of_mem _ (List.mem_append_left _ (List.mem_append_left _ (List.mem_append_right _ h)))) (by decide +kernel))
set_option maxRecDepth 20000 in
theorem gL_find_X4_find : GoodIn wsL_find (wsV RL 37 RX4 yX4_find wsX4_find) := goodIn_app (goodIn_of _ (by decide +kernel)) ggL_find_X4_find
theorem dL_find_0 : decode cL_find 0 = .ok (.aload_n 2, 1) := by decide +kernel
theorem dL_find_1 : decode cL_find 1 = .ok (.iconst 0, 1) := by decide +kernel
theorem dL_find_2 : decode cL_find 2 = .ok (.aload_n 0, 1) := by decide +kernel
theorem dL_find_3 : decode cL_find 3 = .ok (.iload_n 1, 1) := by decide +kernel
theorem dL_find_4 : decode cL_find 4 = .ok (.invokevirtual 37, 3) := by decide +kernel
theorem dL_find_7 : decode cL_find 7 = .ok (.i2l, 1) := by decide +kernel
theorem dL_find_8 : decode cL_find 8 = .ok (.lastore, 1) := by decide +kernel
theorem dL_find_9 : decode cL_find 9 = .ok (.goto 9, 3) := by decide +kernel
theorem dL_find_12 : decode cL_find 12 = .ok (.astore_n 3, 1) := by decide +kernel
theorem dL_find_13 : decode cL_find 13 = .ok (.iconst 1, 1) := by decide +kernel
theorem dL_find_14 : decode cL_find 14 = .ok (.ireturn, 1) := by decide +kernel
theorem dL_find_15 : decode cL_find 15 = .ok (.astore_n 3, 1) := by decide +kernel
theorem dL_find_16 : decode cL_find 16 = .ok (.iconst 2, 1) := by decide +kernel
theorem dL_find_17 : decode cL_find 17 = .ok (.ireturn, 1) := by decide +kernel
theorem dL_find_18 : decode cL_find 18 = .ok (.iconst 0, 1) := by decide +kernel
theorem dL_find_19 : decode cL_find 19 = .ok (.ireturn, 1) := by decide +kernel
set_option maxRecDepth 20000 in
theorem ggL_rangeOf_X4_rangeOf : GoodIn wsL_rangeOf wsX4_rangeOf := goodIn_ca (goodIn_ca (goodIn_r _ [6, 7, 8, 9, 10, 5, 11, 12, 13, 14, 15, 16, 17, 18, 19, 20, 21, 22, 23, 24, 25, 26, 27, 28, 29, 30, 31, 32, 33, 34, 35, 36, 37, 38] (by decide +kernel) (by decide +kernel)) (goodIn_sub (fun _ h => List.mem_cons_of_mem _ (List.mem_append_right _ h)) (by decide +kernel))) (goodIn_sub (fun _ h => List.mem_cons_of_mem _ (List.mem_append_left _ (List.mem_append_right _ h))) (by decide +kernel))
set_option maxRecDepth 20000 in
theorem gL_rangeOf_X4_rangeOf : GoodIn wsL_rangeOf (wsV RL 40 RX4 yX4_rangeOf wsX4_rangeOf) := goodIn_app (goodIn_of _ (by decide +kernel)) ggL_rangeOf_X4_rangeOf
theorem dL_rangeOf_0 : decode cL_rangeOf 0 = .ok (.aload_n 2, 1) := by decide +kernel
theorem dL_rangeOf_1 : decode cL_rangeOf 1 = .ok (.iconst 0, 1) := by decide +kernel
theorem dL_rangeOf_2 : decode cL_rangeOf 2 = .ok (.aload_n 0, 1) := by decide +kernel
theorem dL_rangeOf_3 : decode cL_rangeOf 3 = .ok (.iload_n 1, 1) := by decide +kernel
theorem dL_rangeOf_4 : decode cL_rangeOf 4 = .ok (.invokevirtual 40, 3) := by decide +kernel
theorem dL_rangeOf_7 : decode cL_rangeOf 7 = .ok (.i2l, 1) := by decide +kernel
theorem dL_rangeOf_8 : decode cL_rangeOf 8 = .ok (.lastore, 1) := by decide +kernel
theorem dL_rangeOf_9 : decode cL_rangeOf 9 = .ok (.goto 6, 3) := by decide +kernel
theorem dL_rangeOf_12 : decode cL_rangeOf 12 = .ok (.astore_n 3, 1) := by decide +kernel
theorem dL_rangeOf_13 : decode cL_rangeOf 13 = .ok (.iconst 1, 1) := by decide +kernel
theorem dL_rangeOf_14 : decode cL_rangeOf 14 = .ok (.ireturn, 1) := by decide +kernel
theorem dL_rangeOf_15 : decode cL_rangeOf 15 = .ok (.iconst 0, 1) := by decide +kernel
theorem dL_rangeOf_16 : decode cL_rangeOf 16 = .ok (.ireturn, 1) := by decide +kernel
set_option maxRecDepth 20000 in
theorem ggL_rangeThen_X4_rangeThen : GoodIn wsL_rangeThen wsX4_rangeThen := goodIn_ca (goodIn_ca (goodIn_r _ [6, 7, 8, 9, 10, 11, 12, 13, 14, 5, 15, 16, 17, 18, 19, 20, 21, 22, 23, 24, 25, 26, 27, 28, 29, 30, 31, 32, 33, 34, 35, 36, 37, 38, 39, 40, 41, 42, 43, 44, 45, 46] (by decide +kernel) (by decide +kernel)) (goodIn_sub (fun _ h => List.mem_cons_of_mem _ (List.mem_append_right _ h)) (by decide +kernel))) (goodIn_sub (fun _ h => List.mem_cons_of_mem _ (List.mem_append_left _ (List.mem_append_right _ h))) (by decide +kernel))
set_option maxRecDepth 20000 in
theorem gL_rangeThen_X4_rangeThen : GoodIn wsL_rangeThen (wsV RL 43 RX4 yX4_rangeThen wsX4_rangeThen) := goodIn_app (goodIn_of _ (by decide +kernel)) ggL_rangeThen_X4_rangeThen
theorem dL_rangeThen_0 : decode cL_rangeThen 0 = .ok (.aload_n 3, 1) := by decide +kernel
theorem dL_rangeThen_1 : decode cL_rangeThen 1 = .ok (.iconst 0, 1) := by decide +kernel
theorem dL_rangeThen_2 : decode cL_rangeThen 2 = .ok (.aload_n 0, 1) := by decide +kernel
theorem dL_rangeThen_3 : decode cL_rangeThen 3 = .ok (.iload_n 1, 1) := by decide +kernel
theorem dL_rangeThen_4 : decode cL_rangeThen 4 = .ok (.iload_n 2, 1) := by decide +kernel
theorem dL_rangeThen_5 : decode cL_rangeThen 5 = .ok (.invokevirtual 43, 3) := by decide +kernel
theorem dL_rangeThen_8 : decode cL_rangeThen 8 = .ok (.i2l, 1) := by decide +kernel
theorem dL_rangeThen_9 : decode cL_rangeThen 9 = .ok (.lastore, 1) := by decide +kernel
theorem dL_rangeThen_10 : decode cL_rangeThen 10 = .ok (.goto 7, 3) := by decide +kernel
theorem dL_rangeThen_13 : decode cL_rangeThen 13 = .ok (.astore 4, 2) := by decide +kernel
theorem dL_rangeThen_15 : decode cL_rangeThen 15 = .ok (.iconst 1, 1) := by decide +kernel
theorem dL_rangeThen_16 : decode cL_rangeThen 16 = .ok (.ireturn, 1) := by decide +kernel
theorem dL_rangeThen_17 : decode cL_rangeThen 17 = .ok (.iconst 0, 1) := by decide +kernel
theorem dL_rangeThen_18 : decode cL_rangeThen 18 = .ok (.ireturn, 1) := by decide +kernel
set_option maxRecDepth 20000 in
theorem ggL_cover_X4_cover : GoodIn wsL_cover wsX4_cover := goodIn_ca (goodIn_ca (goodIn_r _ [6, 7, 8, 9, 10, 5, 11, 12, 13, 14, 15, 16, 17, 18, 19, 20, 21, 22, 23, 24, 25, 26, 27, 28, 29, 30, 31, 32, 33, 34, 35, 36, 37, 38, 39, 40, 41] (by decide +kernel) (by decide +kernel)) (goodIn_sub (fun _ h => List.mem_cons_of_mem _ (List.mem_append_right _ h)) (by decide +kernel))) (goodIn_sub (fun _ h => List.mem_cons_of_mem _ (List.mem_append_left _ (List.mem_append_right _ h))) (by decide +kernel))
set_option maxRecDepth 20000 in
theorem gL_cover_X4_cover : GoodIn wsL_cover (wsV RL 46 RX4 yX4_cover wsX4_cover) := goodIn_app (goodIn_of _ (by decide +kernel)) ggL_cover_X4_cover
theorem dL_cover_0 : decode cL_cover 0 = .ok (.aload_n 2, 1) := by decide +kernel
theorem dL_cover_1 : decode cL_cover 1 = .ok (.iconst 0, 1) := by decide +kernel
theorem dL_cover_2 : decode cL_cover 2 = .ok (.aload_n 0, 1) := by decide +kernel
theorem dL_cover_3 : decode cL_cover 3 = .ok (.iload_n 1, 1) := by decide +kernel
theorem dL_cover_4 : decode cL_cover 4 = .ok (.invokevirtual 46, 3) := by decide +kernel
theorem dL_cover_7 : decode cL_cover 7 = .ok (.i2l, 1) := by decide +kernel
theorem dL_cover_8 : decode cL_cover 8 = .ok (.lastore, 1) := by decide +kernel
theorem dL_cover_9 : decode cL_cover 9 = .ok (.goto 6, 3) := by decide +kernel
theorem dL_cover_12 : decode cL_cover 12 = .ok (.astore_n 3, 1) := by decide +kernel
theorem dL_cover_13 : decode cL_cover 13 = .ok (.iconst 1, 1) := by decide +kernel
theorem dL_cover_14 : decode cL_cover 14 = .ok (.ireturn, 1) := by decide +kernel
theorem dL_cover_15 : decode cL_cover 15 = .ok (.iconst 0, 1) := by decide +kernel
theorem dL_cover_16 : decode cL_cover 16 = .ok (.ireturn, 1) := by decide +kernel
set_option maxRecDepth 20000 in
theorem ggL_coverByLetters_X4_coverByLetters : GoodIn wsL_coverByLetters wsX4_coverByLetters := goodIn_ca (goodIn_ca (goodIn_r _ [6, 7, 8, 9, 10, 5, 11, 12, 13, 14, 15, 16, 17, 18, 19, 20, 21, 22, 23, 24, 25, 26, 27, 28, 29, 30, 31, 32, 33, 34, 35, 36, 37] (by decide +kernel) (by decide +kernel)) (goodIn_sub (fun _ h => List.mem_cons_of_mem _ (List.mem_append_right _ h)) (by decide +kernel))) (goodIn_sub (fun _ h => List.mem_cons_of_mem _ (List.mem_append_left _ (List.mem_append_right _ h))) (by decide +kernel))
set_option maxRecDepth 20000 in
theorem gL_coverByLetters_X4_coverByLetters : GoodIn wsL_coverByLetters (wsV RL 49 RX4 yX4_coverByLetters wsX4_coverByLetters) := goodIn_app (goodIn_of _ (by decide +kernel)) ggL_coverByLetters_X4_coverByLetters
theorem dL_coverByLetters_0 : decode cL_coverByLetters 0 = .ok (.aload_n 2, 1) := by decide +kernel
theorem dL_coverByLetters_1 : decode cL_coverByLetters 1 = .ok (.iconst 0, 1) := by decide +kernel
theorem dL_coverByLetters_2 : decode cL_coverByLetters 2 = .ok (.aload_n 0, 1) := by decide +kernel
theorem dL_coverByLetters_3 : decode cL_coverByLetters 3 = .ok (.iload_n 1, 1) := by decide +kernel
theorem dL_coverByLetters_4 : decode cL_coverByLetters 4 = .ok (.invokevirtual 49, 3) := by decide +kernel
theorem dL_coverByLetters_7 : decode cL_coverByLetters 7 = .ok (.i2l, 1) := by decide +kernel
theorem dL_coverByLetters_8 : decode cL_coverByLetters 8 = .ok (.lastore, 1) := by decide +kernel
theorem dL_coverByLetters_9 : decode cL_coverByLetters 9 = .ok (.goto 6, 3) := by decide +kernel
theorem dL_coverByLetters_12 : decode cL_coverByLetters 12 = .ok (.astore_n 3, 1) := by decide +kernel
theorem dL_coverByLetters_13 : decode cL_coverByLetters 13 = .ok (.iconst 1, 1) := by decide +kernel
theorem dL_coverByLetters_14 : decode cL_coverByLetters 14 = .ok (.ireturn, 1) := by decide +kernel
theorem dL_coverByLetters_15 : decode cL_coverByLetters 15 = .ok (.iconst 0, 1) := by decide +kernel
theorem dL_coverByLetters_16 : decode cL_coverByLetters 16 = .ok (.ireturn, 1) := by decide +kernel
set_option maxRecDepth 20000 in
theorem ggL_pieceAt_X4_pieceAt : GoodIn wsL_pieceAt wsX4_pieceAt := goodIn_ca (goodIn_ca (goodIn_r _ [6, 7, 8, 9, 10, 11, 12, 5, 13, 14, 15, 16, 17, 18, 19, 20, 21, 22, 23, 24, 25, 26, 27, 28, 29, 30, 31, 32, 33, 34, 35, 36, 37, 38, 39, 40, 41] (by decide +kernel) (by decide +kernel)) (goodIn_sub (fun _ h => List.mem_cons_of_mem _ (List.mem_append_right _ h)) (by decide +kernel))) (goodIn_sub (fun _ h => List.mem_cons_of_mem _ (List.mem_append_left _ (List.mem_append_right _ h))) (by decide +kernel))
set_option maxRecDepth 20000 in
theorem gL_pieceAt_X4_pieceAt : GoodIn wsL_pieceAt (wsV RL 52 RX4 yX4_pieceAt wsX4_pieceAt) := goodIn_app (goodIn_of _ (by decide +kernel)) ggL_pieceAt_X4_pieceAt
theorem dL_pieceAt_0 : decode cL_pieceAt 0 = .ok (.aload_n 2, 1) := by decide +kernel
theorem dL_pieceAt_1 : decode cL_pieceAt 1 = .ok (.iconst 0, 1) := by decide +kernel
theorem dL_pieceAt_2 : decode cL_pieceAt 2 = .ok (.aload_n 0, 1) := by decide +kernel
theorem dL_pieceAt_3 : decode cL_pieceAt 3 = .ok (.iload_n 1, 1) := by decide +kernel
theorem dL_pieceAt_4 : decode cL_pieceAt 4 = .ok (.invokevirtual 52, 3) := by decide +kernel
theorem dL_pieceAt_7 : decode cL_pieceAt 7 = .ok (.i2l, 1) := by decide +kernel
theorem dL_pieceAt_8 : decode cL_pieceAt 8 = .ok (.lastore, 1) := by decide +kernel
theorem dL_pieceAt_9 : decode cL_pieceAt 9 = .ok (.goto 6, 3) := by decide +kernel
theorem dL_pieceAt_12 : decode cL_pieceAt 12 = .ok (.astore_n 3, 1) := by decide +kernel
theorem dL_pieceAt_13 : decode cL_pieceAt 13 = .ok (.iconst 1, 1) := by decide +kernel
theorem dL_pieceAt_14 : decode cL_pieceAt 14 = .ok (.ireturn, 1) := by decide +kernel
theorem dL_pieceAt_15 : decode cL_pieceAt 15 = .ok (.iconst 0, 1) := by decide +kernel
theorem dL_pieceAt_16 : decode cL_pieceAt 16 = .ok (.ireturn, 1) := by decide +kernel
set_option maxRecDepth 20000 in
theorem ggL_suggest_X4_suggest : GoodIn wsL_suggest wsX4_suggest := goodIn_ca (goodIn_ca (goodIn_ca (goodIn_ca (goodIn_r _ [8, 9, 10, 11, 12, 13, 14, 15, 16, 17, 7, 18, 19, 20, 21, 22, 23, 24, 25, 26, 27, 28, 29, 30, 31, 32, 33, 34, 35, 36, 37, 38, 39, 40, 41, 42, 43, 44, 45, 46, 47, 48, 49, 50, 51, 52, 53, 54, 55, 56, 57, 58, 59, 60, 61] (by decide +kernel) (by decide +kernel)) (goodIn_sub (fun _ h => List.mem_cons_of_mem _ (List.mem_append_left _ (List.mem_append_left _ (List.mem_append_right _ h)))) (by decide +kernel))) (goodIn_sub (fun _ h => List.mem_cons_of_mem _ (List.mem_append_left _ (List.mem_append_left _ (List.mem_append_left _ (List.mem_append_right _ h))))) (by decide +kernel))) (goodIn_sub (fun _ h => List.mem_cons_of_mem _ (List.mem_append_left _ (List.mem_append_right _ h))) (by decide +kernel))) (goodIn_sub (fun _ h => List.mem_cons_of_mem _ (List.mem_append_right _ h)) (by decide +kernel))
set_option maxRecDepth 20000 in
theorem gL_suggest_X4_suggest : GoodIn wsL_suggest (wsV RL 55 RX4 yX4_suggest wsX4_suggest) := goodIn_app (goodIn_of _ (by decide +kernel)) ggL_suggest_X4_suggest
theorem dL_suggest_0 : decode cL_suggest 0 = .ok (.aload 5, 2) := by decide +kernel
theorem dL_suggest_2 : decode cL_suggest 2 = .ok (.iconst 0, 1) := by decide +kernel
theorem dL_suggest_3 : decode cL_suggest 3 = .ok (.aload_n 0, 1) := by decide +kernel
theorem dL_suggest_4 : decode cL_suggest 4 = .ok (.iload_n 1, 1) := by decide +kernel
theorem dL_suggest_5 : decode cL_suggest 5 = .ok (.iload_n 2, 1) := by decide +kernel
theorem dL_suggest_6 : decode cL_suggest 6 = .ok (.iload_n 3, 1) := by decide +kernel
theorem dL_suggest_7 : decode cL_suggest 7 = .ok (.iload 4, 2) := by decide +kernel
theorem dL_suggest_9 : decode cL_suggest 9 = .ok (.invokevirtual 55, 3) := by decide +kernel
theorem dL_suggest_12 : decode cL_suggest 12 = .ok (.i2l, 1) := by decide +kernel
theorem dL_suggest_13 : decode cL_suggest 13 = .ok (.lastore, 1) := by decide +kernel
theorem dL_suggest_14 : decode cL_suggest 14 = .ok (.goto 15, 3) := by decide +kernel
theorem dL_suggest_17 : decode cL_suggest 17 = .ok (.astore 6, 2) := by decide +kernel
theorem dL_suggest_19 : decode cL_suggest 19 = .ok (.iconst 1, 1) := by decide +kernel
theorem dL_suggest_20 : decode cL_suggest 20 = .ok (.ireturn, 1) := by decide +kernel
theorem dL_suggest_21 : decode cL_suggest 21 = .ok (.astore 6, 2) := by decide +kernel
theorem dL_suggest_23 : decode cL_suggest 23 = .ok (.iconst 2, 1) := by decide +kernel
theorem dL_suggest_24 : decode cL_suggest 24 = .ok (.ireturn, 1) := by decide +kernel
theorem dL_suggest_25 : decode cL_suggest 25 = .ok (.astore 6, 2) := by decide +kernel
theorem dL_suggest_27 : decode cL_suggest 27 = .ok (.iconst 3, 1) := by decide +kernel
theorem dL_suggest_28 : decode cL_suggest 28 = .ok (.ireturn, 1) := by decide +kernel
theorem dL_suggest_29 : decode cL_suggest 29 = .ok (.iconst 0, 1) := by decide +kernel
theorem dL_suggest_30 : decode cL_suggest 30 = .ok (.ireturn, 1) := by decide +kernel
set_option maxRecDepth 20000 in
theorem ggL_accept_X4_accept : GoodIn wsL_accept wsX4_accept := goodIn_ca (goodIn_ca (goodIn_ca (goodIn_r _ [7, 8, 9, 10, 11, 12, 13, 14, 15, 16, 17, 6, 18, 19, 20, 21, 22, 23, 24, 25, 26, 27, 28, 29, 30, 31, 32, 33, 34, 35, 36, 37, 38, 39, 40, 41, 42, 43, 44, 45, 46, 47, 48, 49, 50, 51, 52, 53, 54, 55, 56, 57, 58, 59, 60, 61, 62, 63, 64, 65, 66, 67, 68, 69, 70, 71, 72, 73, 74, 75, 76, 77, 78, 79, 80, 81, 82, 83, 84, 85, 86, 87, 88, 89, 90, 91, 92, 93, 94, 95, 96, 97, 98, 99, 100, 101, 102, 103, 104, 105, 106, 107, 108, 109, 110, 111, 112, 113, 114, 115, 116, 117, 118, 119, 120, 121, 122, 123, 124, 125, 126, 127, 128, 129, 130, 131, 132, 133, 134, 135, 136, 137, 138, 139, 140, 141, 142, 143, 144, 145, 146, 147, 148, 149, 150, 151, 152, 153, 154, 155, 156, 157, 158, 159, 160, 161, 162, 163, 164, 165, 166] (by decide +kernel) (by decide +kernel)) (goodIn_sub (fun _ h => List.mem_cons_of_mem _ (List.mem_append_left _ (List.mem_append_right _ h))) (by decide +kernel))) (goodIn_sub (fun _ h => List.mem_cons_of_mem _ (List.mem_append_left _ (List.mem_append_left _ (List.mem_append_right _ h)))) (by decide +kernel))) (goodIn_sub (fun _ h => List.mem_cons_of_mem _ (List.mem_append_right _ h)) (by decide +kernel))
set_option maxRecDepth 20000 in
theorem gL_accept_X4_accept : GoodIn wsL_accept (wsV RL 59 RX4 yX4_accept wsX4_accept) := goodIn_app (goodIn_of _ (by decide +kernel)) ggL_accept_X4_accept
theorem dL_accept_0 : decode cL_accept 0 = .ok (.aload_n 2, 1) := by decide +kernel
theorem dL_accept_1 : decode cL_accept 1 = .ok (.iconst 0, 1) := by decide +kernel
theorem dL_accept_2 : decode cL_accept 2 = .ok (.aload_n 0, 1) := by decide +kernel
theorem dL_accept_3 : decode cL_accept 3 = .ok (.iload_n 1, 1) := by decide +kernel
theorem dL_accept_4 : decode cL_accept 4 = .ok (.invokevirtual 59, 3) := by decide +kernel
theorem dL_accept_7 : decode cL_accept 7 = .ok (.i2l, 1) := by decide +kernel
theorem dL_accept_8 : decode cL_accept 8 = .ok (.lastore, 1) := by decide +kernel
theorem dL_accept_9 : decode cL_accept 9 = .ok (.goto 9, 3) := by decide +kernel
theorem dL_accept_12 : decode cL_accept 12 = .ok (.astore_n 3, 1) := by decide +kernel
theorem dL_accept_13 : decode cL_accept 13 = .ok (.iconst 1, 1) := by decide +kernel
theorem dL_accept_14 : decode cL_accept 14 = .ok (.ireturn, 1) := by decide +kernel
theorem dL_accept_15 : decode cL_accept 15 = .ok (.astore_n 3, 1) := by decide +kernel
theorem dL_accept_16 : decode cL_accept 16 = .ok (.iconst 2, 1) := by decide +kernel
theorem dL_accept_17 : decode cL_accept 17 = .ok (.ireturn, 1) := by decide +kernel
theorem dL_accept_18 : decode cL_accept 18 = .ok (.iconst 0, 1) := by decide +kernel
theorem dL_accept_19 : decode cL_accept 19 = .ok (.ireturn, 1) := by decide +kernel
set_option maxRecDepth 20000 in
theorem ggL_reject_X4_reject : GoodIn wsL_reject wsX4_reject := goodIn_ca (goodIn_ca (goodIn_ca (goodIn_r _ [7, 8, 9, 10, 11, 6, 12, 13, 14, 15, 16, 17, 18, 19, 20, 21, 22, 23, 24, 25, 26, 27, 28, 29, 30, 31, 32, 33, 34, 35, 36, 37, 38, 39, 40] (by decide +kernel) (by decide +kernel)) (goodIn_sub (fun _ h => List.mem_cons_of_mem _ (List.mem_append_left _ (List.mem_append_left _ (List.mem_append_right _ h)))) (by decide +kernel))) (goodIn_sub (fun _ h => List.mem_cons_of_mem _ (List.mem_append_left _ (List.mem_append_right _ h))) (by decide +kernel))) (goodIn_sub (fun _ h => List.mem_cons_of_mem _ (List.mem_append_right _ h)) (by decide +kernel))
set_option maxRecDepth 20000 in
theorem gL_reject_X4_reject : GoodIn wsL_reject (wsV RL 62 RX4 yX4_reject wsX4_reject) := goodIn_app (goodIn_of _ (by decide +kernel)) ggL_reject_X4_reject
theorem dL_reject_0 : decode cL_reject 0 = .ok (.aload_n 2, 1) := by decide +kernel
theorem dL_reject_1 : decode cL_reject 1 = .ok (.iconst 0, 1) := by decide +kernel
theorem dL_reject_2 : decode cL_reject 2 = .ok (.aload_n 0, 1) := by decide +kernel
theorem dL_reject_3 : decode cL_reject 3 = .ok (.iload_n 1, 1) := by decide +kernel
theorem dL_reject_4 : decode cL_reject 4 = .ok (.invokevirtual 62, 3) := by decide +kernel
theorem dL_reject_7 : decode cL_reject 7 = .ok (.i2l, 1) := by decide +kernel
theorem dL_reject_8 : decode cL_reject 8 = .ok (.lastore, 1) := by decide +kernel
theorem dL_reject_9 : decode cL_reject 9 = .ok (.goto 9, 3) := by decide +kernel
theorem dL_reject_12 : decode cL_reject 12 = .ok (.astore_n 3, 1) := by decide +kernel
theorem dL_reject_13 : decode cL_reject 13 = .ok (.iconst 1, 1) := by decide +kernel
theorem dL_reject_14 : decode cL_reject 14 = .ok (.ireturn, 1) := by decide +kernel
theorem dL_reject_15 : decode cL_reject 15 = .ok (.astore_n 3, 1) := by decide +kernel
theorem dL_reject_16 : decode cL_reject 16 = .ok (.iconst 2, 1) := by decide +kernel
theorem dL_reject_17 : decode cL_reject 17 = .ok (.ireturn, 1) := by decide +kernel
theorem dL_reject_18 : decode cL_reject 18 = .ok (.iconst 0, 1) := by decide +kernel
theorem dL_reject_19 : decode cL_reject 19 = .ok (.ireturn, 1) := by decide +kernel
set_option maxRecDepth 20000 in
theorem ggL_stateOf_X4_stateOf : GoodIn wsL_stateOf wsX4_stateOf := goodIn_ca (goodIn_ca (goodIn_r _ [6, 7, 8, 9, 10, 5, 11, 12, 13, 14, 15, 16, 17, 18, 19, 20, 21, 22, 23, 24, 25, 26, 27, 28, 29] (by decide +kernel) (by decide +kernel)) (goodIn_sub (fun _ h => List.mem_cons_of_mem _ (List.mem_append_left _ (List.mem_append_right _ h))) (by decide +kernel))) (goodIn_sub (fun _ h => List.mem_cons_of_mem _ (List.mem_append_right _ h)) (by decide +kernel))
set_option maxRecDepth 20000 in
theorem gL_stateOf_X4_stateOf : GoodIn wsL_stateOf (wsV RL 65 RX4 yX4_stateOf wsX4_stateOf) := goodIn_app (goodIn_of _ (by decide +kernel)) ggL_stateOf_X4_stateOf
theorem dL_stateOf_0 : decode cL_stateOf 0 = .ok (.aload_n 2, 1) := by decide +kernel
theorem dL_stateOf_1 : decode cL_stateOf 1 = .ok (.iconst 0, 1) := by decide +kernel
theorem dL_stateOf_2 : decode cL_stateOf 2 = .ok (.aload_n 0, 1) := by decide +kernel
theorem dL_stateOf_3 : decode cL_stateOf 3 = .ok (.iload_n 1, 1) := by decide +kernel
theorem dL_stateOf_4 : decode cL_stateOf 4 = .ok (.invokevirtual 65, 3) := by decide +kernel
theorem dL_stateOf_7 : decode cL_stateOf 7 = .ok (.i2l, 1) := by decide +kernel
theorem dL_stateOf_8 : decode cL_stateOf 8 = .ok (.lastore, 1) := by decide +kernel
theorem dL_stateOf_9 : decode cL_stateOf 9 = .ok (.goto 6, 3) := by decide +kernel
theorem dL_stateOf_12 : decode cL_stateOf 12 = .ok (.astore_n 3, 1) := by decide +kernel
theorem dL_stateOf_13 : decode cL_stateOf 13 = .ok (.iconst 1, 1) := by decide +kernel
theorem dL_stateOf_14 : decode cL_stateOf 14 = .ok (.ireturn, 1) := by decide +kernel
theorem dL_stateOf_15 : decode cL_stateOf 15 = .ok (.iconst 0, 1) := by decide +kernel
theorem dL_stateOf_16 : decode cL_stateOf 16 = .ok (.ireturn, 1) := by decide +kernel
set_option maxRecDepth 20000 in
theorem ggL_overlaps_X4_overlaps : GoodIn wsL_overlaps wsX4_overlaps := goodIn_ca (goodIn_ca (goodIn_r _ [6, 7, 8, 9, 5, 10, 11, 12, 13, 14, 15, 16, 17, 18, 19, 20, 21, 22, 23, 24, 25, 26, 27, 28, 29, 30, 31, 32, 33, 34, 35, 36, 37, 38, 39, 40, 41, 42, 43, 44, 45, 46, 47, 48, 49] (by decide +kernel) (by decide +kernel)) (goodIn_sub (fun _ h => List.mem_cons_of_mem _ (List.mem_append_right _ h)) (by decide +kernel))) (goodIn_sub (fun _ h => List.mem_cons_of_mem _ (List.mem_append_left _ (List.mem_append_right _ h))) (by decide +kernel))
set_option maxRecDepth 20000 in
theorem gL_overlaps_X4_overlaps : GoodIn wsL_overlaps (wsV RL 68 RX4 yX4_overlaps wsX4_overlaps) := goodIn_app (goodIn_of _ (by decide +kernel)) ggL_overlaps_X4_overlaps
theorem dL_overlaps_0 : decode cL_overlaps 0 = .ok (.aload_n 2, 1) := by decide +kernel
theorem dL_overlaps_1 : decode cL_overlaps 1 = .ok (.iconst 0, 1) := by decide +kernel
theorem dL_overlaps_2 : decode cL_overlaps 2 = .ok (.aload_n 0, 1) := by decide +kernel
theorem dL_overlaps_3 : decode cL_overlaps 3 = .ok (.iload_n 1, 1) := by decide +kernel
theorem dL_overlaps_4 : decode cL_overlaps 4 = .ok (.invokevirtual 68, 3) := by decide +kernel
theorem dL_overlaps_7 : decode cL_overlaps 7 = .ok (.i2l, 1) := by decide +kernel
theorem dL_overlaps_8 : decode cL_overlaps 8 = .ok (.lastore, 1) := by decide +kernel
theorem dL_overlaps_9 : decode cL_overlaps 9 = .ok (.goto 6, 3) := by decide +kernel
theorem dL_overlaps_12 : decode cL_overlaps 12 = .ok (.astore_n 3, 1) := by decide +kernel
theorem dL_overlaps_13 : decode cL_overlaps 13 = .ok (.iconst 1, 1) := by decide +kernel
theorem dL_overlaps_14 : decode cL_overlaps 14 = .ok (.ireturn, 1) := by decide +kernel
theorem dL_overlaps_15 : decode cL_overlaps 15 = .ok (.iconst 0, 1) := by decide +kernel
theorem dL_overlaps_16 : decode cL_overlaps 16 = .ok (.ireturn, 1) := by decide +kernel

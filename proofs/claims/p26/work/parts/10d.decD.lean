set_option maxRecDepth 20000 in
theorem ggX4_init_X3_init : GoodIn wsX4_init wsX3_init := goodIn_r _ [29, 30, 2, 3, 20, 31, 32, 33, 52, 53, 54] (by decide +kernel) (by decide +kernel)
set_option maxRecDepth 20000 in
theorem gX4_init_X3_init_n9 : GoodIn wsX4_init (wsX3_init) := ggX4_init_X3_init
set_option maxRecDepth 20000 in
theorem ggX4_init_X2_init : GoodIn wsX4_init wsX2_init := goodIn_r _ [35, 36, 2, 3, 20, 37, 38, 39, 40, 66, 67, 68, 69] (by decide +kernel) (by decide +kernel)
set_option maxRecDepth 20000 in
theorem gX4_init_X2_init_n18 : GoodIn wsX4_init (wsX2_init) := ggX4_init_X2_init
set_option maxRecDepth 20000 in
theorem ggX4_init_X1_init : GoodIn wsX4_init wsX1_init := goodIn_r _ [42, 43, 2, 3, 20, 44, 45, 46, 47, 70, 71, 72, 73] (by decide +kernel) (by decide +kernel)
set_option maxRecDepth 20000 in
theorem gX4_init_X1_init_n25 : GoodIn wsX4_init (wsX1_init) := ggX4_init_X1_init
set_option maxRecDepth 20000 in
theorem ggX4_init_X0_init : GoodIn wsX4_init wsX0_init := goodIn_r _ [49, 50, 2, 3, 20, 51, 74] (by decide +kernel) (by decide +kernel)
set_option maxRecDepth 20000 in
theorem gX4_init_X0_init_n32 : GoodIn wsX4_init (wsX0_init) := ggX4_init_X0_init
theorem dX4_init_0 : decode cX4_init 0 = .ok (.aload_n 0, 1) := by decide +kernel
theorem dX4_init_1 : decode cX4_init 1 = .ok (.invokespecial 1, 3) := by decide +kernel
theorem dX4_init_4 : decode cX4_init 4 = .ok (.aload_n 0, 1) := by decide +kernel
theorem dX4_init_5 : decode cX4_init 5 = .ok (.new 7, 3) := by decide +kernel
theorem dX4_init_8 : decode cX4_init 8 = .ok (.dup, 1) := by decide +kernel
theorem dX4_init_9 : decode cX4_init 9 = .ok (.invokespecial 9, 3) := by decide +kernel
theorem dX4_init_12 : decode cX4_init 12 = .ok (.putfield 10, 3) := by decide +kernel
theorem dX4_init_15 : decode cX4_init 15 = .ok (.aload_n 0, 1) := by decide +kernel
theorem dX4_init_16 : decode cX4_init 16 = .ok (.new 16, 3) := by decide +kernel
theorem dX4_init_19 : decode cX4_init 19 = .ok (.dup, 1) := by decide +kernel
theorem dX4_init_20 : decode cX4_init 20 = .ok (.invokespecial 18, 3) := by decide +kernel
theorem dX4_init_23 : decode cX4_init 23 = .ok (.putfield 19, 3) := by decide +kernel
theorem dX4_init_26 : decode cX4_init 26 = .ok (.aload_n 0, 1) := by decide +kernel
theorem dX4_init_27 : decode cX4_init 27 = .ok (.new 23, 3) := by decide +kernel
theorem dX4_init_30 : decode cX4_init 30 = .ok (.dup, 1) := by decide +kernel
theorem dX4_init_31 : decode cX4_init 31 = .ok (.invokespecial 25, 3) := by decide +kernel
theorem dX4_init_34 : decode cX4_init 34 = .ok (.putfield 26, 3) := by decide +kernel
theorem dX4_init_37 : decode cX4_init 37 = .ok (.aload_n 0, 1) := by decide +kernel
theorem dX4_init_38 : decode cX4_init 38 = .ok (.new 30, 3) := by decide +kernel
theorem dX4_init_41 : decode cX4_init 41 = .ok (.dup, 1) := by decide +kernel
theorem dX4_init_42 : decode cX4_init 42 = .ok (.invokespecial 32, 3) := by decide +kernel
theorem dX4_init_45 : decode cX4_init 45 = .ok (.putfield 33, 3) := by decide +kernel
theorem dX4_init_48 : decode cX4_init 48 = .ok (.aload_n 0, 1) := by decide +kernel
theorem dX4_init_49 : decode cX4_init 49 = .ok (.bipush 12, 2) := by decide +kernel
theorem dX4_init_51 : decode cX4_init 51 = .ok (.newarray .int, 2) := by decide +kernel
theorem dX4_init_53 : decode cX4_init 53 = .ok (.putfield 37, 3) := by decide +kernel
theorem dX4_init_56 : decode cX4_init 56 = .ok (.aload_n 0, 1) := by decide +kernel
theorem dX4_init_57 : decode cX4_init 57 = .ok (.iconst 0, 1) := by decide +kernel
theorem dX4_init_58 : decode cX4_init 58 = .ok (.putfield 41, 3) := by decide +kernel
theorem dX4_init_61 : decode cX4_init 61 = .ok (.aload_n 0, 1) := by decide +kernel
theorem dX4_init_62 : decode cX4_init 62 = .ok (.iconst 0, 1) := by decide +kernel
theorem dX4_init_63 : decode cX4_init 63 = .ok (.putfield 45, 3) := by decide +kernel
theorem dX4_init_66 : decode cX4_init 66 = .ok (.aload_n 0, 1) := by decide +kernel
theorem dX4_init_67 : decode cX4_init 67 = .ok (.new 16, 3) := by decide +kernel
theorem dX4_init_70 : decode cX4_init 70 = .ok (.dup, 1) := by decide +kernel
theorem dX4_init_71 : decode cX4_init 71 = .ok (.invokespecial 18, 3) := by decide +kernel
theorem dX4_init_74 : decode cX4_init 74 = .ok (.putfield 48, 3) := by decide +kernel
theorem dX4_init_77 : decode cX4_init 77 = .ok (.aload_n 0, 1) := by decide +kernel
theorem dX4_init_78 : decode cX4_init 78 = .ok (.bipush 10, 2) := by decide +kernel
theorem dX4_init_80 : decode cX4_init 80 = .ok (.newarray .int, 2) := by decide +kernel
theorem dX4_init_82 : decode cX4_init 82 = .ok (.putfield 51, 3) := by decide +kernel
theorem dX4_init_85 : decode cX4_init 85 = .ok (.aload_n 0, 1) := by decide +kernel
theorem dX4_init_86 : decode cX4_init 86 = .ok (.bipush 10, 2) := by decide +kernel
theorem dX4_init_88 : decode cX4_init 88 = .ok (.newarray .int, 2) := by decide +kernel
theorem dX4_init_90 : decode cX4_init 90 = .ok (.putfield 54, 3) := by decide +kernel
theorem dX4_init_93 : decode cX4_init 93 = .ok (.aload_n 0, 1) := by decide +kernel
theorem dX4_init_94 : decode cX4_init 94 = .ok (.bipush 10, 2) := by decide +kernel
theorem dX4_init_96 : decode cX4_init 96 = .ok (.newarray .int, 2) := by decide +kernel
theorem dX4_init_98 : decode cX4_init 98 = .ok (.putfield 57, 3) := by decide +kernel
theorem dX4_init_101 : decode cX4_init 101 = .ok (.return_, 1) := by decide +kernel
set_option maxRecDepth 20000 in
theorem ggX4_insert_X4_checkPlace : GoodIn wsX4_insert wsX4_checkPlace := goodIn_ca (goodIn_r _ [6, 7, 8, 1, 90, 91, 92, 93, 94, 95, 96, 97, 98, 99, 100, 101, 102, 103] (by decide +kernel) (by decide +kernel)) (goodIn_sub (fun _ h => List.mem_cons_of_mem _ (List.mem_append_left _ (List.mem_append_left _ (List.mem_append_right _ h)))) (by decide +kernel))
set_option maxRecDepth 20000 in
theorem gX4_insert_X4_checkPlace : GoodIn wsX4_insert (wsV RX4 60 RX4 yX4_checkPlace wsX4_checkPlace) := goodIn_app (goodIn_of _ (by decide +kernel)) ggX4_insert_X4_checkPlace
set_option maxRecDepth 20000 in
theorem ggX4_insert_X4_checkLetter : GoodIn wsX4_insert wsX4_checkLetter := goodIn_ca (goodIn_r _ [12, 13, 14, 15, 5, 16, 17, 18] (by decide +kernel) (by decide +kernel)) (goodIn_sub (fun _ h => List.mem_cons_of_mem _ (List.mem_append_left _ (List.mem_append_right _ h))) (by decide +kernel))
set_option maxRecDepth 20000 in
theorem gX4_insert_X4_checkLetter : GoodIn wsX4_insert (wsV RX4 64 RX4 yX4_checkLetter wsX4_checkLetter) := goodIn_app (goodIn_of _ (by decide +kernel)) ggX4_insert_X4_checkLetter
set_option maxRecDepth 20000 in
theorem ggX4_insert_X4_checkAmong : GoodIn wsX4_insert wsX4_checkAmong := goodIn_ca (goodIn_r _ [16, 17, 18] (by decide +kernel) (by decide +kernel)) (goodIn_sub (fun _ h => List.mem_cons_of_mem _ (List.mem_append_left _ (List.mem_append_right _ h))) (by decide +kernel))
set_option maxRecDepth 20000 in
theorem gX4_insert_X4_checkAmong : GoodIn wsX4_insert (wsV RX4 67 RX4 yX4_checkAmong wsX4_checkAmong) := goodIn_app (goodIn_of _ (by decide +kernel)) ggX4_insert_X4_checkAmong
set_option maxRecDepth 20000 in
theorem ggX4_insert_X4_checkRoom : GoodIn wsX4_insert wsX4_checkRoom := goodIn_ca (goodIn_r _ [22, 23, 24, 1, 25, 90, 91, 92, 93, 94, 95, 96, 97, 98, 99, 100, 101, 102, 103] (by decide +kernel) (by decide +kernel)) (goodIn_sub (fun _ h => List.mem_cons_of_mem _ (List.mem_append_right _ h)) (by decide +kernel))
set_option maxRecDepth 20000 in
theorem gX4_insert_X4_checkRoom : GoodIn wsX4_insert (wsV RX4 71 RX4 yX4_checkRoom wsX4_checkRoom) := goodIn_app (goodIn_of _ (by decide +kernel)) ggX4_insert_X4_checkRoom
set_option maxRecDepth 20000 in
theorem ggX4_insert_X4_putLettersIn : GoodIn wsX4_insert wsX4_putLettersIn := goodIn_r _ [29, 30, 31, 1, 32, 33, 34, 5, 35, 36, 25, 37, 38, 39, 40, 41, 42, 43, 44, 45, 46, 47, 48, 49, 50, 51, 52, 53, 54, 55, 56, 57, 58, 59, 60, 61, 62, 63, 64, 65, 66, 67, 68, 69, 70, 71, 72, 73, 74, 75, 76, 77, 78, 79, 80, 81, 82, 83, 84, 85, 86, 87, 88, 89, 90, 91, 92, 93, 94, 95, 96, 97, 98, 99, 100, 104, 105, 106, 107, 108, 101, 102, 103] (by decide +kernel) (by decide +kernel)
set_option maxRecDepth 20000 in
theorem gX4_insert_X4_putLettersIn : GoodIn wsX4_insert (wsV RX4 75 RX4 yX4_putLettersIn wsX4_putLettersIn) := goodIn_app (goodIn_of _ (by decide +kernel)) ggX4_insert_X4_putLettersIn
theorem dX4_insert_0 : decode cX4_insert 0 = .ok (.aload_n 0, 1) := by decide +kernel
theorem dX4_insert_1 : decode cX4_insert 1 = .ok (.iload_n 1, 1) := by decide +kernel
theorem dX4_insert_2 : decode cX4_insert 2 = .ok (.invokevirtual 60, 3) := by decide +kernel
theorem dX4_insert_5 : decode cX4_insert 5 = .ok (.aload_n 0, 1) := by decide +kernel
theorem dX4_insert_6 : decode cX4_insert 6 = .ok (.iload_n 2, 1) := by decide +kernel
theorem dX4_insert_7 : decode cX4_insert 7 = .ok (.invokevirtual 64, 3) := by decide +kernel
theorem dX4_insert_10 : decode cX4_insert 10 = .ok (.aload_n 0, 1) := by decide +kernel
theorem dX4_insert_11 : decode cX4_insert 11 = .ok (.iload_n 3, 1) := by decide +kernel
theorem dX4_insert_12 : decode cX4_insert 12 = .ok (.iconst 1, 1) := by decide +kernel
theorem dX4_insert_13 : decode cX4_insert 13 = .ok (.bipush 10, 2) := by decide +kernel
theorem dX4_insert_15 : decode cX4_insert 15 = .ok (.invokevirtual 67, 3) := by decide +kernel
theorem dX4_insert_18 : decode cX4_insert 18 = .ok (.aload_n 0, 1) := by decide +kernel
theorem dX4_insert_19 : decode cX4_insert 19 = .ok (.iload_n 3, 1) := by decide +kernel
theorem dX4_insert_20 : decode cX4_insert 20 = .ok (.iconst 1, 1) := by decide +kernel
theorem dX4_insert_21 : decode cX4_insert 21 = .ok (.invokevirtual 71, 3) := by decide +kernel
theorem dX4_insert_24 : decode cX4_insert 24 = .ok (.aload_n 0, 1) := by decide +kernel
theorem dX4_insert_25 : decode cX4_insert 25 = .ok (.iload_n 1, 1) := by decide +kernel
theorem dX4_insert_26 : decode cX4_insert 26 = .ok (.iload_n 2, 1) := by decide +kernel
theorem dX4_insert_27 : decode cX4_insert 27 = .ok (.iload_n 3, 1) := by decide +kernel
theorem dX4_insert_28 : decode cX4_insert 28 = .ok (.invokevirtual 75, 3) := by decide +kernel
theorem dX4_insert_31 : decode cX4_insert 31 = .ok (.aload_n 0, 1) := by decide +kernel
theorem dX4_insert_32 : decode cX4_insert 32 = .ok (.getfield 10, 3) := by decide +kernel
theorem dX4_insert_35 : decode cX4_insert 35 = .ok (.getfield 78, 3) := by decide +kernel
theorem dX4_insert_38 : decode cX4_insert 38 = .ok (.ireturn, 1) := by decide +kernel
set_option maxRecDepth 20000 in
theorem ggX4_remove_X4_checkPlace : GoodIn wsX4_remove wsX4_checkPlace := goodIn_ca (goodIn_r _ [6, 7, 8, 1, 89, 90, 91, 92, 93, 94, 95, 96, 97, 98, 99, 100, 101, 102] (by decide +kernel) (by decide +kernel)) (goodIn_sub (fun _ h => List.mem_cons_of_mem _ (List.mem_append_left _ (List.mem_append_left _ (List.mem_append_right _ h)))) (by decide +kernel))
set_option maxRecDepth 20000 in
theorem gX4_remove_X4_checkPlace : GoodIn wsX4_remove (wsV RX4 60 RX4 yX4_checkPlace wsX4_checkPlace) := goodIn_app (goodIn_of _ (by decide +kernel)) ggX4_remove_X4_checkPlace
set_option maxRecDepth 20000 in
theorem ggX4_remove_X4_checkAmong : GoodIn wsX4_remove wsX4_checkAmong := goodIn_ca (goodIn_r _ [12, 13, 14] (by decide +kernel) (by decide +kernel)) (goodIn_sub (fun _ h => List.mem_cons_of_mem _ (List.mem_append_left _ (List.mem_append_right _ h))) (by decide +kernel))
set_option maxRecDepth 20000 in
theorem gX4_remove_X4_checkAmong : GoodIn wsX4_remove (wsV RX4 67 RX4 yX4_checkAmong wsX4_checkAmong) := goodIn_app (goodIn_of _ (by decide +kernel)) ggX4_remove_X4_checkAmong
set_option maxRecDepth 20000 in
theorem ggX4_remove_X4_checkRoom : GoodIn wsX4_remove wsX4_checkRoom := goodIn_ca (goodIn_r _ [18, 19, 20, 1, 21, 89, 90, 91, 92, 93, 94, 95, 96, 97, 98, 99, 100, 101, 102] (by decide +kernel) (by decide +kernel)) (goodIn_sub (fun _ h => List.mem_cons_of_mem _ (List.mem_append_right _ h)) (by decide +kernel))
set_option maxRecDepth 20000 in
theorem gX4_remove_X4_checkRoom : GoodIn wsX4_remove (wsV RX4 71 RX4 yX4_checkRoom wsX4_checkRoom) := goodIn_app (goodIn_of _ (by decide +kernel)) ggX4_remove_X4_checkRoom
set_option maxRecDepth 20000 in
theorem ggX4_remove_X4_takeLettersOut : GoodIn wsX4_remove wsX4_takeLettersOut := goodIn_r _ [25, 26, 27, 1, 28, 29, 30, 5, 31, 32, 21, 33, 34, 35, 36, 37, 38, 39, 40, 41, 42, 43, 44, 45, 46, 47, 48, 49, 50, 51, 52, 53, 54, 55, 56, 57, 58, 59, 60, 61, 62, 63, 64, 65, 66, 67, 68, 69, 70, 71, 72, 73, 74, 75, 76, 77, 78, 79, 80, 81, 82, 83, 84, 85, 86, 87, 88, 89, 90, 91, 92, 93, 94, 95, 96, 97, 98, 99, 103, 104, 105, 106, 107, 100, 101, 102] (by decide +kernel) (by decide +kernel)
set_option maxRecDepth 20000 in
theorem gX4_remove_X4_takeLettersOut : GoodIn wsX4_remove (wsV RX4 81 RX4 yX4_takeLettersOut wsX4_takeLettersOut) := goodIn_app (goodIn_of _ (by decide +kernel)) ggX4_remove_X4_takeLettersOut
theorem dX4_remove_0 : decode cX4_remove 0 = .ok (.aload_n 0, 1) := by decide +kernel
theorem dX4_remove_1 : decode cX4_remove 1 = .ok (.iload_n 1, 1) := by decide +kernel
theorem dX4_remove_2 : decode cX4_remove 2 = .ok (.invokevirtual 60, 3) := by decide +kernel
theorem dX4_remove_5 : decode cX4_remove 5 = .ok (.aload_n 0, 1) := by decide +kernel
theorem dX4_remove_6 : decode cX4_remove 6 = .ok (.iload_n 2, 1) := by decide +kernel
theorem dX4_remove_7 : decode cX4_remove 7 = .ok (.iconst 1, 1) := by decide +kernel
theorem dX4_remove_8 : decode cX4_remove 8 = .ok (.aload_n 0, 1) := by decide +kernel
theorem dX4_remove_9 : decode cX4_remove 9 = .ok (.getfield 10, 3) := by decide +kernel
theorem dX4_remove_12 : decode cX4_remove 12 = .ok (.getfield 78, 3) := by decide +kernel
theorem dX4_remove_15 : decode cX4_remove 15 = .ok (.iload_n 1, 1) := by decide +kernel
theorem dX4_remove_16 : decode cX4_remove 16 = .ok (.isub, 1) := by decide +kernel
theorem dX4_remove_17 : decode cX4_remove 17 = .ok (.invokevirtual 67, 3) := by decide +kernel
theorem dX4_remove_20 : decode cX4_remove 20 = .ok (.aload_n 0, 1) := by decide +kernel
theorem dX4_remove_21 : decode cX4_remove 21 = .ok (.iload_n 2, 1) := by decide +kernel
theorem dX4_remove_22 : decode cX4_remove 22 = .ok (.ineg, 1) := by decide +kernel
theorem dX4_remove_23 : decode cX4_remove 23 = .ok (.iconst 1, 1) := by decide +kernel
theorem dX4_remove_24 : decode cX4_remove 24 = .ok (.invokevirtual 71, 3) := by decide +kernel
theorem dX4_remove_27 : decode cX4_remove 27 = .ok (.aload_n 0, 1) := by decide +kernel
theorem dX4_remove_28 : decode cX4_remove 28 = .ok (.iload_n 1, 1) := by decide +kernel
theorem dX4_remove_29 : decode cX4_remove 29 = .ok (.iload_n 2, 1) := by decide +kernel
theorem dX4_remove_30 : decode cX4_remove 30 = .ok (.invokevirtual 81, 3) := by decide +kernel
theorem dX4_remove_33 : decode cX4_remove 33 = .ok (.ireturn, 1) := by decide +kernel
theorem dX4_length_0 : decode cX4_length 0 = .ok (.aload_n 0, 1) := by decide +kernel
theorem dX4_length_1 : decode cX4_length 1 = .ok (.getfield 10, 3) := by decide +kernel
theorem dX4_length_4 : decode cX4_length 4 = .ok (.getfield 78, 3) := by decide +kernel
theorem dX4_length_7 : decode cX4_length 7 = .ok (.ireturn, 1) := by decide +kernel
set_option maxRecDepth 20000 in
theorem ggX4_letterAt_X4_checkPlace : GoodIn wsX4_letterAt wsX4_checkPlace := goodIn_ca (goodIn_r _ [6, 7, 8, 1, 19, 20, 21, 22, 23, 24, 25, 26, 27, 28, 29, 30, 31, 32] (by decide +kernel) (by decide +kernel)) (goodIn_sub (fun _ h => List.mem_cons_of_mem _ (List.mem_append_right _ h)) (by decide +kernel))
set_option maxRecDepth 20000 in
theorem gX4_letterAt_X4_checkPlace : GoodIn wsX4_letterAt (wsV RX4 60 RX4 yX4_checkPlace wsX4_checkPlace) := goodIn_app (goodIn_of _ (by decide +kernel)) ggX4_letterAt_X4_checkPlace
set_option maxRecDepth 20000 in
theorem ggX4_letterAt_X3_letterBehind : GoodIn wsX4_letterAt wsX3_letterBehind := goodIn_r _ [12, 13, 14, 15, 16, 10, 17, 18, 30, 31, 32] (by decide +kernel) (by decide +kernel)
set_option maxRecDepth 20000 in
theorem gX4_letterAt_X3_letterBehind_n85 : GoodIn wsX4_letterAt (wsX3_letterBehind) := ggX4_letterAt_X3_letterBehind
theorem dX4_letterAt_0 : decode cX4_letterAt 0 = .ok (.aload_n 0, 1) := by decide +kernel
theorem dX4_letterAt_1 : decode cX4_letterAt 1 = .ok (.iload_n 1, 1) := by decide +kernel
theorem dX4_letterAt_2 : decode cX4_letterAt 2 = .ok (.invokevirtual 60, 3) := by decide +kernel
theorem dX4_letterAt_5 : decode cX4_letterAt 5 = .ok (.aload_n 0, 1) := by decide +kernel
theorem dX4_letterAt_6 : decode cX4_letterAt 6 = .ok (.getfield 10, 3) := by decide +kernel
theorem dX4_letterAt_9 : decode cX4_letterAt 9 = .ok (.iload_n 1, 1) := by decide +kernel
theorem dX4_letterAt_10 : decode cX4_letterAt 10 = .ok (.invokevirtual 85, 3) := by decide +kernel
theorem dX4_letterAt_13 : decode cX4_letterAt 13 = .ok (.ireturn, 1) := by decide +kernel
theorem dX4_version_0 : decode cX4_version 0 = .ok (.aload_n 0, 1) := by decide +kernel
theorem dX4_version_1 : decode cX4_version 1 = .ok (.getfield 45, 3) := by decide +kernel
theorem dX4_version_4 : decode cX4_version 4 = .ok (.ireturn, 1) := by decide +kernel
set_option maxRecDepth 20000 in
theorem ggX4_comment_X4_checkRange : GoodIn wsX4_comment wsX4_checkRange := goodIn_ca (goodIn_ca (goodIn_r _ [11, 12, 13, 14, 15, 16, 10, 17, 18, 19, 5, 61, 62, 63, 64, 65, 66, 67, 68, 69, 70, 71, 76, 77, 78] (by decide +kernel) (by decide +kernel)) (goodIn_sub (fun _ h => List.mem_cons_of_mem _ (List.mem_append_left _ (List.mem_append_right _ h))) (by decide +kernel))) (goodIn_sub (fun _ h => List.mem_cons_of_mem _ (List.mem_append_right _ h)) (by decide +kernel))
set_option maxRecDepth 20000 in
theorem gX4_comment_X4_checkRange : GoodIn wsX4_comment (wsV RX4 89 RX4 yX4_checkRange wsX4_checkRange) := goodIn_app (goodIn_of _ (by decide +kernel)) ggX4_comment_X4_checkRange
set_option maxRecDepth 20000 in
theorem ggX4_comment_X4_checkAmong : GoodIn wsX4_comment wsX4_checkAmong := goodIn_ca (goodIn_r _ [23, 12, 13] (by decide +kernel) (by decide +kernel)) (goodIn_sub (fun _ h => List.mem_cons_of_mem _ (List.mem_append_left _ (List.mem_append_right _ h))) (by decide +kernel))
set_option maxRecDepth 20000 in
theorem gX4_comment_X4_checkAmong : GoodIn wsX4_comment (wsV RX4 67 RX4 yX4_checkAmong wsX4_checkAmong) := goodIn_app (goodIn_of _ (by decide +kernel)) ggX4_comment_X4_checkAmong
set_option maxRecDepth 20000 in
theorem ggX4_comment_X2_add : GoodIn wsX4_comment wsX2_add := goodIn_r _ [27, 28, 29, 30, 31, 72, 73, 74, 75] (by decide +kernel) (by decide +kernel)
set_option maxRecDepth 20000 in
theorem gX4_comment_X2_add_n102 : GoodIn wsX4_comment (wsX2_add) := ggX4_comment_X2_add
set_option maxRecDepth 20000 in
theorem ggX4_comment_X1_keep : GoodIn wsX4_comment wsX1_keep := goodIn_r _ [35, 36, 37, 38, 39, 40, 41, 42, 43, 44, 45, 46, 47, 48, 49, 50, 51, 52, 53, 79, 80, 81, 82, 76, 77, 78] (by decide +kernel) (by decide +kernel)
set_option maxRecDepth 20000 in
theorem gX4_comment_X1_keep_n106 : GoodIn wsX4_comment (wsX1_keep) := ggX4_comment_X1_keep
set_option maxRecDepth 20000 in
theorem ggX4_comment_X4_bit : GoodIn wsX4_comment wsX4_bit := goodIn_r _ [56] (by decide +kernel) (by decide +kernel)
set_option maxRecDepth 20000 in
theorem gX4_comment_X4_bit : GoodIn wsX4_comment (va_wsS RX4 110 yX4_bit wsX4_bit) := goodIn_app (goodIn_of _ (by decide +kernel)) ggX4_comment_X4_bit
set_option maxRecDepth 20000 in
theorem ggX4_comment_X3_mark : GoodIn wsX4_comment wsX3_mark := goodIn_r _ [59, 60, 76, 77, 78] (by decide +kernel) (by decide +kernel)
set_option maxRecDepth 20000 in
theorem gX4_comment_X3_mark_n113 : GoodIn wsX4_comment (wsX3_mark) := ggX4_comment_X3_mark
theorem dX4_comment_0 : decode cX4_comment 0 = .ok (.aload_n 0, 1) := by decide +kernel
theorem dX4_comment_1 : decode cX4_comment 1 = .ok (.iload_n 1, 1) := by decide +kernel
theorem dX4_comment_2 : decode cX4_comment 2 = .ok (.iload_n 2, 1) := by decide +kernel
theorem dX4_comment_3 : decode cX4_comment 3 = .ok (.invokevirtual 89, 3) := by decide +kernel
theorem dX4_comment_6 : decode cX4_comment 6 = .ok (.aload_n 0, 1) := by decide +kernel
theorem dX4_comment_7 : decode cX4_comment 7 = .ok (.iload_n 3, 1) := by decide +kernel
theorem dX4_comment_8 : decode cX4_comment 8 = .ok (.iconst 0, 1) := by decide +kernel
theorem dX4_comment_9 : decode cX4_comment 9 = .ok (.iconst 3, 1) := by decide +kernel
theorem dX4_comment_10 : decode cX4_comment 10 = .ok (.invokevirtual 67, 3) := by decide +kernel
theorem dX4_comment_13 : decode cX4_comment 13 = .ok (.aload_n 0, 1) := by decide +kernel
theorem dX4_comment_14 : decode cX4_comment 14 = .ok (.getfield 19, 3) := by decide +kernel
theorem dX4_comment_17 : decode cX4_comment 17 = .ok (.getfield 92, 3) := by decide +kernel
theorem dX4_comment_20 : decode cX4_comment 20 = .ok (.bipush 12, 2) := by decide +kernel
theorem dX4_comment_22 : decode cX4_comment 22 = .ok (.if_icmp .lt 13, 3) := by decide +kernel
theorem dX4_comment_25 : decode cX4_comment 25 = .ok (.new 95, 3) := by decide +kernel
theorem dX4_comment_28 : decode cX4_comment 28 = .ok (.dup, 1) := by decide +kernel
theorem dX4_comment_29 : decode cX4_comment 29 = .ok (.ldc 97, 2) := by decide +kernel
theorem dX4_comment_31 : decode cX4_comment 31 = .ok (.invokespecial 99, 3) := by decide +kernel
theorem dX4_comment_34 : decode cX4_comment 34 = .ok (.athrow, 1) := by decide +kernel
theorem dX4_comment_35 : decode cX4_comment 35 = .ok (.aload_n 0, 1) := by decide +kernel
theorem dX4_comment_36 : decode cX4_comment 36 = .ok (.getfield 19, 3) := by decide +kernel
theorem dX4_comment_39 : decode cX4_comment 39 = .ok (.iload_n 1, 1) := by decide +kernel
theorem dX4_comment_40 : decode cX4_comment 40 = .ok (.iload_n 2, 1) := by decide +kernel
theorem dX4_comment_41 : decode cX4_comment 41 = .ok (.iload_n 3, 1) := by decide +kernel
theorem dX4_comment_42 : decode cX4_comment 42 = .ok (.invokevirtual 102, 3) := by decide +kernel
theorem dX4_comment_45 : decode cX4_comment 45 = .ok (.istore 4, 2) := by decide +kernel
theorem dX4_comment_47 : decode cX4_comment 47 = .ok (.aload_n 0, 1) := by decide +kernel
theorem dX4_comment_48 : decode cX4_comment 48 = .ok (.getfield 26, 3) := by decide +kernel
theorem dX4_comment_51 : decode cX4_comment 51 = .ok (.iload 4, 2) := by decide +kernel
theorem dX4_comment_53 : decode cX4_comment 53 = .ok (.aload_n 0, 1) := by decide +kernel
theorem dX4_comment_54 : decode cX4_comment 54 = .ok (.getfield 10, 3) := by decide +kernel
theorem dX4_comment_57 : decode cX4_comment 57 = .ok (.iload_n 1, 1) := by decide +kernel
theorem dX4_comment_58 : decode cX4_comment 58 = .ok (.iload_n 2, 1) := by decide +kernel
theorem dX4_comment_59 : decode cX4_comment 59 = .ok (.invokevirtual 106, 3) := by decide +kernel
theorem dX4_comment_62 : decode cX4_comment 62 = .ok (.aload_n 0, 1) := by decide +kernel
theorem dX4_comment_63 : decode cX4_comment 63 = .ok (.getfield 10, 3) := by decide +kernel
theorem dX4_comment_66 : decode cX4_comment 66 = .ok (.iload_n 1, 1) := by decide +kernel
theorem dX4_comment_67 : decode cX4_comment 67 = .ok (.iload_n 2, 1) := by decide +kernel
theorem dX4_comment_68 : decode cX4_comment 68 = .ok (.iload 4, 2) := by decide +kernel
theorem dX4_comment_70 : decode cX4_comment 70 = .ok (.invokestatic 110, 3) := by decide +kernel
theorem dX4_comment_73 : decode cX4_comment 73 = .ok (.invokevirtual 113, 3) := by decide +kernel
theorem dX4_comment_76 : decode cX4_comment 76 = .ok (.aload_n 0, 1) := by decide +kernel
theorem dX4_comment_77 : decode cX4_comment 77 = .ok (.dup, 1) := by decide +kernel
theorem dX4_comment_78 : decode cX4_comment 78 = .ok (.getfield 41, 3) := by decide +kernel
theorem dX4_comment_81 : decode cX4_comment 81 = .ok (.iload 4, 2) := by decide +kernel
theorem dX4_comment_83 : decode cX4_comment 83 = .ok (.invokestatic 110, 3) := by decide +kernel
theorem dX4_comment_86 : decode cX4_comment 86 = .ok (.ior, 1) := by decide +kernel
theorem dX4_comment_87 : decode cX4_comment 87 = .ok (.putfield 41, 3) := by decide +kernel
theorem dX4_comment_90 : decode cX4_comment 90 = .ok (.iload 4, 2) := by decide +kernel
theorem dX4_comment_92 : decode cX4_comment 92 = .ok (.ireturn, 1) := by decide +kernel
set_option maxRecDepth 20000 in
theorem ggX4_answer_X4_checkComment : GoodIn wsX4_answer wsX4_checkComment := goodIn_ca (goodIn_r _ [7, 8, 9, 10, 14, 15, 16, 17, 18, 19, 20, 21, 22, 23, 24, 25, 26, 27, 28] (by decide +kernel) (by decide +kernel)) (goodIn_sub (fun _ h => List.mem_cons_of_mem _ (List.mem_append_right _ h)) (by decide +kernel))
set_option maxRecDepth 20000 in
theorem gX4_answer_X4_checkComment : GoodIn wsX4_answer (wsV RX4 116 RX4 yX4_checkComment wsX4_checkComment) := goodIn_app (goodIn_of _ (by decide +kernel)) ggX4_answer_X4_checkComment
set_option maxRecDepth 20000 in
theorem ggX4_answer_X4_bit : GoodIn wsX4_answer wsX4_bit := goodIn_r _ [13] (by decide +kernel) (by decide +kernel)
set_option maxRecDepth 20000 in
theorem gX4_answer_X4_bit : GoodIn wsX4_answer (va_wsS RX4 110 yX4_bit wsX4_bit) := goodIn_app (goodIn_of _ (by decide +kernel)) ggX4_answer_X4_bit
theorem dX4_answer_0 : decode cX4_answer 0 = .ok (.aload_n 0, 1) := by decide +kernel
theorem dX4_answer_1 : decode cX4_answer 1 = .ok (.iload_n 1, 1) := by decide +kernel
theorem dX4_answer_2 : decode cX4_answer 2 = .ok (.invokevirtual 116, 3) := by decide +kernel
theorem dX4_answer_5 : decode cX4_answer 5 = .ok (.aload_n 0, 1) := by decide +kernel
theorem dX4_answer_6 : decode cX4_answer 6 = .ok (.dup, 1) := by decide +kernel
theorem dX4_answer_7 : decode cX4_answer 7 = .ok (.getfield 41, 3) := by decide +kernel
theorem dX4_answer_10 : decode cX4_answer 10 = .ok (.iload_n 1, 1) := by decide +kernel
theorem dX4_answer_11 : decode cX4_answer 11 = .ok (.invokestatic 110, 3) := by decide +kernel
theorem dX4_answer_14 : decode cX4_answer 14 = .ok (.ior, 1) := by decide +kernel
theorem dX4_answer_15 : decode cX4_answer 15 = .ok (.putfield 41, 3) := by decide +kernel
theorem dX4_answer_18 : decode cX4_answer 18 = .ok (.aload_n 0, 1) := by decide +kernel
theorem dX4_answer_19 : decode cX4_answer 19 = .ok (.getfield 37, 3) := by decide +kernel
theorem dX4_answer_22 : decode cX4_answer 22 = .ok (.iload_n 1, 1) := by decide +kernel
theorem dX4_answer_23 : decode cX4_answer 23 = .ok (.dup2, 1) := by decide +kernel
theorem dX4_answer_24 : decode cX4_answer 24 = .ok (.iaload, 1) := by decide +kernel
theorem dX4_answer_25 : decode cX4_answer 25 = .ok (.iconst 1, 1) := by decide +kernel
theorem dX4_answer_26 : decode cX4_answer 26 = .ok (.iadd, 1) := by decide +kernel
theorem dX4_answer_27 : decode cX4_answer 27 = .ok (.iastore, 1) := by decide +kernel
theorem dX4_answer_28 : decode cX4_answer 28 = .ok (.aload_n 0, 1) := by decide +kernel
theorem dX4_answer_29 : decode cX4_answer 29 = .ok (.getfield 37, 3) := by decide +kernel
theorem dX4_answer_32 : decode cX4_answer 32 = .ok (.iload_n 1, 1) := by decide +kernel
theorem dX4_answer_33 : decode cX4_answer 33 = .ok (.iaload, 1) := by decide +kernel
theorem dX4_answer_34 : decode cX4_answer 34 = .ok (.ireturn, 1) := by decide +kernel
set_option maxRecDepth 20000 in
theorem ggX4_resolve_X4_checkComment : GoodIn wsX4_resolve wsX4_checkComment := goodIn_ca (goodIn_r _ [6, 7, 8, 9, 13, 14, 15, 16, 17, 18, 19, 20, 21, 22, 23, 24, 25, 26, 27] (by decide +kernel) (by decide +kernel)) (goodIn_sub (fun _ h => List.mem_cons_of_mem _ (List.mem_append_right _ h)) (by decide +kernel))
set_option maxRecDepth 20000 in
theorem gX4_resolve_X4_checkComment : GoodIn wsX4_resolve (wsV RX4 116 RX4 yX4_checkComment wsX4_checkComment) := goodIn_app (goodIn_of _ (by decide +kernel)) ggX4_resolve_X4_checkComment
set_option maxRecDepth 20000 in
theorem ggX4_resolve_X4_bit : GoodIn wsX4_resolve wsX4_bit := goodIn_r _ [12] (by decide +kernel) (by decide +kernel)
set_option maxRecDepth 20000 in
theorem gX4_resolve_X4_bit : GoodIn wsX4_resolve (va_wsS RX4 110 yX4_bit wsX4_bit) := goodIn_app (goodIn_of _ (by decide +kernel)) ggX4_resolve_X4_bit
theorem dX4_resolve_0 : decode cX4_resolve 0 = .ok (.aload_n 0, 1) := by decide +kernel
theorem dX4_resolve_1 : decode cX4_resolve 1 = .ok (.iload_n 1, 1) := by decide +kernel
theorem dX4_resolve_2 : decode cX4_resolve 2 = .ok (.invokevirtual 116, 3) := by decide +kernel
theorem dX4_resolve_5 : decode cX4_resolve 5 = .ok (.aload_n 0, 1) := by decide +kernel
theorem dX4_resolve_6 : decode cX4_resolve 6 = .ok (.getfield 41, 3) := by decide +kernel
theorem dX4_resolve_9 : decode cX4_resolve 9 = .ok (.iload_n 1, 1) := by decide +kernel
theorem dX4_resolve_10 : decode cX4_resolve 10 = .ok (.invokestatic 110, 3) := by decide +kernel
theorem dX4_resolve_13 : decode cX4_resolve 13 = .ok (.iand, 1) := by decide +kernel
theorem dX4_resolve_14 : decode cX4_resolve 14 = .ok (.ifCond .eq 7, 3) := by decide +kernel
theorem dX4_resolve_17 : decode cX4_resolve 17 = .ok (.iconst 1, 1) := by decide +kernel
theorem dX4_resolve_18 : decode cX4_resolve 18 = .ok (.goto 4, 3) := by decide +kernel
theorem dX4_resolve_21 : decode cX4_resolve 21 = .ok (.iconst 0, 1) := by decide +kernel
theorem dX4_resolve_22 : decode cX4_resolve 22 = .ok (.istore_n 2, 1) := by decide +kernel
theorem dX4_resolve_23 : decode cX4_resolve 23 = .ok (.aload_n 0, 1) := by decide +kernel
theorem dX4_resolve_24 : decode cX4_resolve 24 = .ok (.dup, 1) := by decide +kernel
theorem dX4_resolve_25 : decode cX4_resolve 25 = .ok (.getfield 41, 3) := by decide +kernel
theorem dX4_resolve_28 : decode cX4_resolve 28 = .ok (.iload_n 1, 1) := by decide +kernel
theorem dX4_resolve_29 : decode cX4_resolve 29 = .ok (.invokestatic 110, 3) := by decide +kernel
theorem dX4_resolve_32 : decode cX4_resolve 32 = .ok (.iconst (-1), 1) := by decide +kernel
theorem dX4_resolve_33 : decode cX4_resolve 33 = .ok (.ixor, 1) := by decide +kernel
theorem dX4_resolve_34 : decode cX4_resolve 34 = .ok (.iand, 1) := by decide +kernel
theorem dX4_resolve_35 : decode cX4_resolve 35 = .ok (.putfield 41, 3) := by decide +kernel
theorem dX4_resolve_38 : decode cX4_resolve 38 = .ok (.iload_n 2, 1) := by decide +kernel
theorem dX4_resolve_39 : decode cX4_resolve 39 = .ok (.ireturn, 1) := by decide +kernel
set_option maxRecDepth 20000 in
theorem ggX4_find_X4_checkComment : GoodIn wsX4_find wsX4_checkComment := goodIn_ca (goodIn_r _ [10, 11, 12, 3, 58, 59, 60, 61, 62, 63, 64, 65, 66, 67, 68, 69, 70, 71, 72] (by decide +kernel) (by decide +kernel)) (goodIn_sub (fun _ h => List.mem_cons_of_mem _ (List.mem_append_right _ h)) (by decide +kernel))
set_option maxRecDepth 20000 in
theorem gX4_find_X4_checkComment : GoodIn wsX4_find (wsV RX4 116 RX4 yX4_checkComment wsX4_checkComment) := goodIn_app (goodIn_of _ (by decide +kernel)) ggX4_find_X4_checkComment
set_option maxRecDepth 20000 in
theorem ggX4_find_X2_isGone : GoodIn wsX4_find wsX2_isGone := goodIn_r _ [16, 17, 69, 70, 71, 72] (by decide +kernel) (by decide +kernel)
set_option maxRecDepth 20000 in
theorem gX4_find_X2_isGone_n119 : GoodIn wsX4_find (wsX2_isGone) := ggX4_find_X2_isGone
set_option maxRecDepth 20000 in
theorem ggX4_find_X1_bestPlace : GoodIn wsX4_find wsX1_bestPlace := goodIn_r _ [21, 22, 23, 24, 25, 19, 26, 27, 28, 29, 30, 31, 32, 33, 34, 35, 36, 37, 38, 39, 40, 41, 42, 43, 73, 74, 75, 76, 77, 78, 79] (by decide +kernel) (by decide +kernel)
set_option maxRecDepth 20000 in
theorem gX4_find_X1_bestPlace_n125 : GoodIn wsX4_find (wsX1_bestPlace) := ggX4_find_X1_bestPlace
set_option maxRecDepth 20000 in
theorem ggX4_find_X1_sizeOf : GoodIn wsX4_find wsX1_sizeOf := goodIn_r _ [46, 22, 76, 77, 78, 79] (by decide +kernel) (by decide +kernel)
set_option maxRecDepth 20000 in
theorem gX4_find_X1_sizeOf_n129 : GoodIn wsX4_find (wsX1_sizeOf) := ggX4_find_X1_sizeOf
set_option maxRecDepth 20000 in
theorem ggX4_find_X2_bringBack : GoodIn wsX4_find wsX2_bringBack := goodIn_r _ [49, 17, 50, 69, 70, 71, 72] (by decide +kernel) (by decide +kernel)
set_option maxRecDepth 20000 in
theorem gX4_find_X2_bringBack_n132 : GoodIn wsX4_find (wsX2_bringBack) := ggX4_find_X2_bringBack
set_option maxRecDepth 20000 in
theorem ggX4_find_X4_bit : GoodIn wsX4_find wsX4_bit := goodIn_r _ [53] (by decide +kernel) (by decide +kernel)
set_option maxRecDepth 20000 in
theorem gX4_find_X4_bit : GoodIn wsX4_find (va_wsS RX4 110 yX4_bit wsX4_bit) := goodIn_app (goodIn_of _ (by decide +kernel)) ggX4_find_X4_bit
set_option maxRecDepth 20000 in
theorem ggX4_find_X3_mark : GoodIn wsX4_find wsX3_mark := goodIn_r _ [56, 57, 73, 74, 75] (by decide +kernel) (by decide +kernel)
set_option maxRecDepth 20000 in
theorem gX4_find_X3_mark_n113 : GoodIn wsX4_find (wsX3_mark) := ggX4_find_X3_mark
theorem dX4_find_0 : decode cX4_find 0 = .ok (.aload_n 0, 1) := by decide +kernel
theorem dX4_find_1 : decode cX4_find 1 = .ok (.iload_n 1, 1) := by decide +kernel
theorem dX4_find_2 : decode cX4_find 2 = .ok (.invokevirtual 116, 3) := by decide +kernel
theorem dX4_find_5 : decode cX4_find 5 = .ok (.aload_n 0, 1) := by decide +kernel
theorem dX4_find_6 : decode cX4_find 6 = .ok (.getfield 19, 3) := by decide +kernel
theorem dX4_find_9 : decode cX4_find 9 = .ok (.iload_n 1, 1) := by decide +kernel
theorem dX4_find_10 : decode cX4_find 10 = .ok (.invokevirtual 119, 3) := by decide +kernel
theorem dX4_find_13 : decode cX4_find 13 = .ok (.ifCond .ne 13, 3) := by decide +kernel
theorem dX4_find_16 : decode cX4_find 16 = .ok (.new 95, 3) := by decide +kernel
theorem dX4_find_19 : decode cX4_find 19 = .ok (.dup, 1) := by decide +kernel
theorem dX4_find_20 : decode cX4_find 20 = .ok (.ldc 123, 2) := by decide +kernel
theorem dX4_find_22 : decode cX4_find 22 = .ok (.invokespecial 99, 3) := by decide +kernel
theorem dX4_find_25 : decode cX4_find 25 = .ok (.athrow, 1) := by decide +kernel
theorem dX4_find_26 : decode cX4_find 26 = .ok (.aload_n 0, 1) := by decide +kernel
theorem dX4_find_27 : decode cX4_find 27 = .ok (.getfield 26, 3) := by decide +kernel
theorem dX4_find_30 : decode cX4_find 30 = .ok (.iload_n 1, 1) := by decide +kernel
theorem dX4_find_31 : decode cX4_find 31 = .ok (.aload_n 0, 1) := by decide +kernel
theorem dX4_find_32 : decode cX4_find 32 = .ok (.getfield 10, 3) := by decide +kernel
theorem dX4_find_35 : decode cX4_find 35 = .ok (.invokevirtual 125, 3) := by decide +kernel
theorem dX4_find_38 : decode cX4_find 38 = .ok (.istore_n 2, 1) := by decide +kernel
theorem dX4_find_39 : decode cX4_find 39 = .ok (.iload_n 2, 1) := by decide +kernel
theorem dX4_find_40 : decode cX4_find 40 = .ok (.iconst (-1), 1) := by decide +kernel
theorem dX4_find_41 : decode cX4_find 41 = .ok (.if_icmp .eq 37, 3) := by decide +kernel
theorem dX4_find_44 : decode cX4_find 44 = .ok (.iload_n 2, 1) := by decide +kernel
theorem dX4_find_45 : decode cX4_find 45 = .ok (.aload_n 0, 1) := by decide +kernel
theorem dX4_find_46 : decode cX4_find 46 = .ok (.getfield 26, 3) := by decide +kernel
theorem dX4_find_49 : decode cX4_find 49 = .ok (.iload_n 1, 1) := by decide +kernel
theorem dX4_find_50 : decode cX4_find 50 = .ok (.invokevirtual 129, 3) := by decide +kernel
theorem dX4_find_53 : decode cX4_find 53 = .ok (.iadd, 1) := by decide +kernel
theorem dX4_find_54 : decode cX4_find 54 = .ok (.istore_n 3, 1) := by decide +kernel
theorem dX4_find_55 : decode cX4_find 55 = .ok (.aload_n 0, 1) := by decide +kernel
theorem dX4_find_56 : decode cX4_find 56 = .ok (.getfield 19, 3) := by decide +kernel
theorem dX4_find_59 : decode cX4_find 59 = .ok (.iload_n 1, 1) := by decide +kernel
theorem dX4_find_60 : decode cX4_find 60 = .ok (.iload_n 2, 1) := by decide +kernel
theorem dX4_find_61 : decode cX4_find 61 = .ok (.iload_n 3, 1) := by decide +kernel
theorem dX4_find_62 : decode cX4_find 62 = .ok (.invokevirtual 132, 3) := by decide +kernel
theorem dX4_find_65 : decode cX4_find 65 = .ok (.aload_n 0, 1) := by decide +kernel
theorem dX4_find_66 : decode cX4_find 66 = .ok (.getfield 10, 3) := by decide +kernel
theorem dX4_find_69 : decode cX4_find 69 = .ok (.iload_n 2, 1) := by decide +kernel
theorem dX4_find_70 : decode cX4_find 70 = .ok (.iload_n 3, 1) := by decide +kernel
theorem dX4_find_71 : decode cX4_find 71 = .ok (.iload_n 1, 1) := by decide +kernel
theorem dX4_find_72 : decode cX4_find 72 = .ok (.invokestatic 110, 3) := by decide +kernel
theorem dX4_find_75 : decode cX4_find 75 = .ok (.invokevirtual 113, 3) := by decide +kernel
theorem dX4_find_78 : decode cX4_find 78 = .ok (.iload_n 2, 1) := by decide +kernel
theorem dX4_find_79 : decode cX4_find 79 = .ok (.ireturn, 1) := by decide +kernel
theorem dX4_comments_0 : decode cX4_comments 0 = .ok (.aload_n 0, 1) := by decide +kernel
theorem dX4_comments_1 : decode cX4_comments 1 = .ok (.getfield 19, 3) := by decide +kernel
theorem dX4_comments_4 : decode cX4_comments 4 = .ok (.getfield 92, 3) := by decide +kernel
theorem dX4_comments_7 : decode cX4_comments 7 = .ok (.ireturn, 1) := by decide +kernel
set_option maxRecDepth 20000 in
theorem ggX4_rangeOf_X4_checkComment : GoodIn wsX4_rangeOf wsX4_checkComment := goodIn_ca (goodIn_r _ [6, 7, 8, 1, 19, 20, 21, 22, 23, 24, 25, 26, 27, 28, 29, 30, 31, 32, 33] (by decide +kernel) (by decide +kernel)) (goodIn_sub (fun _ h => List.mem_cons_of_mem _ (List.mem_append_right _ h)) (by decide +kernel))
set_option maxRecDepth 20000 in
theorem gX4_rangeOf_X4_checkComment : GoodIn wsX4_rangeOf (wsV RX4 116 RX4 yX4_checkComment wsX4_checkComment) := goodIn_app (goodIn_of _ (by decide +kernel)) ggX4_rangeOf_X4_checkComment
set_option maxRecDepth 20000 in
theorem ggX4_rangeOf_X2_asNumber : GoodIn wsX4_rangeOf wsX2_asNumber := goodIn_r _ [12, 13, 14, 15, 16, 17, 10, 18, 30, 31, 32, 33] (by decide +kernel) (by decide +kernel)
set_option maxRecDepth 20000 in
theorem gX4_rangeOf_X2_asNumber_n135 : GoodIn wsX4_rangeOf (wsX2_asNumber) := ggX4_rangeOf_X2_asNumber
theorem dX4_rangeOf_0 : decode cX4_rangeOf 0 = .ok (.aload_n 0, 1) := by decide +kernel
theorem dX4_rangeOf_1 : decode cX4_rangeOf 1 = .ok (.iload_n 1, 1) := by decide +kernel
theorem dX4_rangeOf_2 : decode cX4_rangeOf 2 = .ok (.invokevirtual 116, 3) := by decide +kernel
theorem dX4_rangeOf_5 : decode cX4_rangeOf 5 = .ok (.aload_n 0, 1) := by decide +kernel
theorem dX4_rangeOf_6 : decode cX4_rangeOf 6 = .ok (.getfield 19, 3) := by decide +kernel
theorem dX4_rangeOf_9 : decode cX4_rangeOf 9 = .ok (.iload_n 1, 1) := by decide +kernel
theorem dX4_rangeOf_10 : decode cX4_rangeOf 10 = .ok (.invokevirtual 135, 3) := by decide +kernel
theorem dX4_rangeOf_13 : decode cX4_rangeOf 13 = .ok (.ireturn, 1) := by decide +kernel
set_option maxRecDepth 20000 in
theorem ggX4_rangeThen_X4_checkComment : GoodIn wsX4_rangeThen wsX4_checkComment := goodIn_ca (goodIn_r _ [10, 1, 2, 4, 26, 27, 28, 29, 30, 31, 32, 33, 34, 35, 36, 37, 38, 39, 40] (by decide +kernel) (by decide +kernel)) (goodIn_sub (fun _ h => List.mem_cons_of_mem _ (List.mem_append_right _ h)) (by decide +kernel))
set_option maxRecDepth 20000 in
theorem gX4_rangeThen_X4_checkComment : GoodIn wsX4_rangeThen (wsV RX4 116 RX4 yX4_checkComment wsX4_checkComment) := goodIn_app (goodIn_of _ (by decide +kernel)) ggX4_rangeThen_X4_checkComment
set_option maxRecDepth 20000 in
theorem ggX4_rangeThen_X2_asNumber : GoodIn wsX4_rangeThen wsX2_asNumber := goodIn_r _ [14, 15, 16, 17, 18, 19, 12, 20, 37, 38, 39, 40] (by decide +kernel) (by decide +kernel)
set_option maxRecDepth 20000 in
theorem gX4_rangeThen_X2_asNumber_n135 : GoodIn wsX4_rangeThen (wsX2_asNumber) := ggX4_rangeThen_X2_asNumber
set_option maxRecDepth 20000 in
theorem ggX4_rangeThen_X0_rangeAt : GoodIn wsX4_rangeThen wsX0_rangeAt := goodIn_r _ [24, 25, 41] (by decide +kernel) (by decide +kernel)
set_option maxRecDepth 20000 in
theorem gX4_rangeThen_X0_rangeAt_n143 : GoodIn wsX4_rangeThen (wsX0_rangeAt) := ggX4_rangeThen_X0_rangeAt
theorem dX4_rangeThen_0 : decode cX4_rangeThen 0 = .ok (.aload_n 0, 1) := by decide +kernel
theorem dX4_rangeThen_1 : decode cX4_rangeThen 1 = .ok (.iload_n 1, 1) := by decide +kernel
theorem dX4_rangeThen_2 : decode cX4_rangeThen 2 = .ok (.invokevirtual 116, 3) := by decide +kernel
theorem dX4_rangeThen_5 : decode cX4_rangeThen 5 = .ok (.iload_n 2, 1) := by decide +kernel
theorem dX4_rangeThen_6 : decode cX4_rangeThen 6 = .ok (.ifCond .lt 11, 3) := by decide +kernel
theorem dX4_rangeThen_9 : decode cX4_rangeThen 9 = .ok (.iload_n 2, 1) := by decide +kernel
theorem dX4_rangeThen_10 : decode cX4_rangeThen 10 = .ok (.aload_n 0, 1) := by decide +kernel
theorem dX4_rangeThen_11 : decode cX4_rangeThen 11 = .ok (.getfield 45, 3) := by decide +kernel
theorem dX4_rangeThen_14 : decode cX4_rangeThen 14 = .ok (.if_icmp .le 13, 3) := by decide +kernel
theorem dX4_rangeThen_17 : decode cX4_rangeThen 17 = .ok (.new 138, 3) := by decide +kernel
theorem dX4_rangeThen_20 : decode cX4_rangeThen 20 = .ok (.dup, 1) := by decide +kernel
theorem dX4_rangeThen_21 : decode cX4_rangeThen 21 = .ok (.ldc 140, 2) := by decide +kernel
theorem dX4_rangeThen_23 : decode cX4_rangeThen 23 = .ok (.invokespecial 142, 3) := by decide +kernel
theorem dX4_rangeThen_26 : decode cX4_rangeThen 26 = .ok (.athrow, 1) := by decide +kernel
theorem dX4_rangeThen_27 : decode cX4_rangeThen 27 = .ok (.iload_n 2, 1) := by decide +kernel
theorem dX4_rangeThen_28 : decode cX4_rangeThen 28 = .ok (.aload_n 0, 1) := by decide +kernel
theorem dX4_rangeThen_29 : decode cX4_rangeThen 29 = .ok (.getfield 45, 3) := by decide +kernel
theorem dX4_rangeThen_32 : decode cX4_rangeThen 32 = .ok (.if_icmp .ne 14, 3) := by decide +kernel
theorem dX4_rangeThen_35 : decode cX4_rangeThen 35 = .ok (.aload_n 0, 1) := by decide +kernel
theorem dX4_rangeThen_36 : decode cX4_rangeThen 36 = .ok (.getfield 19, 3) := by decide +kernel
theorem dX4_rangeThen_39 : decode cX4_rangeThen 39 = .ok (.iload_n 1, 1) := by decide +kernel
theorem dX4_rangeThen_40 : decode cX4_rangeThen 40 = .ok (.invokevirtual 135, 3) := by decide +kernel
theorem dX4_rangeThen_43 : decode cX4_rangeThen 43 = .ok (.goto 12, 3) := by decide +kernel
theorem dX4_rangeThen_46 : decode cX4_rangeThen 46 = .ok (.aload_n 0, 1) := by decide +kernel
theorem dX4_rangeThen_47 : decode cX4_rangeThen 47 = .ok (.getfield 33, 3) := by decide +kernel
theorem dX4_rangeThen_50 : decode cX4_rangeThen 50 = .ok (.iload_n 2, 1) := by decide +kernel
theorem dX4_rangeThen_51 : decode cX4_rangeThen 51 = .ok (.iload_n 1, 1) := by decide +kernel
theorem dX4_rangeThen_52 : decode cX4_rangeThen 52 = .ok (.invokevirtual 143, 3) := by decide +kernel
theorem dX4_rangeThen_55 : decode cX4_rangeThen 55 = .ok (.ireturn, 1) := by decide +kernel
theorem dX4_open_0 : decode cX4_open 0 = .ok (.aload_n 0, 1) := by decide +kernel
theorem dX4_open_1 : decode cX4_open 1 = .ok (.getfield 41, 3) := by decide +kernel
theorem dX4_open_4 : decode cX4_open 4 = .ok (.ireturn, 1) := by decide +kernel
set_option maxRecDepth 20000 in
theorem ggX4_orphans_X2_isGone : GoodIn wsX4_orphans wsX2_isGone := goodIn_r _ [5, 6, 22, 23, 24, 25] (by decide +kernel) (by decide +kernel)
set_option maxRecDepth 20000 in
theorem gX4_orphans_X2_isGone_n119 : GoodIn wsX4_orphans (wsX2_isGone) := ggX4_orphans_X2_isGone
set_option maxRecDepth 20000 in
theorem ggX4_orphans_X4_bit : GoodIn wsX4_orphans wsX4_bit := goodIn_r _ [10] (by decide +kernel) (by decide +kernel)
set_option maxRecDepth 20000 in
theorem gX4_orphans_X4_bit : GoodIn wsX4_orphans (va_wsS RX4 110 yX4_bit wsX4_bit) := goodIn_app (goodIn_of _ (by decide +kernel)) ggX4_orphans_X4_bit
theorem dX4_orphans_0 : decode cX4_orphans 0 = .ok (.iconst 0, 1) := by decide +kernel
theorem dX4_orphans_1 : decode cX4_orphans 1 = .ok (.istore_n 1, 1) := by decide +kernel
theorem dX4_orphans_2 : decode cX4_orphans 2 = .ok (.iconst 0, 1) := by decide +kernel
theorem dX4_orphans_3 : decode cX4_orphans 3 = .ok (.istore_n 2, 1) := by decide +kernel
theorem dX4_orphans_4 : decode cX4_orphans 4 = .ok (.iload_n 2, 1) := by decide +kernel
theorem dX4_orphans_5 : decode cX4_orphans 5 = .ok (.aload_n 0, 1) := by decide +kernel
theorem dX4_orphans_6 : decode cX4_orphans 6 = .ok (.getfield 19, 3) := by decide +kernel
theorem dX4_orphans_9 : decode cX4_orphans 9 = .ok (.getfield 92, 3) := by decide +kernel
theorem dX4_orphans_12 : decode cX4_orphans 12 = .ok (.if_icmp .ge 27, 3) := by decide +kernel
theorem dX4_orphans_15 : decode cX4_orphans 15 = .ok (.aload_n 0, 1) := by decide +kernel
theorem dX4_orphans_16 : decode cX4_orphans 16 = .ok (.getfield 19, 3) := by decide +kernel
theorem dX4_orphans_19 : decode cX4_orphans 19 = .ok (.iload_n 2, 1) := by decide +kernel
theorem dX4_orphans_20 : decode cX4_orphans 20 = .ok (.invokevirtual 119, 3) := by decide +kernel
theorem dX4_orphans_23 : decode cX4_orphans 23 = .ok (.ifCond .eq 10, 3) := by decide +kernel
theorem dX4_orphans_26 : decode cX4_orphans 26 = .ok (.iload_n 1, 1) := by decide +kernel
theorem dX4_orphans_27 : decode cX4_orphans 27 = .ok (.iload_n 2, 1) := by decide +kernel
theorem dX4_orphans_28 : decode cX4_orphans 28 = .ok (.invokestatic 110, 3) := by decide +kernel
theorem dX4_orphans_31 : decode cX4_orphans 31 = .ok (.ior, 1) := by decide +kernel
theorem dX4_orphans_32 : decode cX4_orphans 32 = .ok (.istore_n 1, 1) := by decide +kernel
theorem dX4_orphans_33 : decode cX4_orphans 33 = .ok (.iinc 2 1, 3) := by decide +kernel
theorem dX4_orphans_36 : decode cX4_orphans 36 = .ok (.goto (-32), 3) := by decide +kernel
theorem dX4_orphans_39 : decode cX4_orphans 39 = .ok (.iload_n 1, 1) := by decide +kernel
theorem dX4_orphans_40 : decode cX4_orphans 40 = .ok (.ireturn, 1) := by decide +kernel
set_option maxRecDepth 20000 in
theorem ggX4_cover_X4_checkPlace : GoodIn wsX4_cover wsX4_checkPlace := goodIn_ca (goodIn_r _ [6, 7, 8, 9, 19, 20, 21, 22, 23, 24, 25, 26, 27, 28, 29, 30, 31, 32] (by decide +kernel) (by decide +kernel)) (goodIn_sub (fun _ h => List.mem_cons_of_mem _ (List.mem_append_right _ h)) (by decide +kernel))
set_option maxRecDepth 20000 in
theorem gX4_cover_X4_checkPlace : GoodIn wsX4_cover (wsV RX4 60 RX4 yX4_checkPlace wsX4_checkPlace) := goodIn_app (goodIn_of _ (by decide +kernel)) ggX4_cover_X4_checkPlace
set_option maxRecDepth 20000 in
theorem ggX4_cover_X2_covering : GoodIn wsX4_cover wsX2_covering := goodIn_r _ [13, 14, 15, 16, 17, 5, 18, 33, 34, 35, 36] (by decide +kernel) (by decide +kernel)
set_option maxRecDepth 20000 in
theorem gX4_cover_X2_covering_n146 : GoodIn wsX4_cover (wsX2_covering) := ggX4_cover_X2_covering
theorem dX4_cover_0 : decode cX4_cover 0 = .ok (.aload_n 0, 1) := by decide +kernel
theorem dX4_cover_1 : decode cX4_cover 1 = .ok (.iload_n 1, 1) := by decide +kernel
theorem dX4_cover_2 : decode cX4_cover 2 = .ok (.invokevirtual 60, 3) := by decide +kernel
theorem dX4_cover_5 : decode cX4_cover 5 = .ok (.aload_n 0, 1) := by decide +kernel
theorem dX4_cover_6 : decode cX4_cover 6 = .ok (.getfield 19, 3) := by decide +kernel
theorem dX4_cover_9 : decode cX4_cover 9 = .ok (.iload_n 1, 1) := by decide +kernel
theorem dX4_cover_10 : decode cX4_cover 10 = .ok (.invokevirtual 146, 3) := by decide +kernel
theorem dX4_cover_13 : decode cX4_cover 13 = .ok (.ireturn, 1) := by decide +kernel
set_option maxRecDepth 20000 in
theorem ggX4_coverByLetters_X4_checkPlace : GoodIn wsX4_coverByLetters wsX4_checkPlace := goodIn_ca (goodIn_r _ [6, 7, 8, 1, 19, 20, 21, 22, 23, 24, 25, 26, 27, 28, 29, 30, 31, 32] (by decide +kernel) (by decide +kernel)) (goodIn_sub (fun _ h => List.mem_cons_of_mem _ (List.mem_append_right _ h)) (by decide +kernel))
set_option maxRecDepth 20000 in
theorem gX4_coverByLetters_X4_checkPlace : GoodIn wsX4_coverByLetters (wsV RX4 60 RX4 yX4_checkPlace wsX4_checkPlace) := goodIn_app (goodIn_of _ (by decide +kernel)) ggX4_coverByLetters_X4_checkPlace
set_option maxRecDepth 20000 in
theorem ggX4_coverByLetters_X3_marksBehind : GoodIn wsX4_coverByLetters wsX3_marksBehind := goodIn_r _ [12, 13, 14, 15, 16, 10, 17, 18, 30, 31, 32] (by decide +kernel) (by decide +kernel)
set_option maxRecDepth 20000 in
theorem gX4_coverByLetters_X3_marksBehind_n149 : GoodIn wsX4_coverByLetters (wsX3_marksBehind) := ggX4_coverByLetters_X3_marksBehind
theorem dX4_coverByLetters_0 : decode cX4_coverByLetters 0 = .ok (.aload_n 0, 1) := by decide +kernel
theorem dX4_coverByLetters_1 : decode cX4_coverByLetters 1 = .ok (.iload_n 1, 1) := by decide +kernel
theorem dX4_coverByLetters_2 : decode cX4_coverByLetters 2 = .ok (.invokevirtual 60, 3) := by decide +kernel
theorem dX4_coverByLetters_5 : decode cX4_coverByLetters 5 = .ok (.aload_n 0, 1) := by decide +kernel
theorem dX4_coverByLetters_6 : decode cX4_coverByLetters 6 = .ok (.getfield 10, 3) := by decide +kernel
theorem dX4_coverByLetters_9 : decode cX4_coverByLetters 9 = .ok (.iload_n 1, 1) := by decide +kernel
theorem dX4_coverByLetters_10 : decode cX4_coverByLetters 10 = .ok (.invokevirtual 149, 3) := by decide +kernel
theorem dX4_coverByLetters_13 : decode cX4_coverByLetters 13 = .ok (.ireturn, 1) := by decide +kernel
set_option maxRecDepth 20000 in
theorem ggX4_pieces_X4_beginsPiece : GoodIn wsX4_pieces wsX4_beginsPiece := goodIn_r _ [6, 7, 8, 9, 10, 11, 12, 13, 14, 15, 5, 16, 17, 18, 19, 20, 21, 22, 23, 24, 25, 26, 27, 31, 32, 33, 34] (by decide +kernel) (by decide +kernel)
set_option maxRecDepth 20000 in
theorem gX4_pieces_X4_beginsPiece : GoodIn wsX4_pieces (wsV RX4 152 RX4 yX4_beginsPiece wsX4_beginsPiece) := goodIn_app (goodIn_of _ (by decide +kernel)) ggX4_pieces_X4_beginsPiece
theorem dX4_pieces_0 : decode cX4_pieces 0 = .ok (.iconst 0, 1) := by decide +kernel
theorem dX4_pieces_1 : decode cX4_pieces 1 = .ok (.istore_n 1, 1) := by decide +kernel
theorem dX4_pieces_2 : decode cX4_pieces 2 = .ok (.iconst 0, 1) := by decide +kernel
theorem dX4_pieces_3 : decode cX4_pieces 3 = .ok (.istore_n 2, 1) := by decide +kernel
theorem dX4_pieces_4 : decode cX4_pieces 4 = .ok (.iload_n 2, 1) := by decide +kernel
theorem dX4_pieces_5 : decode cX4_pieces 5 = .ok (.aload_n 0, 1) := by decide +kernel
theorem dX4_pieces_6 : decode cX4_pieces 6 = .ok (.getfield 10, 3) := by decide +kernel
theorem dX4_pieces_9 : decode cX4_pieces 9 = .ok (.getfield 78, 3) := by decide +kernel
theorem dX4_pieces_12 : decode cX4_pieces 12 = .ok (.if_icmp .ge 20, 3) := by decide +kernel
theorem dX4_pieces_15 : decode cX4_pieces 15 = .ok (.aload_n 0, 1) := by decide +kernel
theorem dX4_pieces_16 : decode cX4_pieces 16 = .ok (.iload_n 2, 1) := by decide +kernel
theorem dX4_pieces_17 : decode cX4_pieces 17 = .ok (.invokevirtual 152, 3) := by decide +kernel
theorem dX4_pieces_20 : decode cX4_pieces 20 = .ok (.ifCond .eq 6, 3) := by decide +kernel
theorem dX4_pieces_23 : decode cX4_pieces 23 = .ok (.iinc 1 1, 3) := by decide +kernel
theorem dX4_pieces_26 : decode cX4_pieces 26 = .ok (.iinc 2 1, 3) := by decide +kernel
theorem dX4_pieces_29 : decode cX4_pieces 29 = .ok (.goto (-25), 3) := by decide +kernel
theorem dX4_pieces_32 : decode cX4_pieces 32 = .ok (.iload_n 1, 1) := by decide +kernel
theorem dX4_pieces_33 : decode cX4_pieces 33 = .ok (.ireturn, 1) := by decide +kernel
set_option maxRecDepth 20000 in
theorem ggX4_pieceAt_X4_beginsPiece : GoodIn wsX4_pieceAt wsX4_beginsPiece := goodIn_r _ [8, 9, 10, 11, 12, 13, 14, 15, 16, 17, 7, 18, 19, 20, 21, 22, 23, 24, 25, 26, 27, 28, 29, 33, 34, 35, 36] (by decide +kernel) (by decide +kernel)
set_option maxRecDepth 20000 in
theorem gX4_pieceAt_X4_beginsPiece : GoodIn wsX4_pieceAt (wsV RX4 152 RX4 yX4_beginsPiece wsX4_beginsPiece) := goodIn_app (goodIn_of _ (by decide +kernel)) ggX4_pieceAt_X4_beginsPiece
theorem dX4_pieceAt_0 : decode cX4_pieceAt 0 = .ok (.iconst 0, 1) := by decide +kernel
theorem dX4_pieceAt_1 : decode cX4_pieceAt 1 = .ok (.istore_n 2, 1) := by decide +kernel
theorem dX4_pieceAt_2 : decode cX4_pieceAt 2 = .ok (.iconst 0, 1) := by decide +kernel
theorem dX4_pieceAt_3 : decode cX4_pieceAt 3 = .ok (.istore_n 3, 1) := by decide +kernel
theorem dX4_pieceAt_4 : decode cX4_pieceAt 4 = .ok (.iload_n 3, 1) := by decide +kernel
theorem dX4_pieceAt_5 : decode cX4_pieceAt 5 = .ok (.aload_n 0, 1) := by decide +kernel
theorem dX4_pieceAt_6 : decode cX4_pieceAt 6 = .ok (.getfield 10, 3) := by decide +kernel
theorem dX4_pieceAt_9 : decode cX4_pieceAt 9 = .ok (.getfield 78, 3) := by decide +kernel
theorem dX4_pieceAt_12 : decode cX4_pieceAt 12 = .ok (.if_icmp .ge 27, 3) := by decide +kernel
theorem dX4_pieceAt_15 : decode cX4_pieceAt 15 = .ok (.aload_n 0, 1) := by decide +kernel
theorem dX4_pieceAt_16 : decode cX4_pieceAt 16 = .ok (.iload_n 3, 1) := by decide +kernel
theorem dX4_pieceAt_17 : decode cX4_pieceAt 17 = .ok (.invokevirtual 152, 3) := by decide +kernel
theorem dX4_pieceAt_20 : decode cX4_pieceAt 20 = .ok (.ifCond .eq 13, 3) := by decide +kernel
theorem dX4_pieceAt_23 : decode cX4_pieceAt 23 = .ok (.iload_n 2, 1) := by decide +kernel
theorem dX4_pieceAt_24 : decode cX4_pieceAt 24 = .ok (.iload_n 1, 1) := by decide +kernel
theorem dX4_pieceAt_25 : decode cX4_pieceAt 25 = .ok (.if_icmp .ne 5, 3) := by decide +kernel
theorem dX4_pieceAt_28 : decode cX4_pieceAt 28 = .ok (.iload_n 3, 1) := by decide +kernel
theorem dX4_pieceAt_29 : decode cX4_pieceAt 29 = .ok (.ireturn, 1) := by decide +kernel
theorem dX4_pieceAt_30 : decode cX4_pieceAt 30 = .ok (.iinc 2 1, 3) := by decide +kernel
theorem dX4_pieceAt_33 : decode cX4_pieceAt 33 = .ok (.iinc 3 1, 3) := by decide +kernel
theorem dX4_pieceAt_36 : decode cX4_pieceAt 36 = .ok (.goto (-32), 3) := by decide +kernel
theorem dX4_pieceAt_39 : decode cX4_pieceAt 39 = .ok (.new 138, 3) := by decide +kernel
theorem dX4_pieceAt_42 : decode cX4_pieceAt 42 = .ok (.dup, 1) := by decide +kernel
theorem dX4_pieceAt_43 : decode cX4_pieceAt 43 = .ok (.ldc 155, 2) := by decide +kernel
theorem dX4_pieceAt_45 : decode cX4_pieceAt 45 = .ok (.invokespecial 142, 3) := by decide +kernel
theorem dX4_pieceAt_48 : decode cX4_pieceAt 48 = .ok (.athrow, 1) := by decide +kernel
set_option maxRecDepth 20000 in
theorem ggX4_suggest_X4_checkRange : GoodIn wsX4_suggest wsX4_checkRange := goodIn_ca (goodIn_ca (goodIn_r _ [11, 12, 13, 14, 15, 16, 10, 17, 18, 19, 20, 37, 38, 39, 40, 41, 42, 43, 44, 45, 46, 47, 52, 53, 54] (by decide +kernel) (by decide +kernel)) (goodIn_sub (fun _ h => List.mem_cons_of_mem _ (List.mem_append_left _ (List.mem_append_right _ h))) (by decide +kernel))) (goodIn_sub (fun _ h => List.mem_cons_of_mem _ (List.mem_append_right _ h)) (by decide +kernel))
set_option maxRecDepth 20000 in
theorem gX4_suggest_X4_checkRange : GoodIn wsX4_suggest (wsV RX4 89 RX4 yX4_checkRange wsX4_checkRange) := goodIn_app (goodIn_of _ (by decide +kernel)) ggX4_suggest_X4_checkRange
set_option maxRecDepth 20000 in
theorem ggX4_suggest_X4_checkLetter : GoodIn wsX4_suggest wsX4_checkLetter := goodIn_ca (goodIn_r _ [24, 25, 26, 27, 10, 28, 12, 13] (by decide +kernel) (by decide +kernel)) (goodIn_sub (fun _ h => List.mem_cons_of_mem _ (List.mem_append_left _ (List.mem_append_right _ h))) (by decide +kernel))
set_option maxRecDepth 20000 in
theorem gX4_suggest_X4_checkLetter : GoodIn wsX4_suggest (wsV RX4 64 RX4 yX4_checkLetter wsX4_checkLetter) := goodIn_app (goodIn_of _ (by decide +kernel)) ggX4_suggest_X4_checkLetter
set_option maxRecDepth 20000 in
theorem ggX4_suggest_X4_checkAmong : GoodIn wsX4_suggest wsX4_checkAmong := goodIn_ca (goodIn_r _ [28, 12, 13] (by decide +kernel) (by decide +kernel)) (goodIn_sub (fun _ h => List.mem_cons_of_mem _ (List.mem_append_left _ (List.mem_append_right _ h))) (by decide +kernel))
set_option maxRecDepth 20000 in
theorem gX4_suggest_X4_checkAmong : GoodIn wsX4_suggest (wsV RX4 67 RX4 yX4_checkAmong wsX4_checkAmong) := goodIn_app (goodIn_of _ (by decide +kernel)) ggX4_suggest_X4_checkAmong
set_option maxRecDepth 20000 in
theorem ggX4_suggest_X2_add : GoodIn wsX4_suggest wsX2_add := goodIn_r _ [32, 33, 34, 35, 36, 48, 49, 50, 51] (by decide +kernel) (by decide +kernel)
set_option maxRecDepth 20000 in
theorem gX4_suggest_X2_add_n102 : GoodIn wsX4_suggest (wsX2_add) := ggX4_suggest_X2_add
theorem dX4_suggest_0 : decode cX4_suggest 0 = .ok (.aload_n 0, 1) := by decide +kernel
theorem dX4_suggest_1 : decode cX4_suggest 1 = .ok (.iload_n 1, 1) := by decide +kernel
theorem dX4_suggest_2 : decode cX4_suggest 2 = .ok (.iload_n 2, 1) := by decide +kernel
theorem dX4_suggest_3 : decode cX4_suggest 3 = .ok (.invokevirtual 89, 3) := by decide +kernel
theorem dX4_suggest_6 : decode cX4_suggest 6 = .ok (.aload_n 0, 1) := by decide +kernel
theorem dX4_suggest_7 : decode cX4_suggest 7 = .ok (.iload_n 3, 1) := by decide +kernel
theorem dX4_suggest_8 : decode cX4_suggest 8 = .ok (.invokevirtual 64, 3) := by decide +kernel
theorem dX4_suggest_11 : decode cX4_suggest 11 = .ok (.aload_n 0, 1) := by decide +kernel
theorem dX4_suggest_12 : decode cX4_suggest 12 = .ok (.iload 4, 2) := by decide +kernel
theorem dX4_suggest_14 : decode cX4_suggest 14 = .ok (.iconst 0, 1) := by decide +kernel
theorem dX4_suggest_15 : decode cX4_suggest 15 = .ok (.iconst 5, 1) := by decide +kernel
theorem dX4_suggest_16 : decode cX4_suggest 16 = .ok (.invokevirtual 67, 3) := by decide +kernel
theorem dX4_suggest_19 : decode cX4_suggest 19 = .ok (.aload_n 0, 1) := by decide +kernel
theorem dX4_suggest_20 : decode cX4_suggest 20 = .ok (.getfield 48, 3) := by decide +kernel
theorem dX4_suggest_23 : decode cX4_suggest 23 = .ok (.getfield 92, 3) := by decide +kernel
theorem dX4_suggest_26 : decode cX4_suggest 26 = .ok (.bipush 10, 2) := by decide +kernel
theorem dX4_suggest_28 : decode cX4_suggest 28 = .ok (.if_icmp .lt 13, 3) := by decide +kernel
theorem dX4_suggest_31 : decode cX4_suggest 31 = .ok (.new 95, 3) := by decide +kernel
theorem dX4_suggest_34 : decode cX4_suggest 34 = .ok (.dup, 1) := by decide +kernel
theorem dX4_suggest_35 : decode cX4_suggest 35 = .ok (.ldc 157, 2) := by decide +kernel
theorem dX4_suggest_37 : decode cX4_suggest 37 = .ok (.invokespecial 99, 3) := by decide +kernel
theorem dX4_suggest_40 : decode cX4_suggest 40 = .ok (.athrow, 1) := by decide +kernel
theorem dX4_suggest_41 : decode cX4_suggest 41 = .ok (.aload_n 0, 1) := by decide +kernel
theorem dX4_suggest_42 : decode cX4_suggest 42 = .ok (.getfield 48, 3) := by decide +kernel
theorem dX4_suggest_45 : decode cX4_suggest 45 = .ok (.iload_n 1, 1) := by decide +kernel
theorem dX4_suggest_46 : decode cX4_suggest 46 = .ok (.iload_n 2, 1) := by decide +kernel
theorem dX4_suggest_47 : decode cX4_suggest 47 = .ok (.iconst 0, 1) := by decide +kernel
theorem dX4_suggest_48 : decode cX4_suggest 48 = .ok (.invokevirtual 102, 3) := by decide +kernel
theorem dX4_suggest_51 : decode cX4_suggest 51 = .ok (.istore 5, 2) := by decide +kernel
theorem dX4_suggest_53 : decode cX4_suggest 53 = .ok (.aload_n 0, 1) := by decide +kernel
theorem dX4_suggest_54 : decode cX4_suggest 54 = .ok (.getfield 51, 3) := by decide +kernel
theorem dX4_suggest_57 : decode cX4_suggest 57 = .ok (.iload 5, 2) := by decide +kernel
theorem dX4_suggest_59 : decode cX4_suggest 59 = .ok (.iload_n 3, 1) := by decide +kernel
theorem dX4_suggest_60 : decode cX4_suggest 60 = .ok (.iastore, 1) := by decide +kernel
theorem dX4_suggest_61 : decode cX4_suggest 61 = .ok (.aload_n 0, 1) := by decide +kernel
theorem dX4_suggest_62 : decode cX4_suggest 62 = .ok (.getfield 54, 3) := by decide +kernel
theorem dX4_suggest_65 : decode cX4_suggest 65 = .ok (.iload 5, 2) := by decide +kernel
theorem dX4_suggest_67 : decode cX4_suggest 67 = .ok (.iload 4, 2) := by decide +kernel
theorem dX4_suggest_69 : decode cX4_suggest 69 = .ok (.iastore, 1) := by decide +kernel
theorem dX4_suggest_70 : decode cX4_suggest 70 = .ok (.aload_n 0, 1) := by decide +kernel
theorem dX4_suggest_71 : decode cX4_suggest 71 = .ok (.getfield 57, 3) := by decide +kernel
theorem dX4_suggest_74 : decode cX4_suggest 74 = .ok (.iload 5, 2) := by decide +kernel
theorem dX4_suggest_76 : decode cX4_suggest 76 = .ok (.iconst 0, 1) := by decide +kernel
theorem dX4_suggest_77 : decode cX4_suggest 77 = .ok (.iastore, 1) := by decide +kernel
theorem dX4_suggest_78 : decode cX4_suggest 78 = .ok (.iload 5, 2) := by decide +kernel
theorem dX4_suggest_80 : decode cX4_suggest 80 = .ok (.ireturn, 1) := by decide +kernel
set_option maxRecDepth 20000 in
theorem ggX4_accept_X4_checkSuggestion : GoodIn wsX4_accept wsX4_checkSuggestion := goodIn_ca (goodIn_r _ [12, 13, 14, 3, 126, 127, 128, 129, 130, 131, 132, 133, 134, 135, 136, 137, 138, 139, 140] (by decide +kernel) (by decide +kernel)) (goodIn_sub (fun _ h => List.mem_cons_of_mem _ (List.mem_append_right _ h)) (by decide +kernel))
set_option maxRecDepth 20000 in
theorem gX4_accept_X4_checkSuggestion : GoodIn wsX4_accept (wsV RX4 159 RX4 yX4_checkSuggestion wsX4_checkSuggestion) := goodIn_app (goodIn_of _ (by decide +kernel)) ggX4_accept_X4_checkSuggestion
set_option maxRecDepth 20000 in
theorem ggX4_accept_X4_checkWaiting : GoodIn wsX4_accept wsX4_checkWaiting := goodIn_ca (goodIn_r _ [18, 1, 2, 5, 126, 127, 128, 129, 130, 131, 132, 133, 134, 135, 136] (by decide +kernel) (by decide +kernel)) (goodIn_sub (fun _ h => List.mem_cons_of_mem _ (List.mem_append_left _ (List.mem_append_right _ h))) (by decide +kernel))
set_option maxRecDepth 20000 in
theorem gX4_accept_X4_checkWaiting : GoodIn wsX4_accept (wsV RX4 162 RX4 yX4_checkWaiting wsX4_checkWaiting) := goodIn_app (goodIn_of _ (by decide +kernel)) ggX4_accept_X4_checkWaiting
set_option maxRecDepth 20000 in
theorem ggX4_accept_X4_overlapping : GoodIn wsX4_accept wsX4_overlapping := goodIn_r _ [22, 5, 3, 23, 24, 25, 26, 27, 28, 29, 30, 31, 32, 33, 34, 35, 36, 37, 11, 38, 126, 127, 128, 129, 130, 131, 132, 133, 134, 135, 136, 137, 138, 139, 140] (by decide +kernel) (by decide +kernel)
set_option maxRecDepth 20000 in
theorem gX4_accept_X4_overlapping : GoodIn wsX4_accept (wsV RX4 165 RX4 yX4_overlapping wsX4_overlapping) := goodIn_app (goodIn_of _ (by decide +kernel)) ggX4_accept_X4_overlapping
set_option maxRecDepth 20000 in
theorem ggX4_accept_X4_checkRoom : GoodIn wsX4_accept wsX4_checkRoom := goodIn_ca (goodIn_r _ [42, 1, 2, 7, 43, 126, 127, 128, 129, 130, 131, 132, 133, 134, 135, 136, 141, 142, 143] (by decide +kernel) (by decide +kernel)) (goodIn_sub (fun _ h => List.mem_cons_of_mem _ (List.mem_append_left _ (List.mem_append_right _ h))) (by decide +kernel))
set_option maxRecDepth 20000 in
theorem gX4_accept_X4_checkRoom : GoodIn wsX4_accept (wsV RX4 71 RX4 yX4_checkRoom wsX4_checkRoom) := goodIn_app (goodIn_of _ (by decide +kernel)) ggX4_accept_X4_checkRoom
set_option maxRecDepth 20000 in
theorem ggX4_accept_X4_takeLettersOut : GoodIn wsX4_accept wsX4_takeLettersOut := goodIn_r _ [47, 48, 3, 7, 49, 50, 51, 11, 52, 53, 43, 54, 55, 56, 57, 58, 59, 24, 60, 61, 27, 32, 62, 63, 64, 65, 66, 67, 68, 69, 70, 71, 72, 28, 29, 30, 31, 37, 38, 73, 74, 75, 76, 5, 36, 77, 78, 79, 80, 81, 82, 83, 84, 85, 86, 87, 88, 89, 90, 91, 92, 93, 94, 95, 96, 97, 98, 126, 127, 128, 129, 130, 131, 132, 133, 134, 135, 136, 137, 138, 139, 140, 144, 141, 142, 143] (by decide +kernel) (by decide +kernel)
set_option maxRecDepth 20000 in
theorem gX4_accept_X4_takeLettersOut : GoodIn wsX4_accept (wsV RX4 81 RX4 yX4_takeLettersOut wsX4_takeLettersOut) := goodIn_app (goodIn_of _ (by decide +kernel)) ggX4_accept_X4_takeLettersOut
set_option maxRecDepth 20000 in
theorem ggX4_accept_X4_putLettersIn : GoodIn wsX4_accept wsX4_putLettersIn := goodIn_r _ [102, 48, 3, 7, 49, 50, 51, 11, 52, 53, 43, 54, 55, 56, 57, 58, 59, 24, 60, 61, 27, 32, 62, 63, 64, 65, 103, 104, 105, 69, 106, 107, 108, 109, 110, 78, 111, 112, 86, 91, 81, 82, 83, 84, 85, 87, 88, 89, 90, 113, 114, 115, 116, 117, 118, 119, 120, 121, 122, 37, 38, 123, 124, 125, 126, 127, 128, 129, 130, 131, 132, 133, 134, 135, 136, 137, 138, 139, 140, 144, 141, 142, 143] (by decide +kernel) (by decide +kernel)
set_option maxRecDepth 20000 in
theorem gX4_accept_X4_putLettersIn : GoodIn wsX4_accept (wsV RX4 75 RX4 yX4_putLettersIn wsX4_putLettersIn) := goodIn_app (goodIn_of _ (by decide +kernel)) ggX4_accept_X4_putLettersIn
theorem dX4_accept_0 : decode cX4_accept 0 = .ok (.aload_n 0, 1) := by decide +kernel
theorem dX4_accept_1 : decode cX4_accept 1 = .ok (.iload_n 1, 1) := by decide +kernel
theorem dX4_accept_2 : decode cX4_accept 2 = .ok (.invokevirtual 159, 3) := by decide +kernel
theorem dX4_accept_5 : decode cX4_accept 5 = .ok (.aload_n 0, 1) := by decide +kernel
theorem dX4_accept_6 : decode cX4_accept 6 = .ok (.iload_n 1, 1) := by decide +kernel
theorem dX4_accept_7 : decode cX4_accept 7 = .ok (.invokevirtual 162, 3) := by decide +kernel
theorem dX4_accept_10 : decode cX4_accept 10 = .ok (.aload_n 0, 1) := by decide +kernel
theorem dX4_accept_11 : decode cX4_accept 11 = .ok (.iload_n 1, 1) := by decide +kernel
theorem dX4_accept_12 : decode cX4_accept 12 = .ok (.invokevirtual 165, 3) := by decide +kernel
theorem dX4_accept_15 : decode cX4_accept 15 = .ok (.ifCond .eq 13, 3) := by decide +kernel
theorem dX4_accept_18 : decode cX4_accept 18 = .ok (.new 95, 3) := by decide +kernel
theorem dX4_accept_21 : decode cX4_accept 21 = .ok (.dup, 1) := by decide +kernel
theorem dX4_accept_22 : decode cX4_accept 22 = .ok (.ldc 168, 2) := by decide +kernel
theorem dX4_accept_24 : decode cX4_accept 24 = .ok (.invokespecial 99, 3) := by decide +kernel
theorem dX4_accept_27 : decode cX4_accept 27 = .ok (.athrow, 1) := by decide +kernel
theorem dX4_accept_28 : decode cX4_accept 28 = .ok (.aload_n 0, 1) := by decide +kernel
theorem dX4_accept_29 : decode cX4_accept 29 = .ok (.getfield 48, 3) := by decide +kernel
theorem dX4_accept_32 : decode cX4_accept 32 = .ok (.getfield 170, 3) := by decide +kernel
theorem dX4_accept_35 : decode cX4_accept 35 = .ok (.iload_n 1, 1) := by decide +kernel
theorem dX4_accept_36 : decode cX4_accept 36 = .ok (.iaload, 1) := by decide +kernel
theorem dX4_accept_37 : decode cX4_accept 37 = .ok (.istore_n 2, 1) := by decide +kernel
theorem dX4_accept_38 : decode cX4_accept 38 = .ok (.aload_n 0, 1) := by decide +kernel
theorem dX4_accept_39 : decode cX4_accept 39 = .ok (.getfield 48, 3) := by decide +kernel
theorem dX4_accept_42 : decode cX4_accept 42 = .ok (.getfield 173, 3) := by decide +kernel
theorem dX4_accept_45 : decode cX4_accept 45 = .ok (.iload_n 1, 1) := by decide +kernel
theorem dX4_accept_46 : decode cX4_accept 46 = .ok (.iaload, 1) := by decide +kernel
theorem dX4_accept_47 : decode cX4_accept 47 = .ok (.iload_n 2, 1) := by decide +kernel
theorem dX4_accept_48 : decode cX4_accept 48 = .ok (.isub, 1) := by decide +kernel
theorem dX4_accept_49 : decode cX4_accept 49 = .ok (.istore_n 3, 1) := by decide +kernel
theorem dX4_accept_50 : decode cX4_accept 50 = .ok (.aload_n 0, 1) := by decide +kernel
theorem dX4_accept_51 : decode cX4_accept 51 = .ok (.getfield 54, 3) := by decide +kernel
theorem dX4_accept_54 : decode cX4_accept 54 = .ok (.iload_n 1, 1) := by decide +kernel
theorem dX4_accept_55 : decode cX4_accept 55 = .ok (.iaload, 1) := by decide +kernel
theorem dX4_accept_56 : decode cX4_accept 56 = .ok (.istore 4, 2) := by decide +kernel
theorem dX4_accept_58 : decode cX4_accept 58 = .ok (.aload_n 0, 1) := by decide +kernel
theorem dX4_accept_59 : decode cX4_accept 59 = .ok (.iload 4, 2) := by decide +kernel
theorem dX4_accept_61 : decode cX4_accept 61 = .ok (.iload_n 3, 1) := by decide +kernel
theorem dX4_accept_62 : decode cX4_accept 62 = .ok (.isub, 1) := by decide +kernel
theorem dX4_accept_63 : decode cX4_accept 63 = .ok (.iload 4, 2) := by decide +kernel
theorem dX4_accept_65 : decode cX4_accept 65 = .ok (.ifCond .ne 7, 3) := by decide +kernel
theorem dX4_accept_68 : decode cX4_accept 68 = .ok (.iconst 1, 1) := by decide +kernel
theorem dX4_accept_69 : decode cX4_accept 69 = .ok (.goto 4, 3) := by decide +kernel
theorem dX4_accept_72 : decode cX4_accept 72 = .ok (.iconst 2, 1) := by decide +kernel
theorem dX4_accept_73 : decode cX4_accept 73 = .ok (.invokevirtual 71, 3) := by decide +kernel
theorem dX4_accept_76 : decode cX4_accept 76 = .ok (.aload_n 0, 1) := by decide +kernel
theorem dX4_accept_77 : decode cX4_accept 77 = .ok (.getfield 57, 3) := by decide +kernel
theorem dX4_accept_80 : decode cX4_accept 80 = .ok (.iload_n 1, 1) := by decide +kernel
theorem dX4_accept_81 : decode cX4_accept 81 = .ok (.iconst 1, 1) := by decide +kernel
theorem dX4_accept_82 : decode cX4_accept 82 = .ok (.iastore, 1) := by decide +kernel
theorem dX4_accept_83 : decode cX4_accept 83 = .ok (.aload_n 0, 1) := by decide +kernel
theorem dX4_accept_84 : decode cX4_accept 84 = .ok (.iload_n 2, 1) := by decide +kernel
theorem dX4_accept_85 : decode cX4_accept 85 = .ok (.iload_n 3, 1) := by decide +kernel
theorem dX4_accept_86 : decode cX4_accept 86 = .ok (.invokevirtual 81, 3) := by decide +kernel
theorem dX4_accept_89 : decode cX4_accept 89 = .ok (.pop, 1) := by decide +kernel
theorem dX4_accept_90 : decode cX4_accept 90 = .ok (.iload 4, 2) := by decide +kernel
theorem dX4_accept_92 : decode cX4_accept 92 = .ok (.ifCond .le 16, 3) := by decide +kernel
theorem dX4_accept_95 : decode cX4_accept 95 = .ok (.aload_n 0, 1) := by decide +kernel
theorem dX4_accept_96 : decode cX4_accept 96 = .ok (.iload_n 2, 1) := by decide +kernel
theorem dX4_accept_97 : decode cX4_accept 97 = .ok (.aload_n 0, 1) := by decide +kernel
theorem dX4_accept_98 : decode cX4_accept 98 = .ok (.getfield 51, 3) := by decide +kernel
theorem dX4_accept_101 : decode cX4_accept 101 = .ok (.iload_n 1, 1) := by decide +kernel
theorem dX4_accept_102 : decode cX4_accept 102 = .ok (.iaload, 1) := by decide +kernel
theorem dX4_accept_103 : decode cX4_accept 103 = .ok (.iload 4, 2) := by decide +kernel
theorem dX4_accept_105 : decode cX4_accept 105 = .ok (.invokevirtual 75, 3) := by decide +kernel
theorem dX4_accept_108 : decode cX4_accept 108 = .ok (.aload_n 0, 1) := by decide +kernel
theorem dX4_accept_109 : decode cX4_accept 109 = .ok (.getfield 10, 3) := by decide +kernel
theorem dX4_accept_112 : decode cX4_accept 112 = .ok (.getfield 78, 3) := by decide +kernel
theorem dX4_accept_115 : decode cX4_accept 115 = .ok (.ireturn, 1) := by decide +kernel
set_option maxRecDepth 20000 in
theorem ggX4_reject_X4_checkSuggestion : GoodIn wsX4_reject wsX4_checkSuggestion := goodIn_ca (goodIn_r _ [6, 7, 8, 9, 20, 21, 22, 23, 24, 25, 26, 27, 28, 29, 30, 31, 32, 33, 34] (by decide +kernel) (by decide +kernel)) (goodIn_sub (fun _ h => List.mem_cons_of_mem _ (List.mem_append_left _ (List.mem_append_right _ h))) (by decide +kernel))
set_option maxRecDepth 20000 in
theorem gX4_reject_X4_checkSuggestion : GoodIn wsX4_reject (wsV RX4 159 RX4 yX4_checkSuggestion wsX4_checkSuggestion) := goodIn_app (goodIn_of _ (by decide +kernel)) ggX4_reject_X4_checkSuggestion
set_option maxRecDepth 20000 in
theorem ggX4_reject_X4_checkWaiting : GoodIn wsX4_reject wsX4_checkWaiting := goodIn_ca (goodIn_r _ [13, 14, 15, 1, 20, 21, 22, 23, 24, 25, 26, 27, 28, 29, 30] (by decide +kernel) (by decide +kernel)) (goodIn_sub (fun _ h => List.mem_cons_of_mem _ (List.mem_append_right _ h)) (by decide +kernel))
set_option maxRecDepth 20000 in
theorem gX4_reject_X4_checkWaiting : GoodIn wsX4_reject (wsV RX4 162 RX4 yX4_checkWaiting wsX4_checkWaiting) := goodIn_app (goodIn_of _ (by decide +kernel)) ggX4_reject_X4_checkWaiting
set_option maxRecDepth 20000 in
theorem ggX4_reject_X4_countWaiting : GoodIn wsX4_reject wsX4_countWaiting := goodIn_r _ [19, 9, 1, 20, 21, 22, 23, 24, 25, 26, 27, 28, 29, 30, 31, 32, 33, 34] (by decide +kernel) (by decide +kernel)
set_option maxRecDepth 20000 in
theorem gX4_reject_X4_countWaiting : GoodIn wsX4_reject (wsV RX4 176 RX4 yX4_countWaiting wsX4_countWaiting) := goodIn_app (goodIn_of _ (by decide +kernel)) ggX4_reject_X4_countWaiting
theorem dX4_reject_0 : decode cX4_reject 0 = .ok (.aload_n 0, 1) := by decide +kernel
theorem dX4_reject_1 : decode cX4_reject 1 = .ok (.iload_n 1, 1) := by decide +kernel
theorem dX4_reject_2 : decode cX4_reject 2 = .ok (.invokevirtual 159, 3) := by decide +kernel
theorem dX4_reject_5 : decode cX4_reject 5 = .ok (.aload_n 0, 1) := by decide +kernel
theorem dX4_reject_6 : decode cX4_reject 6 = .ok (.iload_n 1, 1) := by decide +kernel
theorem dX4_reject_7 : decode cX4_reject 7 = .ok (.invokevirtual 162, 3) := by decide +kernel
theorem dX4_reject_10 : decode cX4_reject 10 = .ok (.aload_n 0, 1) := by decide +kernel
theorem dX4_reject_11 : decode cX4_reject 11 = .ok (.getfield 57, 3) := by decide +kernel
theorem dX4_reject_14 : decode cX4_reject 14 = .ok (.iload_n 1, 1) := by decide +kernel
theorem dX4_reject_15 : decode cX4_reject 15 = .ok (.iconst 2, 1) := by decide +kernel
theorem dX4_reject_16 : decode cX4_reject 16 = .ok (.iastore, 1) := by decide +kernel
theorem dX4_reject_17 : decode cX4_reject 17 = .ok (.aload_n 0, 1) := by decide +kernel
theorem dX4_reject_18 : decode cX4_reject 18 = .ok (.invokevirtual 176, 3) := by decide +kernel
theorem dX4_reject_21 : decode cX4_reject 21 = .ok (.ireturn, 1) := by decide +kernel
set_option maxRecDepth 20000 in
theorem ggX4_stateOf_X4_checkSuggestion : GoodIn wsX4_stateOf wsX4_checkSuggestion := goodIn_ca (goodIn_r _ [6, 7, 8, 9, 10, 11, 12, 13, 14, 15, 16, 17, 18, 19, 20, 21, 22, 23, 24] (by decide +kernel) (by decide +kernel)) (goodIn_sub (fun _ h => List.mem_cons_of_mem _ (List.mem_append_right _ h)) (by decide +kernel))
set_option maxRecDepth 20000 in
theorem gX4_stateOf_X4_checkSuggestion : GoodIn wsX4_stateOf (wsV RX4 159 RX4 yX4_checkSuggestion wsX4_checkSuggestion) := goodIn_app (goodIn_of _ (by decide +kernel)) ggX4_stateOf_X4_checkSuggestion
theorem dX4_stateOf_0 : decode cX4_stateOf 0 = .ok (.aload_n 0, 1) := by decide +kernel
theorem dX4_stateOf_1 : decode cX4_stateOf 1 = .ok (.iload_n 1, 1) := by decide +kernel
theorem dX4_stateOf_2 : decode cX4_stateOf 2 = .ok (.invokevirtual 159, 3) := by decide +kernel
theorem dX4_stateOf_5 : decode cX4_stateOf 5 = .ok (.aload_n 0, 1) := by decide +kernel
theorem dX4_stateOf_6 : decode cX4_stateOf 6 = .ok (.getfield 57, 3) := by decide +kernel
theorem dX4_stateOf_9 : decode cX4_stateOf 9 = .ok (.iload_n 1, 1) := by decide +kernel
theorem dX4_stateOf_10 : decode cX4_stateOf 10 = .ok (.iaload, 1) := by decide +kernel
theorem dX4_stateOf_11 : decode cX4_stateOf 11 = .ok (.ireturn, 1) := by decide +kernel
set_option maxRecDepth 20000 in
theorem ggX4_overlaps_X4_checkSuggestion : GoodIn wsX4_overlaps wsX4_checkSuggestion := goodIn_ca (goodIn_r _ [5, 6, 7, 8, 30, 31, 32, 33, 34, 35, 36, 37, 38, 39, 40, 41, 42, 43, 44] (by decide +kernel) (by decide +kernel)) (goodIn_sub (fun _ h => List.mem_cons_of_mem _ (List.mem_append_right _ h)) (by decide +kernel))
set_option maxRecDepth 20000 in
theorem gX4_overlaps_X4_checkSuggestion : GoodIn wsX4_overlaps (wsV RX4 159 RX4 yX4_checkSuggestion wsX4_checkSuggestion) := goodIn_app (goodIn_of _ (by decide +kernel)) ggX4_overlaps_X4_checkSuggestion
set_option maxRecDepth 20000 in
theorem ggX4_overlaps_X4_overlapping : GoodIn wsX4_overlaps wsX4_overlapping := goodIn_r _ [12, 13, 8, 14, 15, 16, 17, 18, 19, 20, 21, 22, 23, 24, 25, 26, 27, 28, 4, 29, 30, 31, 32, 33, 34, 35, 36, 37, 38, 39, 40, 41, 42, 43, 44] (by decide +kernel) (by decide +kernel)
set_option maxRecDepth 20000 in
theorem gX4_overlaps_X4_overlapping : GoodIn wsX4_overlaps (wsV RX4 165 RX4 yX4_overlapping wsX4_overlapping) := goodIn_app (goodIn_of _ (by decide +kernel)) ggX4_overlaps_X4_overlapping
theorem dX4_overlaps_0 : decode cX4_overlaps 0 = .ok (.aload_n 0, 1) := by decide +kernel
theorem dX4_overlaps_1 : decode cX4_overlaps 1 = .ok (.iload_n 1, 1) := by decide +kernel
theorem dX4_overlaps_2 : decode cX4_overlaps 2 = .ok (.invokevirtual 159, 3) := by decide +kernel
theorem dX4_overlaps_5 : decode cX4_overlaps 5 = .ok (.aload_n 0, 1) := by decide +kernel
theorem dX4_overlaps_6 : decode cX4_overlaps 6 = .ok (.iload_n 1, 1) := by decide +kernel
theorem dX4_overlaps_7 : decode cX4_overlaps 7 = .ok (.invokevirtual 165, 3) := by decide +kernel
theorem dX4_overlaps_10 : decode cX4_overlaps 10 = .ok (.ireturn, 1) := by decide +kernel
theorem dX4_checkPlace_0 : decode cX4_checkPlace 0 = .ok (.iload_n 1, 1) := by decide +kernel
theorem dX4_checkPlace_1 : decode cX4_checkPlace 1 = .ok (.ifCond .lt 14, 3) := by decide +kernel
theorem dX4_checkPlace_4 : decode cX4_checkPlace 4 = .ok (.iload_n 1, 1) := by decide +kernel
theorem dX4_checkPlace_5 : decode cX4_checkPlace 5 = .ok (.aload_n 0, 1) := by decide +kernel
theorem dX4_checkPlace_6 : decode cX4_checkPlace 6 = .ok (.getfield 10, 3) := by decide +kernel
theorem dX4_checkPlace_9 : decode cX4_checkPlace 9 = .ok (.getfield 78, 3) := by decide +kernel
theorem dX4_checkPlace_12 : decode cX4_checkPlace 12 = .ok (.if_icmp .le 13, 3) := by decide +kernel
theorem dX4_checkPlace_15 : decode cX4_checkPlace 15 = .ok (.new 138, 3) := by decide +kernel
theorem dX4_checkPlace_18 : decode cX4_checkPlace 18 = .ok (.dup, 1) := by decide +kernel
theorem dX4_checkPlace_19 : decode cX4_checkPlace 19 = .ok (.ldc 180, 2) := by decide +kernel
theorem dX4_checkPlace_21 : decode cX4_checkPlace 21 = .ok (.invokespecial 142, 3) := by decide +kernel
theorem dX4_checkPlace_24 : decode cX4_checkPlace 24 = .ok (.athrow, 1) := by decide +kernel
theorem dX4_checkPlace_25 : decode cX4_checkPlace 25 = .ok (.return_, 1) := by decide +kernel
set_option maxRecDepth 20000 in
theorem ggX4_checkRange_X4_checkPlace : GoodIn wsX4_checkRange wsX4_checkPlace := goodIn_ca (goodIn_r _ [7, 8, 9, 10, 11, 12, 13, 14, 15, 16, 17, 18, 19, 20, 21, 22, 23, 24] (by decide +kernel) (by decide +kernel)) (goodIn_sub (fun _ h => List.mem_cons_of_mem _ (List.mem_append_right _ h)) (by decide +kernel))
set_option maxRecDepth 20000 in
theorem gX4_checkRange_X4_checkPlace : GoodIn wsX4_checkRange (wsV RX4 60 RX4 yX4_checkPlace wsX4_checkPlace) := goodIn_app (goodIn_of _ (by decide +kernel)) ggX4_checkRange_X4_checkPlace
theorem dX4_checkRange_0 : decode cX4_checkRange 0 = .ok (.aload_n 0, 1) := by decide +kernel
theorem dX4_checkRange_1 : decode cX4_checkRange 1 = .ok (.iload_n 1, 1) := by decide +kernel
theorem dX4_checkRange_2 : decode cX4_checkRange 2 = .ok (.invokevirtual 60, 3) := by decide +kernel
theorem dX4_checkRange_5 : decode cX4_checkRange 5 = .ok (.aload_n 0, 1) := by decide +kernel
theorem dX4_checkRange_6 : decode cX4_checkRange 6 = .ok (.iload_n 2, 1) := by decide +kernel
theorem dX4_checkRange_7 : decode cX4_checkRange 7 = .ok (.invokevirtual 60, 3) := by decide +kernel
theorem dX4_checkRange_10 : decode cX4_checkRange 10 = .ok (.iload_n 2, 1) := by decide +kernel
theorem dX4_checkRange_11 : decode cX4_checkRange 11 = .ok (.iload_n 1, 1) := by decide +kernel
theorem dX4_checkRange_12 : decode cX4_checkRange 12 = .ok (.if_icmp .gt 13, 3) := by decide +kernel
theorem dX4_checkRange_15 : decode cX4_checkRange 15 = .ok (.new 182, 3) := by decide +kernel
theorem dX4_checkRange_18 : decode cX4_checkRange 18 = .ok (.dup, 1) := by decide +kernel
theorem dX4_checkRange_19 : decode cX4_checkRange 19 = .ok (.ldc 184, 2) := by decide +kernel
theorem dX4_checkRange_21 : decode cX4_checkRange 21 = .ok (.invokespecial 186, 3) := by decide +kernel
theorem dX4_checkRange_24 : decode cX4_checkRange 24 = .ok (.athrow, 1) := by decide +kernel
theorem dX4_checkRange_25 : decode cX4_checkRange 25 = .ok (.return_, 1) := by decide +kernel
set_option maxRecDepth 20000 in
theorem ggX4_checkLetter_X4_checkAmong : GoodIn wsX4_checkLetter wsX4_checkAmong := goodIn_ca (goodIn_r _ [5, 6, 7] (by decide +kernel) (by decide +kernel)) (goodIn_sub (fun _ h => List.mem_cons_of_mem _ (List.mem_append_right _ h)) (by decide +kernel))
set_option maxRecDepth 20000 in
theorem gX4_checkLetter_X4_checkAmong : GoodIn wsX4_checkLetter (wsV RX4 67 RX4 yX4_checkAmong wsX4_checkAmong) := goodIn_app (goodIn_of _ (by decide +kernel)) ggX4_checkLetter_X4_checkAmong
theorem dX4_checkLetter_0 : decode cX4_checkLetter 0 = .ok (.aload_n 0, 1) := by decide +kernel
theorem dX4_checkLetter_1 : decode cX4_checkLetter 1 = .ok (.iload_n 1, 1) := by decide +kernel
theorem dX4_checkLetter_2 : decode cX4_checkLetter 2 = .ok (.iconst 0, 1) := by decide +kernel
theorem dX4_checkLetter_3 : decode cX4_checkLetter 3 = .ok (.bipush 25, 2) := by decide +kernel
theorem dX4_checkLetter_5 : decode cX4_checkLetter 5 = .ok (.invokevirtual 67, 3) := by decide +kernel
theorem dX4_checkLetter_8 : decode cX4_checkLetter 8 = .ok (.return_, 1) := by decide +kernel
theorem dX4_checkAmong_0 : decode cX4_checkAmong 0 = .ok (.iload_n 1, 1) := by decide +kernel
theorem dX4_checkAmong_1 : decode cX4_checkAmong 1 = .ok (.iload_n 2, 1) := by decide +kernel
theorem dX4_checkAmong_2 : decode cX4_checkAmong 2 = .ok (.if_icmp .lt 8, 3) := by decide +kernel
theorem dX4_checkAmong_5 : decode cX4_checkAmong 5 = .ok (.iload_n 1, 1) := by decide +kernel
theorem dX4_checkAmong_6 : decode cX4_checkAmong 6 = .ok (.iload_n 3, 1) := by decide +kernel
theorem dX4_checkAmong_7 : decode cX4_checkAmong 7 = .ok (.if_icmp .le 13, 3) := by decide +kernel
theorem dX4_checkAmong_10 : decode cX4_checkAmong 10 = .ok (.new 182, 3) := by decide +kernel
theorem dX4_checkAmong_13 : decode cX4_checkAmong 13 = .ok (.dup, 1) := by decide +kernel
theorem dX4_checkAmong_14 : decode cX4_checkAmong 14 = .ok (.ldc 187, 2) := by decide +kernel
theorem dX4_checkAmong_16 : decode cX4_checkAmong 16 = .ok (.invokespecial 186, 3) := by decide +kernel
theorem dX4_checkAmong_19 : decode cX4_checkAmong 19 = .ok (.athrow, 1) := by decide +kernel
theorem dX4_checkAmong_20 : decode cX4_checkAmong 20 = .ok (.return_, 1) := by decide +kernel
theorem dX4_checkComment_0 : decode cX4_checkComment 0 = .ok (.iload_n 1, 1) := by decide +kernel
theorem dX4_checkComment_1 : decode cX4_checkComment 1 = .ok (.ifCond .lt 14, 3) := by decide +kernel
theorem dX4_checkComment_4 : decode cX4_checkComment 4 = .ok (.iload_n 1, 1) := by decide +kernel
theorem dX4_checkComment_5 : decode cX4_checkComment 5 = .ok (.aload_n 0, 1) := by decide +kernel
theorem dX4_checkComment_6 : decode cX4_checkComment 6 = .ok (.getfield 19, 3) := by decide +kernel
theorem dX4_checkComment_9 : decode cX4_checkComment 9 = .ok (.getfield 92, 3) := by decide +kernel
theorem dX4_checkComment_12 : decode cX4_checkComment 12 = .ok (.if_icmp .lt 13, 3) := by decide +kernel
theorem dX4_checkComment_15 : decode cX4_checkComment 15 = .ok (.new 138, 3) := by decide +kernel
theorem dX4_checkComment_18 : decode cX4_checkComment 18 = .ok (.dup, 1) := by decide +kernel
theorem dX4_checkComment_19 : decode cX4_checkComment 19 = .ok (.ldc 189, 2) := by decide +kernel
theorem dX4_checkComment_21 : decode cX4_checkComment 21 = .ok (.invokespecial 142, 3) := by decide +kernel
theorem dX4_checkComment_24 : decode cX4_checkComment 24 = .ok (.athrow, 1) := by decide +kernel
theorem dX4_checkComment_25 : decode cX4_checkComment 25 = .ok (.return_, 1) := by decide +kernel
theorem dX4_checkSuggestion_0 : decode cX4_checkSuggestion 0 = .ok (.iload_n 1, 1) := by decide +kernel
theorem dX4_checkSuggestion_1 : decode cX4_checkSuggestion 1 = .ok (.ifCond .lt 14, 3) := by decide +kernel
theorem dX4_checkSuggestion_4 : decode cX4_checkSuggestion 4 = .ok (.iload_n 1, 1) := by decide +kernel
theorem dX4_checkSuggestion_5 : decode cX4_checkSuggestion 5 = .ok (.aload_n 0, 1) := by decide +kernel
theorem dX4_checkSuggestion_6 : decode cX4_checkSuggestion 6 = .ok (.getfield 48, 3) := by decide +kernel
theorem dX4_checkSuggestion_9 : decode cX4_checkSuggestion 9 = .ok (.getfield 92, 3) := by decide +kernel
theorem dX4_checkSuggestion_12 : decode cX4_checkSuggestion 12 = .ok (.if_icmp .lt 13, 3) := by decide +kernel
theorem dX4_checkSuggestion_15 : decode cX4_checkSuggestion 15 = .ok (.new 138, 3) := by decide +kernel
theorem dX4_checkSuggestion_18 : decode cX4_checkSuggestion 18 = .ok (.dup, 1) := by decide +kernel
theorem dX4_checkSuggestion_19 : decode cX4_checkSuggestion 19 = .ok (.ldc 191, 2) := by decide +kernel
theorem dX4_checkSuggestion_21 : decode cX4_checkSuggestion 21 = .ok (.invokespecial 142, 3) := by decide +kernel
theorem dX4_checkSuggestion_24 : decode cX4_checkSuggestion 24 = .ok (.athrow, 1) := by decide +kernel
theorem dX4_checkSuggestion_25 : decode cX4_checkSuggestion 25 = .ok (.return_, 1) := by decide +kernel
theorem dX4_checkWaiting_0 : decode cX4_checkWaiting 0 = .ok (.aload_n 0, 1) := by decide +kernel
theorem dX4_checkWaiting_1 : decode cX4_checkWaiting 1 = .ok (.getfield 57, 3) := by decide +kernel
theorem dX4_checkWaiting_4 : decode cX4_checkWaiting 4 = .ok (.iload_n 1, 1) := by decide +kernel
theorem dX4_checkWaiting_5 : decode cX4_checkWaiting 5 = .ok (.iaload, 1) := by decide +kernel
theorem dX4_checkWaiting_6 : decode cX4_checkWaiting 6 = .ok (.ifCond .eq 13, 3) := by decide +kernel
theorem dX4_checkWaiting_9 : decode cX4_checkWaiting 9 = .ok (.new 95, 3) := by decide +kernel
theorem dX4_checkWaiting_12 : decode cX4_checkWaiting 12 = .ok (.dup, 1) := by decide +kernel
theorem dX4_checkWaiting_13 : decode cX4_checkWaiting 13 = .ok (.ldc 193, 2) := by decide +kernel
theorem dX4_checkWaiting_15 : decode cX4_checkWaiting 15 = .ok (.invokespecial 99, 3) := by decide +kernel
theorem dX4_checkWaiting_18 : decode cX4_checkWaiting 18 = .ok (.athrow, 1) := by decide +kernel
theorem dX4_checkWaiting_19 : decode cX4_checkWaiting 19 = .ok (.return_, 1) := by decide +kernel
theorem dX4_checkRoom_0 : decode cX4_checkRoom 0 = .ok (.aload_n 0, 1) := by decide +kernel
theorem dX4_checkRoom_1 : decode cX4_checkRoom 1 = .ok (.getfield 10, 3) := by decide +kernel
theorem dX4_checkRoom_4 : decode cX4_checkRoom 4 = .ok (.getfield 78, 3) := by decide +kernel
theorem dX4_checkRoom_7 : decode cX4_checkRoom 7 = .ok (.iload_n 1, 1) := by decide +kernel
theorem dX4_checkRoom_8 : decode cX4_checkRoom 8 = .ok (.iadd, 1) := by decide +kernel
theorem dX4_checkRoom_9 : decode cX4_checkRoom 9 = .ok (.bipush 60, 2) := by decide +kernel
theorem dX4_checkRoom_11 : decode cX4_checkRoom 11 = .ok (.if_icmp .le 13, 3) := by decide +kernel
theorem dX4_checkRoom_14 : decode cX4_checkRoom 14 = .ok (.new 95, 3) := by decide +kernel
theorem dX4_checkRoom_17 : decode cX4_checkRoom 17 = .ok (.dup, 1) := by decide +kernel
theorem dX4_checkRoom_18 : decode cX4_checkRoom 18 = .ok (.ldc 195, 2) := by decide +kernel
theorem dX4_checkRoom_20 : decode cX4_checkRoom 20 = .ok (.invokespecial 99, 3) := by decide +kernel
theorem dX4_checkRoom_23 : decode cX4_checkRoom 23 = .ok (.athrow, 1) := by decide +kernel
theorem dX4_checkRoom_24 : decode cX4_checkRoom 24 = .ok (.aload_n 0, 1) := by decide +kernel
theorem dX4_checkRoom_25 : decode cX4_checkRoom 25 = .ok (.getfield 45, 3) := by decide +kernel
theorem dX4_checkRoom_28 : decode cX4_checkRoom 28 = .ok (.iload_n 2, 1) := by decide +kernel
theorem dX4_checkRoom_29 : decode cX4_checkRoom 29 = .ok (.iadd, 1) := by decide +kernel
theorem dX4_checkRoom_30 : decode cX4_checkRoom 30 = .ok (.sipush 300, 3) := by decide +kernel
theorem dX4_checkRoom_33 : decode cX4_checkRoom 33 = .ok (.if_icmp .le 13, 3) := by decide +kernel
theorem dX4_checkRoom_36 : decode cX4_checkRoom 36 = .ok (.new 95, 3) := by decide +kernel
theorem dX4_checkRoom_39 : decode cX4_checkRoom 39 = .ok (.dup, 1) := by decide +kernel
theorem dX4_checkRoom_40 : decode cX4_checkRoom 40 = .ok (.ldc 197, 2) := by decide +kernel
theorem dX4_checkRoom_42 : decode cX4_checkRoom 42 = .ok (.invokespecial 99, 3) := by decide +kernel
theorem dX4_checkRoom_45 : decode cX4_checkRoom 45 = .ok (.athrow, 1) := by decide +kernel
theorem dX4_checkRoom_46 : decode cX4_checkRoom 46 = .ok (.return_, 1) := by decide +kernel
set_option maxRecDepth 20000 in
theorem ggX4_putLettersIn_X4_leaveVersion : GoodIn wsX4_putLettersIn wsX4_leaveVersion := goodIn_r _ [8, 9, 10, 1, 11, 12, 13, 14, 15, 16, 17, 18, 19, 20, 21, 22, 23, 24, 25, 64, 65, 66, 67, 68, 69, 70, 71, 72, 73, 74, 75, 76, 77, 78, 79] (by decide +kernel) (by decide +kernel)
set_option maxRecDepth 20000 in
theorem gX4_putLettersIn_X4_leaveVersion : GoodIn wsX4_putLettersIn (wsV RX4 199 RX4 yX4_leaveVersion wsX4_leaveVersion) := goodIn_app (goodIn_of _ (by decide +kernel)) ggX4_putLettersIn_X4_leaveVersion
set_option maxRecDepth 20000 in
theorem ggX4_putLettersIn_X2_moveByInsertion : GoodIn wsX4_putLettersIn wsX2_moveByInsertion := goodIn_r _ [28, 29, 30, 20, 21, 22, 23, 24, 17, 25, 31, 32, 33, 75, 76, 77, 78] (by decide +kernel) (by decide +kernel)
set_option maxRecDepth 20000 in
theorem gX4_putLettersIn_X2_moveByInsertion_n202 : GoodIn wsX4_putLettersIn (wsX2_moveByInsertion) := ggX4_putLettersIn_X2_moveByInsertion
set_option maxRecDepth 20000 in
theorem ggX4_putLettersIn_X3_putIn : GoodIn wsX4_putLettersIn wsX3_putIn := goodIn_r _ [37, 38, 39, 40, 41, 42, 35, 43, 44, 45, 46, 47, 48, 49, 50, 51, 52, 53, 54, 55, 80, 81, 82] (by decide +kernel) (by decide +kernel)
set_option maxRecDepth 20000 in
theorem gX4_putLettersIn_X3_putIn_n205 : GoodIn wsX4_putLettersIn (wsX3_putIn) := ggX4_putLettersIn_X3_putIn
set_option maxRecDepth 20000 in
theorem ggX4_putLettersIn_X2_covering : GoodIn wsX4_putLettersIn wsX2_covering := goodIn_r _ [58, 29, 20, 21, 59, 7, 60, 75, 76, 77, 78] (by decide +kernel) (by decide +kernel)
set_option maxRecDepth 20000 in
theorem gX4_putLettersIn_X2_covering_n146 : GoodIn wsX4_putLettersIn (wsX2_covering) := ggX4_putLettersIn_X2_covering
set_option maxRecDepth 20000 in
theorem ggX4_putLettersIn_X3_mark : GoodIn wsX4_putLettersIn wsX3_mark := goodIn_r _ [63, 39, 80, 81, 82] (by decide +kernel) (by decide +kernel)
set_option maxRecDepth 20000 in
theorem gX4_putLettersIn_X3_mark_n113 : GoodIn wsX4_putLettersIn (wsX3_mark) := ggX4_putLettersIn_X3_mark
theorem dX4_putLettersIn_0 : decode cX4_putLettersIn 0 = .ok (.aload_n 0, 1) := by decide +kernel
theorem dX4_putLettersIn_1 : decode cX4_putLettersIn 1 = .ok (.invokevirtual 199, 3) := by decide +kernel
theorem dX4_putLettersIn_4 : decode cX4_putLettersIn 4 = .ok (.aload_n 0, 1) := by decide +kernel
theorem dX4_putLettersIn_5 : decode cX4_putLettersIn 5 = .ok (.getfield 19, 3) := by decide +kernel
theorem dX4_putLettersIn_8 : decode cX4_putLettersIn 8 = .ok (.iload_n 1, 1) := by decide +kernel
theorem dX4_putLettersIn_9 : decode cX4_putLettersIn 9 = .ok (.iload_n 3, 1) := by decide +kernel
theorem dX4_putLettersIn_10 : decode cX4_putLettersIn 10 = .ok (.invokevirtual 202, 3) := by decide +kernel
theorem dX4_putLettersIn_13 : decode cX4_putLettersIn 13 = .ok (.aload_n 0, 1) := by decide +kernel
theorem dX4_putLettersIn_14 : decode cX4_putLettersIn 14 = .ok (.getfield 48, 3) := by decide +kernel
theorem dX4_putLettersIn_17 : decode cX4_putLettersIn 17 = .ok (.iload_n 1, 1) := by decide +kernel
theorem dX4_putLettersIn_18 : decode cX4_putLettersIn 18 = .ok (.iload_n 3, 1) := by decide +kernel
theorem dX4_putLettersIn_19 : decode cX4_putLettersIn 19 = .ok (.invokevirtual 202, 3) := by decide +kernel
theorem dX4_putLettersIn_22 : decode cX4_putLettersIn 22 = .ok (.aload_n 0, 1) := by decide +kernel
theorem dX4_putLettersIn_23 : decode cX4_putLettersIn 23 = .ok (.getfield 10, 3) := by decide +kernel
theorem dX4_putLettersIn_26 : decode cX4_putLettersIn 26 = .ok (.iload_n 1, 1) := by decide +kernel
theorem dX4_putLettersIn_27 : decode cX4_putLettersIn 27 = .ok (.iload_n 2, 1) := by decide +kernel
theorem dX4_putLettersIn_28 : decode cX4_putLettersIn 28 = .ok (.iload_n 3, 1) := by decide +kernel
theorem dX4_putLettersIn_29 : decode cX4_putLettersIn 29 = .ok (.invokevirtual 205, 3) := by decide +kernel
theorem dX4_putLettersIn_32 : decode cX4_putLettersIn 32 = .ok (.aload_n 0, 1) := by decide +kernel
theorem dX4_putLettersIn_33 : decode cX4_putLettersIn 33 = .ok (.getfield 10, 3) := by decide +kernel
theorem dX4_putLettersIn_36 : decode cX4_putLettersIn 36 = .ok (.iload_n 1, 1) := by decide +kernel
theorem dX4_putLettersIn_37 : decode cX4_putLettersIn 37 = .ok (.iload_n 1, 1) := by decide +kernel
theorem dX4_putLettersIn_38 : decode cX4_putLettersIn 38 = .ok (.iload_n 3, 1) := by decide +kernel
theorem dX4_putLettersIn_39 : decode cX4_putLettersIn 39 = .ok (.iadd, 1) := by decide +kernel
theorem dX4_putLettersIn_40 : decode cX4_putLettersIn 40 = .ok (.aload_n 0, 1) := by decide +kernel
theorem dX4_putLettersIn_41 : decode cX4_putLettersIn 41 = .ok (.getfield 19, 3) := by decide +kernel
theorem dX4_putLettersIn_44 : decode cX4_putLettersIn 44 = .ok (.iload_n 1, 1) := by decide +kernel
theorem dX4_putLettersIn_45 : decode cX4_putLettersIn 45 = .ok (.invokevirtual 146, 3) := by decide +kernel
theorem dX4_putLettersIn_48 : decode cX4_putLettersIn 48 = .ok (.invokevirtual 113, 3) := by decide +kernel
theorem dX4_putLettersIn_51 : decode cX4_putLettersIn 51 = .ok (.return_, 1) := by decide +kernel
set_option maxRecDepth 20000 in
theorem ggX4_takeLettersOut_X4_leaveVersion : GoodIn wsX4_takeLettersOut wsX4_leaveVersion := goodIn_r _ [8, 9, 10, 1, 11, 12, 13, 14, 15, 16, 17, 18, 19, 20, 21, 22, 23, 24, 25, 67, 68, 69, 70, 71, 72, 73, 74, 75, 76, 77, 78, 79, 80, 81, 82] (by decide +kernel) (by decide +kernel)
set_option maxRecDepth 20000 in
theorem gX4_takeLettersOut_X4_leaveVersion : GoodIn wsX4_takeLettersOut (wsV RX4 199 RX4 yX4_leaveVersion wsX4_leaveVersion) := goodIn_app (goodIn_of _ (by decide +kernel)) ggX4_takeLettersOut_X4_leaveVersion
set_option maxRecDepth 20000 in
theorem ggX4_takeLettersOut_X2_moveByRemoval : GoodIn wsX4_takeLettersOut wsX2_moveByRemoval := goodIn_r _ [28, 29, 20, 21, 22, 23, 24, 17, 25, 30, 31, 32, 33, 34, 35, 36, 37, 7, 38, 78, 79, 80, 81] (by decide +kernel) (by decide +kernel)
set_option maxRecDepth 20000 in
theorem gX4_takeLettersOut_X2_moveByRemoval_n208 : GoodIn wsX4_takeLettersOut (wsX2_moveByRemoval) := ggX4_takeLettersOut_X2_moveByRemoval
set_option maxRecDepth 20000 in
theorem ggX4_takeLettersOut_X4_letGo : GoodIn wsX4_takeLettersOut wsX4_letGo := goodIn_r _ [42, 2, 43, 44, 37, 7, 38, 67, 68, 69, 70, 71, 72, 73, 74, 75, 76, 77, 78, 79, 80, 81] (by decide +kernel) (by decide +kernel)
set_option maxRecDepth 20000 in
theorem gX4_takeLettersOut_X4_letGo : GoodIn wsX4_takeLettersOut (wsV RX4 211 RX4 yX4_letGo wsX4_letGo) := goodIn_app (goodIn_of _ (by decide +kernel)) ggX4_takeLettersOut_X4_letGo
set_option maxRecDepth 20000 in
theorem ggX4_takeLettersOut_X3_takeOut : GoodIn wsX4_takeLettersOut wsX3_takeOut := goodIn_r _ [48, 49, 50, 51, 46, 52, 53, 54, 55, 56, 57, 58, 59, 83, 84, 85] (by decide +kernel) (by decide +kernel)
set_option maxRecDepth 20000 in
theorem gX4_takeLettersOut_X3_takeOut_n214 : GoodIn wsX4_takeLettersOut (wsX3_takeOut) := ggX4_takeLettersOut_X3_takeOut
set_option maxRecDepth 20000 in
theorem ggX4_takeLettersOut_J6_bitCount_0f7a4 : GoodIn wsX4_takeLettersOut wsJ6_bitCount_0f7a4 := goodIn_r _ [63, 64, 65, 66] (by decide +kernel) (by decide +kernel)
set_option maxRecDepth 20000 in
theorem gX4_takeLettersOut_J6_bitCount_0f7a4 : GoodIn wsX4_takeLettersOut (va_wsS RX4 217 yJ6_bitCount_0f7a4 wsJ6_bitCount_0f7a4) := goodIn_app (goodIn_of _ (by decide +kernel)) ggX4_takeLettersOut_J6_bitCount_0f7a4
theorem dX4_takeLettersOut_0 : decode cX4_takeLettersOut 0 = .ok (.aload_n 0, 1) := by decide +kernel
theorem dX4_takeLettersOut_1 : decode cX4_takeLettersOut 1 = .ok (.invokevirtual 199, 3) := by decide +kernel
theorem dX4_takeLettersOut_4 : decode cX4_takeLettersOut 4 = .ok (.aload_n 0, 1) := by decide +kernel
theorem dX4_takeLettersOut_5 : decode cX4_takeLettersOut 5 = .ok (.getfield 19, 3) := by decide +kernel
theorem dX4_takeLettersOut_8 : decode cX4_takeLettersOut 8 = .ok (.iload_n 1, 1) := by decide +kernel
theorem dX4_takeLettersOut_9 : decode cX4_takeLettersOut 9 = .ok (.iload_n 2, 1) := by decide +kernel
theorem dX4_takeLettersOut_10 : decode cX4_takeLettersOut 10 = .ok (.invokevirtual 208, 3) := by decide +kernel
theorem dX4_takeLettersOut_13 : decode cX4_takeLettersOut 13 = .ok (.istore_n 3, 1) := by decide +kernel
theorem dX4_takeLettersOut_14 : decode cX4_takeLettersOut 14 = .ok (.aload_n 0, 1) := by decide +kernel
theorem dX4_takeLettersOut_15 : decode cX4_takeLettersOut 15 = .ok (.aload_n 0, 1) := by decide +kernel
theorem dX4_takeLettersOut_16 : decode cX4_takeLettersOut 16 = .ok (.getfield 48, 3) := by decide +kernel
theorem dX4_takeLettersOut_19 : decode cX4_takeLettersOut 19 = .ok (.iload_n 1, 1) := by decide +kernel
theorem dX4_takeLettersOut_20 : decode cX4_takeLettersOut 20 = .ok (.iload_n 2, 1) := by decide +kernel
theorem dX4_takeLettersOut_21 : decode cX4_takeLettersOut 21 = .ok (.invokevirtual 208, 3) := by decide +kernel
theorem dX4_takeLettersOut_24 : decode cX4_takeLettersOut 24 = .ok (.invokevirtual 211, 3) := by decide +kernel
theorem dX4_takeLettersOut_27 : decode cX4_takeLettersOut 27 = .ok (.aload_n 0, 1) := by decide +kernel
theorem dX4_takeLettersOut_28 : decode cX4_takeLettersOut 28 = .ok (.getfield 10, 3) := by decide +kernel
theorem dX4_takeLettersOut_31 : decode cX4_takeLettersOut 31 = .ok (.iload_n 1, 1) := by decide +kernel
theorem dX4_takeLettersOut_32 : decode cX4_takeLettersOut 32 = .ok (.iload_n 2, 1) := by decide +kernel
theorem dX4_takeLettersOut_33 : decode cX4_takeLettersOut 33 = .ok (.invokevirtual 214, 3) := by decide +kernel
theorem dX4_takeLettersOut_36 : decode cX4_takeLettersOut 36 = .ok (.iload_n 3, 1) := by decide +kernel
theorem dX4_takeLettersOut_37 : decode cX4_takeLettersOut 37 = .ok (.invokestatic 217, 3) := by decide +kernel
theorem dX4_takeLettersOut_40 : decode cX4_takeLettersOut 40 = .ok (.ireturn, 1) := by decide +kernel
set_option maxRecDepth 20000 in
theorem ggX4_leaveVersion_X0_write : GoodIn wsX4_leaveVersion wsX0_write := goodIn_r _ [7, 8, 9, 10, 11, 12, 13, 14, 15, 16, 17, 18, 30, 31, 32, 33, 34] (by decide +kernel) (by decide +kernel)
set_option maxRecDepth 20000 in
theorem gX4_leaveVersion_X0_write_n222 : GoodIn wsX4_leaveVersion (wsX0_write) := ggX4_leaveVersion_X0_write
theorem dX4_leaveVersion_0 : decode cX4_leaveVersion 0 = .ok (.aload_n 0, 1) := by decide +kernel
theorem dX4_leaveVersion_1 : decode cX4_leaveVersion 1 = .ok (.getfield 33, 3) := by decide +kernel
theorem dX4_leaveVersion_4 : decode cX4_leaveVersion 4 = .ok (.aload_n 0, 1) := by decide +kernel
theorem dX4_leaveVersion_5 : decode cX4_leaveVersion 5 = .ok (.getfield 45, 3) := by decide +kernel
theorem dX4_leaveVersion_8 : decode cX4_leaveVersion 8 = .ok (.aload_n 0, 1) := by decide +kernel
theorem dX4_leaveVersion_9 : decode cX4_leaveVersion 9 = .ok (.getfield 19, 3) := by decide +kernel
theorem dX4_leaveVersion_12 : decode cX4_leaveVersion 12 = .ok (.invokevirtual 222, 3) := by decide +kernel
theorem dX4_leaveVersion_15 : decode cX4_leaveVersion 15 = .ok (.aload_n 0, 1) := by decide +kernel
theorem dX4_leaveVersion_16 : decode cX4_leaveVersion 16 = .ok (.dup, 1) := by decide +kernel
theorem dX4_leaveVersion_17 : decode cX4_leaveVersion 17 = .ok (.getfield 45, 3) := by decide +kernel
theorem dX4_leaveVersion_20 : decode cX4_leaveVersion 20 = .ok (.iconst 1, 1) := by decide +kernel
theorem dX4_leaveVersion_21 : decode cX4_leaveVersion 21 = .ok (.iadd, 1) := by decide +kernel
theorem dX4_leaveVersion_22 : decode cX4_leaveVersion 22 = .ok (.putfield 45, 3) := by decide +kernel
theorem dX4_leaveVersion_25 : decode cX4_leaveVersion 25 = .ok (.return_, 1) := by decide +kernel
set_option maxRecDepth 20000 in
theorem ggX4_letGo_X4_bit : GoodIn wsX4_letGo wsX4_bit := goodIn_r _ [6] (by decide +kernel) (by decide +kernel)
set_option maxRecDepth 20000 in
theorem gX4_letGo_X4_bit : GoodIn wsX4_letGo (va_wsS RX4 110 yX4_bit wsX4_bit) := goodIn_app (goodIn_of _ (by decide +kernel)) ggX4_letGo_X4_bit
theorem dX4_letGo_0 : decode cX4_letGo 0 = .ok (.iconst 0, 1) := by decide +kernel
theorem dX4_letGo_1 : decode cX4_letGo 1 = .ok (.istore_n 2, 1) := by decide +kernel
theorem dX4_letGo_2 : decode cX4_letGo 2 = .ok (.iload_n 2, 1) := by decide +kernel
theorem dX4_letGo_3 : decode cX4_letGo 3 = .ok (.aload_n 0, 1) := by decide +kernel
theorem dX4_letGo_4 : decode cX4_letGo 4 = .ok (.getfield 48, 3) := by decide +kernel
theorem dX4_letGo_7 : decode cX4_letGo 7 = .ok (.getfield 92, 3) := by decide +kernel
theorem dX4_letGo_10 : decode cX4_letGo 10 = .ok (.if_icmp .ge 34, 3) := by decide +kernel
theorem dX4_letGo_13 : decode cX4_letGo 13 = .ok (.iload_n 1, 1) := by decide +kernel
theorem dX4_letGo_14 : decode cX4_letGo 14 = .ok (.iload_n 2, 1) := by decide +kernel
theorem dX4_letGo_15 : decode cX4_letGo 15 = .ok (.invokestatic 110, 3) := by decide +kernel
theorem dX4_letGo_18 : decode cX4_letGo 18 = .ok (.iand, 1) := by decide +kernel
theorem dX4_letGo_19 : decode cX4_letGo 19 = .ok (.ifCond .eq 19, 3) := by decide +kernel
theorem dX4_letGo_22 : decode cX4_letGo 22 = .ok (.aload_n 0, 1) := by decide +kernel
theorem dX4_letGo_23 : decode cX4_letGo 23 = .ok (.getfield 57, 3) := by decide +kernel
theorem dX4_letGo_26 : decode cX4_letGo 26 = .ok (.iload_n 2, 1) := by decide +kernel
theorem dX4_letGo_27 : decode cX4_letGo 27 = .ok (.iaload, 1) := by decide +kernel
theorem dX4_letGo_28 : decode cX4_letGo 28 = .ok (.ifCond .ne 10, 3) := by decide +kernel
theorem dX4_letGo_31 : decode cX4_letGo 31 = .ok (.aload_n 0, 1) := by decide +kernel
theorem dX4_letGo_32 : decode cX4_letGo 32 = .ok (.getfield 57, 3) := by decide +kernel
theorem dX4_letGo_35 : decode cX4_letGo 35 = .ok (.iload_n 2, 1) := by decide +kernel
theorem dX4_letGo_36 : decode cX4_letGo 36 = .ok (.iconst 3, 1) := by decide +kernel
theorem dX4_letGo_37 : decode cX4_letGo 37 = .ok (.iastore, 1) := by decide +kernel
theorem dX4_letGo_38 : decode cX4_letGo 38 = .ok (.iinc 2 1, 3) := by decide +kernel
theorem dX4_letGo_41 : decode cX4_letGo 41 = .ok (.goto (-39), 3) := by decide +kernel
theorem dX4_letGo_44 : decode cX4_letGo 44 = .ok (.return_, 1) := by decide +kernel
theorem dX4_bit_0 : decode cX4_bit 0 = .ok (.iconst 1, 1) := by decide +kernel
theorem dX4_bit_1 : decode cX4_bit 1 = .ok (.iload_n 0, 1) := by decide +kernel
theorem dX4_bit_2 : decode cX4_bit 2 = .ok (.ishl, 1) := by decide +kernel
theorem dX4_bit_3 : decode cX4_bit 3 = .ok (.ireturn, 1) := by decide +kernel
set_option maxRecDepth 20000 in
theorem ggX4_beginsPiece_X2_covering : GoodIn wsX4_beginsPiece wsX2_covering := goodIn_r _ [5, 6, 7, 8, 9, 10, 11, 23, 24, 25, 26] (by decide +kernel) (by decide +kernel)
set_option maxRecDepth 20000 in
theorem gX4_beginsPiece_X2_covering_n146 : GoodIn wsX4_beginsPiece (wsX2_covering) := ggX4_beginsPiece_X2_covering
theorem dX4_beginsPiece_0 : decode cX4_beginsPiece 0 = .ok (.iload_n 1, 1) := by decide +kernel
theorem dX4_beginsPiece_1 : decode cX4_beginsPiece 1 = .ok (.ifCond .eq 24, 3) := by decide +kernel
theorem dX4_beginsPiece_4 : decode cX4_beginsPiece 4 = .ok (.aload_n 0, 1) := by decide +kernel
theorem dX4_beginsPiece_5 : decode cX4_beginsPiece 5 = .ok (.getfield 19, 3) := by decide +kernel
theorem dX4_beginsPiece_8 : decode cX4_beginsPiece 8 = .ok (.iload_n 1, 1) := by decide +kernel
theorem dX4_beginsPiece_9 : decode cX4_beginsPiece 9 = .ok (.invokevirtual 146, 3) := by decide +kernel
theorem dX4_beginsPiece_12 : decode cX4_beginsPiece 12 = .ok (.aload_n 0, 1) := by decide +kernel
theorem dX4_beginsPiece_13 : decode cX4_beginsPiece 13 = .ok (.getfield 19, 3) := by decide +kernel
theorem dX4_beginsPiece_16 : decode cX4_beginsPiece 16 = .ok (.iload_n 1, 1) := by decide +kernel
theorem dX4_beginsPiece_17 : decode cX4_beginsPiece 17 = .ok (.iconst 1, 1) := by decide +kernel
theorem dX4_beginsPiece_18 : decode cX4_beginsPiece 18 = .ok (.isub, 1) := by decide +kernel
theorem dX4_beginsPiece_19 : decode cX4_beginsPiece 19 = .ok (.invokevirtual 146, 3) := by decide +kernel
theorem dX4_beginsPiece_22 : decode cX4_beginsPiece 22 = .ok (.if_icmp .eq 7, 3) := by decide +kernel
theorem dX4_beginsPiece_25 : decode cX4_beginsPiece 25 = .ok (.iconst 1, 1) := by decide +kernel
theorem dX4_beginsPiece_26 : decode cX4_beginsPiece 26 = .ok (.goto 4, 3) := by decide +kernel
theorem dX4_beginsPiece_29 : decode cX4_beginsPiece 29 = .ok (.iconst 0, 1) := by decide +kernel
theorem dX4_beginsPiece_30 : decode cX4_beginsPiece 30 = .ok (.ireturn, 1) := by decide +kernel
set_option maxRecDepth 20000 in
theorem ggX4_overlapping_X2_share : GoodIn wsX4_overlapping wsX2_share := goodIn_r _ [6, 7, 8, 9, 10, 11, 12, 13, 14, 15, 31, 32, 33, 34] (by decide +kernel) (by decide +kernel)
set_option maxRecDepth 20000 in
theorem gX4_overlapping_X2_share_n226 : GoodIn wsX4_overlapping (wsX2_share) := ggX4_overlapping_X2_share
set_option maxRecDepth 20000 in
theorem ggX4_overlapping_X4_bit : GoodIn wsX4_overlapping wsX4_bit := goodIn_r _ [19] (by decide +kernel) (by decide +kernel)
set_option maxRecDepth 20000 in
theorem gX4_overlapping_X4_bit : GoodIn wsX4_overlapping (va_wsS RX4 110 yX4_bit wsX4_bit) := goodIn_app (goodIn_of _ (by decide +kernel)) ggX4_overlapping_X4_bit
theorem dX4_overlapping_0 : decode cX4_overlapping 0 = .ok (.aload_n 0, 1) := by decide +kernel
theorem dX4_overlapping_1 : decode cX4_overlapping 1 = .ok (.getfield 57, 3) := by decide +kernel
theorem dX4_overlapping_4 : decode cX4_overlapping 4 = .ok (.iload_n 1, 1) := by decide +kernel
theorem dX4_overlapping_5 : decode cX4_overlapping 5 = .ok (.iaload, 1) := by decide +kernel
theorem dX4_overlapping_6 : decode cX4_overlapping 6 = .ok (.ifCond .eq 5, 3) := by decide +kernel
theorem dX4_overlapping_9 : decode cX4_overlapping 9 = .ok (.iconst 0, 1) := by decide +kernel
theorem dX4_overlapping_10 : decode cX4_overlapping 10 = .ok (.ireturn, 1) := by decide +kernel
theorem dX4_overlapping_11 : decode cX4_overlapping 11 = .ok (.iconst 0, 1) := by decide +kernel
theorem dX4_overlapping_12 : decode cX4_overlapping 12 = .ok (.istore_n 2, 1) := by decide +kernel
theorem dX4_overlapping_13 : decode cX4_overlapping 13 = .ok (.iconst 0, 1) := by decide +kernel
theorem dX4_overlapping_14 : decode cX4_overlapping 14 = .ok (.istore_n 3, 1) := by decide +kernel
theorem dX4_overlapping_15 : decode cX4_overlapping 15 = .ok (.iload_n 3, 1) := by decide +kernel
theorem dX4_overlapping_16 : decode cX4_overlapping 16 = .ok (.aload_n 0, 1) := by decide +kernel
theorem dX4_overlapping_17 : decode cX4_overlapping 17 = .ok (.getfield 48, 3) := by decide +kernel
theorem dX4_overlapping_20 : decode cX4_overlapping 20 = .ok (.getfield 92, 3) := by decide +kernel
theorem dX4_overlapping_23 : decode cX4_overlapping 23 = .ok (.if_icmp .ge 42, 3) := by decide +kernel
theorem dX4_overlapping_26 : decode cX4_overlapping 26 = .ok (.iload_n 3, 1) := by decide +kernel
theorem dX4_overlapping_27 : decode cX4_overlapping 27 = .ok (.iload_n 1, 1) := by decide +kernel
theorem dX4_overlapping_28 : decode cX4_overlapping 28 = .ok (.if_icmp .eq 31, 3) := by decide +kernel
theorem dX4_overlapping_31 : decode cX4_overlapping 31 = .ok (.aload_n 0, 1) := by decide +kernel
theorem dX4_overlapping_32 : decode cX4_overlapping 32 = .ok (.getfield 57, 3) := by decide +kernel
theorem dX4_overlapping_35 : decode cX4_overlapping 35 = .ok (.iload_n 3, 1) := by decide +kernel
theorem dX4_overlapping_36 : decode cX4_overlapping 36 = .ok (.iaload, 1) := by decide +kernel
theorem dX4_overlapping_37 : decode cX4_overlapping 37 = .ok (.ifCond .ne 22, 3) := by decide +kernel
theorem dX4_overlapping_40 : decode cX4_overlapping 40 = .ok (.aload_n 0, 1) := by decide +kernel
theorem dX4_overlapping_41 : decode cX4_overlapping 41 = .ok (.getfield 48, 3) := by decide +kernel
theorem dX4_overlapping_44 : decode cX4_overlapping 44 = .ok (.iload_n 1, 1) := by decide +kernel
theorem dX4_overlapping_45 : decode cX4_overlapping 45 = .ok (.iload_n 3, 1) := by decide +kernel
theorem dX4_overlapping_46 : decode cX4_overlapping 46 = .ok (.invokevirtual 226, 3) := by decide +kernel
theorem dX4_overlapping_49 : decode cX4_overlapping 49 = .ok (.ifCond .eq 10, 3) := by decide +kernel
theorem dX4_overlapping_52 : decode cX4_overlapping 52 = .ok (.iload_n 2, 1) := by decide +kernel
theorem dX4_overlapping_53 : decode cX4_overlapping 53 = .ok (.iload_n 3, 1) := by decide +kernel
theorem dX4_overlapping_54 : decode cX4_overlapping 54 = .ok (.invokestatic 110, 3) := by decide +kernel
theorem dX4_overlapping_57 : decode cX4_overlapping 57 = .ok (.ior, 1) := by decide +kernel
theorem dX4_overlapping_58 : decode cX4_overlapping 58 = .ok (.istore_n 2, 1) := by decide +kernel
theorem dX4_overlapping_59 : decode cX4_overlapping 59 = .ok (.iinc 3 1, 3) := by decide +kernel
theorem dX4_overlapping_62 : decode cX4_overlapping 62 = .ok (.goto (-47), 3) := by decide +kernel
theorem dX4_overlapping_65 : decode cX4_overlapping 65 = .ok (.iload_n 2, 1) := by decide +kernel
theorem dX4_overlapping_66 : decode cX4_overlapping 66 = .ok (.ireturn, 1) := by decide +kernel
theorem dX4_countWaiting_0 : decode cX4_countWaiting 0 = .ok (.iconst 0, 1) := by decide +kernel
theorem dX4_countWaiting_1 : decode cX4_countWaiting 1 = .ok (.istore_n 1, 1) := by decide +kernel
theorem dX4_countWaiting_2 : decode cX4_countWaiting 2 = .ok (.iconst 0, 1) := by decide +kernel
theorem dX4_countWaiting_3 : decode cX4_countWaiting 3 = .ok (.istore_n 2, 1) := by decide +kernel
theorem dX4_countWaiting_4 : decode cX4_countWaiting 4 = .ok (.iload_n 2, 1) := by decide +kernel
theorem dX4_countWaiting_5 : decode cX4_countWaiting 5 = .ok (.aload_n 0, 1) := by decide +kernel
theorem dX4_countWaiting_6 : decode cX4_countWaiting 6 = .ok (.getfield 48, 3) := by decide +kernel
theorem dX4_countWaiting_9 : decode cX4_countWaiting 9 = .ok (.getfield 92, 3) := by decide +kernel
theorem dX4_countWaiting_12 : decode cX4_countWaiting 12 = .ok (.if_icmp .ge 21, 3) := by decide +kernel
theorem dX4_countWaiting_15 : decode cX4_countWaiting 15 = .ok (.aload_n 0, 1) := by decide +kernel
theorem dX4_countWaiting_16 : decode cX4_countWaiting 16 = .ok (.getfield 57, 3) := by decide +kernel
theorem dX4_countWaiting_19 : decode cX4_countWaiting 19 = .ok (.iload_n 2, 1) := by decide +kernel
theorem dX4_countWaiting_20 : decode cX4_countWaiting 20 = .ok (.iaload, 1) := by decide +kernel
theorem dX4_countWaiting_21 : decode cX4_countWaiting 21 = .ok (.ifCond .ne 6, 3) := by decide +kernel
theorem dX4_countWaiting_24 : decode cX4_countWaiting 24 = .ok (.iinc 1 1, 3) := by decide +kernel
theorem dX4_countWaiting_27 : decode cX4_countWaiting 27 = .ok (.iinc 2 1, 3) := by decide +kernel
theorem dX4_countWaiting_30 : decode cX4_countWaiting 30 = .ok (.goto (-26), 3) := by decide +kernel
theorem dX4_countWaiting_33 : decode cX4_countWaiting 33 = .ok (.iload_n 1, 1) := by decide +kernel
theorem dX4_countWaiting_34 : decode cX4_countWaiting 34 = .ok (.ireturn, 1) := by decide +kernel

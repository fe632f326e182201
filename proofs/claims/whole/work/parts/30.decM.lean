set_option maxRecDepth 20000 in
theorem ggX5_init_X5_keeps : GoodIn wsX5_init wsX5_keeps := goodIn_ca (goodIn_r _ [26, 16, 27, 28, 29, 30, 25, 31, 32, 6, 7, 33, 34, 35, 36, 37, 38, 39, 40, 41, 42, 43, 44, 45, 46, 47, 48, 49, 50, 51, 52, 53] (by decide +kernel) (by decide +kernel)) (goodIn_sub (fun _ h => List.mem_cons_of_mem _ (List.mem_append_right _ h)) (by decide +kernel))
set_option maxRecDepth 20000 in
theorem gX5_init_X5_keeps : GoodIn wsX5_init (wsV RX5 59 RX5 yX5_keeps wsX5_keeps) := goodIn_app (goodIn_of _ (by decide +kernel)) ggX5_init_X5_keeps
theorem dX5_init_0 : decode cX5_init 0 = .ok (.aload_n 0, 1) := by decide +kernel
theorem dX5_init_1 : decode cX5_init 1 = .ok (.invokespecial 1, 3) := by decide +kernel
theorem dX5_init_4 : decode cX5_init 4 = .ok (.aload_n 0, 1) := by decide +kernel
theorem dX5_init_5 : decode cX5_init 5 = .ok (.bipush 60, 2) := by decide +kernel
theorem dX5_init_7 : decode cX5_init 7 = .ok (.newarray .int, 2) := by decide +kernel
theorem dX5_init_9 : decode cX5_init 9 = .ok (.putfield 7, 3) := by decide +kernel
theorem dX5_init_12 : decode cX5_init 12 = .ok (.aload_n 0, 1) := by decide +kernel
theorem dX5_init_13 : decode cX5_init 13 = .ok (.bipush 12, 2) := by decide +kernel
theorem dX5_init_15 : decode cX5_init 15 = .ok (.newarray .int, 2) := by decide +kernel
theorem dX5_init_17 : decode cX5_init 17 = .ok (.putfield 13, 3) := by decide +kernel
theorem dX5_init_20 : decode cX5_init 20 = .ok (.aload_n 0, 1) := by decide +kernel
theorem dX5_init_21 : decode cX5_init 21 = .ok (.bipush 12, 2) := by decide +kernel
theorem dX5_init_23 : decode cX5_init 23 = .ok (.newarray .int, 2) := by decide +kernel
theorem dX5_init_25 : decode cX5_init 25 = .ok (.putfield 16, 3) := by decide +kernel
theorem dX5_init_28 : decode cX5_init 28 = .ok (.aload_n 0, 1) := by decide +kernel
theorem dX5_init_29 : decode cX5_init 29 = .ok (.bipush 12, 2) := by decide +kernel
theorem dX5_init_31 : decode cX5_init 31 = .ok (.newarray .int, 2) := by decide +kernel
theorem dX5_init_33 : decode cX5_init 33 = .ok (.putfield 19, 3) := by decide +kernel
theorem dX5_init_36 : decode cX5_init 36 = .ok (.aload_n 0, 1) := by decide +kernel
theorem dX5_init_37 : decode cX5_init 37 = .ok (.bipush 12, 2) := by decide +kernel
theorem dX5_init_39 : decode cX5_init 39 = .ok (.newarray .boolean, 2) := by decide +kernel
theorem dX5_init_41 : decode cX5_init 41 = .ok (.putfield 22, 3) := by decide +kernel
theorem dX5_init_44 : decode cX5_init 44 = .ok (.aload_n 0, 1) := by decide +kernel
theorem dX5_init_45 : decode cX5_init 45 = .ok (.bipush 12, 2) := by decide +kernel
theorem dX5_init_47 : decode cX5_init 47 = .ok (.newarray .int, 2) := by decide +kernel
theorem dX5_init_49 : decode cX5_init 49 = .ok (.putfield 26, 3) := by decide +kernel
theorem dX5_init_52 : decode cX5_init 52 = .ok (.aload_n 0, 1) := by decide +kernel
theorem dX5_init_53 : decode cX5_init 53 = .ok (.sipush 720, 3) := by decide +kernel
theorem dX5_init_56 : decode cX5_init 56 = .ok (.newarray .int, 2) := by decide +kernel
theorem dX5_init_58 : decode cX5_init 58 = .ok (.putfield 29, 3) := by decide +kernel
theorem dX5_init_61 : decode cX5_init 61 = .ok (.aload_n 0, 1) := by decide +kernel
theorem dX5_init_62 : decode cX5_init 62 = .ok (.bipush 12, 2) := by decide +kernel
theorem dX5_init_64 : decode cX5_init 64 = .ok (.newarray .int, 2) := by decide +kernel
theorem dX5_init_66 : decode cX5_init 66 = .ok (.putfield 32, 3) := by decide +kernel
theorem dX5_init_69 : decode cX5_init 69 = .ok (.aload_n 0, 1) := by decide +kernel
theorem dX5_init_70 : decode cX5_init 70 = .ok (.bipush 12, 2) := by decide +kernel
theorem dX5_init_72 : decode cX5_init 72 = .ok (.newarray .int, 2) := by decide +kernel
theorem dX5_init_74 : decode cX5_init 74 = .ok (.putfield 35, 3) := by decide +kernel
theorem dX5_init_77 : decode cX5_init 77 = .ok (.aload_n 0, 1) := by decide +kernel
theorem dX5_init_78 : decode cX5_init 78 = .ok (.bipush 12, 2) := by decide +kernel
theorem dX5_init_80 : decode cX5_init 80 = .ok (.newarray .int, 2) := by decide +kernel
theorem dX5_init_82 : decode cX5_init 82 = .ok (.putfield 38, 3) := by decide +kernel
theorem dX5_init_85 : decode cX5_init 85 = .ok (.aload_n 0, 1) := by decide +kernel
theorem dX5_init_86 : decode cX5_init 86 = .ok (.sipush 3612, 3) := by decide +kernel
theorem dX5_init_89 : decode cX5_init 89 = .ok (.newarray .int, 2) := by decide +kernel
theorem dX5_init_91 : decode cX5_init 91 = .ok (.putfield 41, 3) := by decide +kernel
theorem dX5_init_94 : decode cX5_init 94 = .ok (.aload_n 0, 1) := by decide +kernel
theorem dX5_init_95 : decode cX5_init 95 = .ok (.bipush 10, 2) := by decide +kernel
theorem dX5_init_97 : decode cX5_init 97 = .ok (.newarray .int, 2) := by decide +kernel
theorem dX5_init_99 : decode cX5_init 99 = .ok (.putfield 44, 3) := by decide +kernel
theorem dX5_init_102 : decode cX5_init 102 = .ok (.aload_n 0, 1) := by decide +kernel
theorem dX5_init_103 : decode cX5_init 103 = .ok (.bipush 10, 2) := by decide +kernel
theorem dX5_init_105 : decode cX5_init 105 = .ok (.newarray .int, 2) := by decide +kernel
theorem dX5_init_107 : decode cX5_init 107 = .ok (.putfield 47, 3) := by decide +kernel
theorem dX5_init_110 : decode cX5_init 110 = .ok (.aload_n 0, 1) := by decide +kernel
theorem dX5_init_111 : decode cX5_init 111 = .ok (.bipush 10, 2) := by decide +kernel
theorem dX5_init_113 : decode cX5_init 113 = .ok (.newarray .int, 2) := by decide +kernel
theorem dX5_init_115 : decode cX5_init 115 = .ok (.putfield 50, 3) := by decide +kernel
theorem dX5_init_118 : decode cX5_init 118 = .ok (.aload_n 0, 1) := by decide +kernel
theorem dX5_init_119 : decode cX5_init 119 = .ok (.bipush 10, 2) := by decide +kernel
theorem dX5_init_121 : decode cX5_init 121 = .ok (.newarray .int, 2) := by decide +kernel
theorem dX5_init_123 : decode cX5_init 123 = .ok (.putfield 53, 3) := by decide +kernel
theorem dX5_init_126 : decode cX5_init 126 = .ok (.aload_n 0, 1) := by decide +kernel
theorem dX5_init_127 : decode cX5_init 127 = .ok (.bipush 10, 2) := by decide +kernel
theorem dX5_init_129 : decode cX5_init 129 = .ok (.newarray .int, 2) := by decide +kernel
theorem dX5_init_131 : decode cX5_init 131 = .ok (.putfield 56, 3) := by decide +kernel
theorem dX5_init_134 : decode cX5_init 134 = .ok (.aload_n 0, 1) := by decide +kernel
theorem dX5_init_135 : decode cX5_init 135 = .ok (.invokevirtual 59, 3) := by decide +kernel
theorem dX5_init_138 : decode cX5_init 138 = .ok (.return_, 1) := by decide +kernel
theorem dX5_thrown_0 : decode cX5_thrown 0 = .ok (.aload_n 0, 1) := by decide +kernel
theorem dX5_thrown_1 : decode cX5_thrown 1 = .ok (.getfield 62, 3) := by decide +kernel
theorem dX5_thrown_4 : decode cX5_thrown 4 = .ok (.ireturn, 1) := by decide +kernel
theorem dX5_fails_0 : decode cX5_fails 0 = .ok (.aload_n 0, 1) := by decide +kernel
theorem dX5_fails_1 : decode cX5_fails 1 = .ok (.iload_n 1, 1) := by decide +kernel
theorem dX5_fails_2 : decode cX5_fails 2 = .ok (.putfield 62, 3) := by decide +kernel
theorem dX5_fails_5 : decode cX5_fails 5 = .ok (.iconst 0, 1) := by decide +kernel
theorem dX5_fails_6 : decode cX5_fails 6 = .ok (.ireturn, 1) := by decide +kernel
theorem dX5_in_0 : decode cX5_in 0 = .ok (.iload_n 0, 1) := by decide +kernel
theorem dX5_in_1 : decode cX5_in 1 = .ok (.iload_n 1, 1) := by decide +kernel
theorem dX5_in_2 : decode cX5_in 2 = .ok (.if_icmp .lt 12, 3) := by decide +kernel
theorem dX5_in_5 : decode cX5_in 5 = .ok (.iload_n 0, 1) := by decide +kernel
theorem dX5_in_6 : decode cX5_in 6 = .ok (.iload_n 2, 1) := by decide +kernel
theorem dX5_in_7 : decode cX5_in 7 = .ok (.if_icmp .gt 7, 3) := by decide +kernel
theorem dX5_in_10 : decode cX5_in 10 = .ok (.iconst 1, 1) := by decide +kernel
theorem dX5_in_11 : decode cX5_in 11 = .ok (.goto 4, 3) := by decide +kernel
theorem dX5_in_14 : decode cX5_in 14 = .ok (.iconst 0, 1) := by decide +kernel
theorem dX5_in_15 : decode cX5_in 15 = .ok (.ireturn, 1) := by decide +kernel
set_option maxRecDepth 20000 in
theorem ggX5_isPlace_X5_in : GoodIn wsX5_isPlace wsX5_in := goodIn_r _ [5] (by decide +kernel) (by decide +kernel)
set_option maxRecDepth 20000 in
theorem gX5_isPlace_X5_in : GoodIn wsX5_isPlace (va_wsS RX5 69 yX5_in wsX5_in) := goodIn_app (goodIn_of _ (by decide +kernel)) ggX5_isPlace_X5_in
theorem dX5_isPlace_0 : decode cX5_isPlace 0 = .ok (.iload_n 1, 1) := by decide +kernel
theorem dX5_isPlace_1 : decode cX5_isPlace 1 = .ok (.iconst 0, 1) := by decide +kernel
theorem dX5_isPlace_2 : decode cX5_isPlace 2 = .ok (.aload_n 0, 1) := by decide +kernel
theorem dX5_isPlace_3 : decode cX5_isPlace 3 = .ok (.getfield 66, 3) := by decide +kernel
theorem dX5_isPlace_6 : decode cX5_isPlace 6 = .ok (.invokestatic 69, 3) := by decide +kernel
theorem dX5_isPlace_9 : decode cX5_isPlace 9 = .ok (.ireturn, 1) := by decide +kernel
set_option maxRecDepth 20000 in
theorem ggX5_isComment_X5_in : GoodIn wsX5_isComment wsX5_in := goodIn_r _ [5] (by decide +kernel) (by decide +kernel)
set_option maxRecDepth 20000 in
theorem gX5_isComment_X5_in : GoodIn wsX5_isComment (va_wsS RX5 69 yX5_in wsX5_in) := goodIn_app (goodIn_of _ (by decide +kernel)) ggX5_isComment_X5_in
theorem dX5_isComment_0 : decode cX5_isComment 0 = .ok (.iload_n 1, 1) := by decide +kernel
theorem dX5_isComment_1 : decode cX5_isComment 1 = .ok (.iconst 0, 1) := by decide +kernel
theorem dX5_isComment_2 : decode cX5_isComment 2 = .ok (.aload_n 0, 1) := by decide +kernel
theorem dX5_isComment_3 : decode cX5_isComment 3 = .ok (.getfield 73, 3) := by decide +kernel
theorem dX5_isComment_6 : decode cX5_isComment 6 = .ok (.iconst 1, 1) := by decide +kernel
theorem dX5_isComment_7 : decode cX5_isComment 7 = .ok (.isub, 1) := by decide +kernel
theorem dX5_isComment_8 : decode cX5_isComment 8 = .ok (.invokestatic 69, 3) := by decide +kernel
theorem dX5_isComment_11 : decode cX5_isComment 11 = .ok (.ireturn, 1) := by decide +kernel
set_option maxRecDepth 20000 in
theorem ggX5_isSuggestion_X5_in : GoodIn wsX5_isSuggestion wsX5_in := goodIn_r _ [5] (by decide +kernel) (by decide +kernel)
set_option maxRecDepth 20000 in
theorem gX5_isSuggestion_X5_in : GoodIn wsX5_isSuggestion (va_wsS RX5 69 yX5_in wsX5_in) := goodIn_app (goodIn_of _ (by decide +kernel)) ggX5_isSuggestion_X5_in
theorem dX5_isSuggestion_0 : decode cX5_isSuggestion 0 = .ok (.iload_n 1, 1) := by decide +kernel
theorem dX5_isSuggestion_1 : decode cX5_isSuggestion 1 = .ok (.iconst 0, 1) := by decide +kernel
theorem dX5_isSuggestion_2 : decode cX5_isSuggestion 2 = .ok (.aload_n 0, 1) := by decide +kernel
theorem dX5_isSuggestion_3 : decode cX5_isSuggestion 3 = .ok (.getfield 76, 3) := by decide +kernel
theorem dX5_isSuggestion_6 : decode cX5_isSuggestion 6 = .ok (.iconst 1, 1) := by decide +kernel
theorem dX5_isSuggestion_7 : decode cX5_isSuggestion 7 = .ok (.isub, 1) := by decide +kernel
theorem dX5_isSuggestion_8 : decode cX5_isSuggestion 8 = .ok (.invokestatic 69, 3) := by decide +kernel
theorem dX5_isSuggestion_11 : decode cX5_isSuggestion 11 = .ok (.ireturn, 1) := by decide +kernel
theorem dX5_told_0 : decode cX5_told 0 = .ok (.iload_n 1, 1) := by decide +kernel
theorem dX5_told_1 : decode cX5_told 1 = .ok (.aload_n 0, 1) := by decide +kernel
theorem dX5_told_2 : decode cX5_told 2 = .ok (.getfield 73, 3) := by decide +kernel
theorem dX5_told_5 : decode cX5_told 5 = .ok (.if_icmp .ge 13, 3) := by decide +kernel
theorem dX5_told_8 : decode cX5_told 8 = .ok (.aload_n 0, 1) := by decide +kernel
theorem dX5_told_9 : decode cX5_told 9 = .ok (.getfield 13, 3) := by decide +kernel
theorem dX5_told_12 : decode cX5_told 12 = .ok (.iload_n 1, 1) := by decide +kernel
theorem dX5_told_13 : decode cX5_told 13 = .ok (.iaload, 1) := by decide +kernel
theorem dX5_told_14 : decode cX5_told 14 = .ok (.iconst (-1), 1) := by decide +kernel
theorem dX5_told_15 : decode cX5_told 15 = .ok (.if_icmp .ne 7, 3) := by decide +kernel
theorem dX5_told_18 : decode cX5_told 18 = .ok (.iconst (-1), 1) := by decide +kernel
theorem dX5_told_19 : decode cX5_told 19 = .ok (.goto 19, 3) := by decide +kernel
theorem dX5_told_22 : decode cX5_told 22 = .ok (.bipush 100, 2) := by decide +kernel
theorem dX5_told_24 : decode cX5_told 24 = .ok (.aload_n 0, 1) := by decide +kernel
theorem dX5_told_25 : decode cX5_told 25 = .ok (.getfield 13, 3) := by decide +kernel
theorem dX5_told_28 : decode cX5_told 28 = .ok (.iload_n 1, 1) := by decide +kernel
theorem dX5_told_29 : decode cX5_told 29 = .ok (.iaload, 1) := by decide +kernel
theorem dX5_told_30 : decode cX5_told 30 = .ok (.imul, 1) := by decide +kernel
theorem dX5_told_31 : decode cX5_told 31 = .ok (.aload_n 0, 1) := by decide +kernel
theorem dX5_told_32 : decode cX5_told 32 = .ok (.getfield 16, 3) := by decide +kernel
theorem dX5_told_35 : decode cX5_told 35 = .ok (.iload_n 1, 1) := by decide +kernel
theorem dX5_told_36 : decode cX5_told 36 = .ok (.iaload, 1) := by decide +kernel
theorem dX5_told_37 : decode cX5_told 37 = .ok (.iadd, 1) := by decide +kernel
theorem dX5_told_38 : decode cX5_told 38 = .ok (.ireturn, 1) := by decide +kernel
set_option maxRecDepth 20000 in
theorem ggX5_keeps_X5_told : GoodIn wsX5_keeps wsX5_told := goodIn_ca (goodIn_r _ [7, 8, 9, 10, 11, 12, 13, 14, 15, 16, 17, 18, 19, 20, 21, 22, 23, 24, 25, 26, 27, 28, 29, 30, 31] (by decide +kernel) (by decide +kernel)) (goodIn_sub (fun _ h => List.mem_cons_of_mem _ (List.mem_append_right _ h)) (by decide +kernel))
set_option maxRecDepth 20000 in
theorem gX5_keeps_X5_told : GoodIn wsX5_keeps (wsV RX5 82 RX5 yX5_told wsX5_told) := goodIn_app (goodIn_of _ (by decide +kernel)) ggX5_keeps_X5_told
theorem dX5_keeps_0 : decode cX5_keeps 0 = .ok (.iconst 0, 1) := by decide +kernel
theorem dX5_keeps_1 : decode cX5_keeps 1 = .ok (.istore_n 1, 1) := by decide +kernel
theorem dX5_keeps_2 : decode cX5_keeps 2 = .ok (.iload_n 1, 1) := by decide +kernel
theorem dX5_keeps_3 : decode cX5_keeps 3 = .ok (.bipush 12, 2) := by decide +kernel
theorem dX5_keeps_5 : decode cX5_keeps 5 = .ok (.if_icmp .ge 28, 3) := by decide +kernel
theorem dX5_keeps_8 : decode cX5_keeps 8 = .ok (.aload_n 0, 1) := by decide +kernel
theorem dX5_keeps_9 : decode cX5_keeps 9 = .ok (.getfield 41, 3) := by decide +kernel
theorem dX5_keeps_12 : decode cX5_keeps 12 = .ok (.bipush 12, 2) := by decide +kernel
theorem dX5_keeps_14 : decode cX5_keeps 14 = .ok (.aload_n 0, 1) := by decide +kernel
theorem dX5_keeps_15 : decode cX5_keeps 15 = .ok (.getfield 79, 3) := by decide +kernel
theorem dX5_keeps_18 : decode cX5_keeps 18 = .ok (.imul, 1) := by decide +kernel
theorem dX5_keeps_19 : decode cX5_keeps 19 = .ok (.iload_n 1, 1) := by decide +kernel
theorem dX5_keeps_20 : decode cX5_keeps 20 = .ok (.iadd, 1) := by decide +kernel
theorem dX5_keeps_21 : decode cX5_keeps 21 = .ok (.aload_n 0, 1) := by decide +kernel
theorem dX5_keeps_22 : decode cX5_keeps 22 = .ok (.iload_n 1, 1) := by decide +kernel
theorem dX5_keeps_23 : decode cX5_keeps 23 = .ok (.invokevirtual 82, 3) := by decide +kernel
theorem dX5_keeps_26 : decode cX5_keeps 26 = .ok (.iastore, 1) := by decide +kernel
theorem dX5_keeps_27 : decode cX5_keeps 27 = .ok (.iinc 1 1, 3) := by decide +kernel
theorem dX5_keeps_30 : decode cX5_keeps 30 = .ok (.goto (-28), 3) := by decide +kernel
theorem dX5_keeps_33 : decode cX5_keeps 33 = .ok (.return_, 1) := by decide +kernel
set_option maxRecDepth 20000 in
theorem ggX5_letterOf_X5_in : GoodIn wsX5_letterOf wsX5_in := goodIn_r _ [6] (by decide +kernel) (by decide +kernel)
set_option maxRecDepth 20000 in
theorem gX5_letterOf_X5_in : GoodIn wsX5_letterOf (va_wsS RX5 69 yX5_in wsX5_in) := goodIn_app (goodIn_of _ (by decide +kernel)) ggX5_letterOf_X5_in
theorem dX5_letterOf_0 : decode cX5_letterOf 0 = .ok (.iload_n 1, 1) := by decide +kernel
theorem dX5_letterOf_1 : decode cX5_letterOf 1 = .ok (.iconst 0, 1) := by decide +kernel
theorem dX5_letterOf_2 : decode cX5_letterOf 2 = .ok (.aload_n 0, 1) := by decide +kernel
theorem dX5_letterOf_3 : decode cX5_letterOf 3 = .ok (.getfield 66, 3) := by decide +kernel
theorem dX5_letterOf_6 : decode cX5_letterOf 6 = .ok (.iconst 1, 1) := by decide +kernel
theorem dX5_letterOf_7 : decode cX5_letterOf 7 = .ok (.isub, 1) := by decide +kernel
theorem dX5_letterOf_8 : decode cX5_letterOf 8 = .ok (.invokestatic 69, 3) := by decide +kernel
theorem dX5_letterOf_11 : decode cX5_letterOf 11 = .ok (.ifCond .eq 12, 3) := by decide +kernel
theorem dX5_letterOf_14 : decode cX5_letterOf 14 = .ok (.aload_n 0, 1) := by decide +kernel
theorem dX5_letterOf_15 : decode cX5_letterOf 15 = .ok (.getfield 7, 3) := by decide +kernel
theorem dX5_letterOf_18 : decode cX5_letterOf 18 = .ok (.iload_n 1, 1) := by decide +kernel
theorem dX5_letterOf_19 : decode cX5_letterOf 19 = .ok (.iaload, 1) := by decide +kernel
theorem dX5_letterOf_20 : decode cX5_letterOf 20 = .ok (.goto 4, 3) := by decide +kernel
theorem dX5_letterOf_23 : decode cX5_letterOf 23 = .ok (.iconst (-1), 1) := by decide +kernel
theorem dX5_letterOf_24 : decode cX5_letterOf 24 = .ok (.ireturn, 1) := by decide +kernel
theorem dX5_inserts_0 : decode cX5_inserts 0 = .ok (.aload_n 0, 1) := by decide +kernel
theorem dX5_inserts_1 : decode cX5_inserts 1 = .ok (.getfield 66, 3) := by decide +kernel
theorem dX5_inserts_4 : decode cX5_inserts 4 = .ok (.iconst 1, 1) := by decide +kernel
theorem dX5_inserts_5 : decode cX5_inserts 5 = .ok (.isub, 1) := by decide +kernel
theorem dX5_inserts_6 : decode cX5_inserts 6 = .ok (.istore 4, 2) := by decide +kernel
theorem dX5_inserts_8 : decode cX5_inserts 8 = .ok (.iload 4, 2) := by decide +kernel
theorem dX5_inserts_10 : decode cX5_inserts 10 = .ok (.iload_n 1, 1) := by decide +kernel
theorem dX5_inserts_11 : decode cX5_inserts 11 = .ok (.if_icmp .lt 25, 3) := by decide +kernel
theorem dX5_inserts_14 : decode cX5_inserts 14 = .ok (.aload_n 0, 1) := by decide +kernel
theorem dX5_inserts_15 : decode cX5_inserts 15 = .ok (.getfield 7, 3) := by decide +kernel
theorem dX5_inserts_18 : decode cX5_inserts 18 = .ok (.iload 4, 2) := by decide +kernel
theorem dX5_inserts_20 : decode cX5_inserts 20 = .ok (.iload_n 3, 1) := by decide +kernel
theorem dX5_inserts_21 : decode cX5_inserts 21 = .ok (.iadd, 1) := by decide +kernel
theorem dX5_inserts_22 : decode cX5_inserts 22 = .ok (.aload_n 0, 1) := by decide +kernel
theorem dX5_inserts_23 : decode cX5_inserts 23 = .ok (.getfield 7, 3) := by decide +kernel
theorem dX5_inserts_26 : decode cX5_inserts 26 = .ok (.iload 4, 2) := by decide +kernel
theorem dX5_inserts_28 : decode cX5_inserts 28 = .ok (.iaload, 1) := by decide +kernel
theorem dX5_inserts_29 : decode cX5_inserts 29 = .ok (.iastore, 1) := by decide +kernel
theorem dX5_inserts_30 : decode cX5_inserts 30 = .ok (.iinc 4 (-1), 3) := by decide +kernel
theorem dX5_inserts_33 : decode cX5_inserts 33 = .ok (.goto (-25), 3) := by decide +kernel
theorem dX5_inserts_36 : decode cX5_inserts 36 = .ok (.iconst 0, 1) := by decide +kernel
theorem dX5_inserts_37 : decode cX5_inserts 37 = .ok (.istore 4, 2) := by decide +kernel
theorem dX5_inserts_39 : decode cX5_inserts 39 = .ok (.iload 4, 2) := by decide +kernel
theorem dX5_inserts_41 : decode cX5_inserts 41 = .ok (.iload_n 3, 1) := by decide +kernel
theorem dX5_inserts_42 : decode cX5_inserts 42 = .ok (.if_icmp .ge 19, 3) := by decide +kernel
theorem dX5_inserts_45 : decode cX5_inserts 45 = .ok (.aload_n 0, 1) := by decide +kernel
theorem dX5_inserts_46 : decode cX5_inserts 46 = .ok (.getfield 7, 3) := by decide +kernel
theorem dX5_inserts_49 : decode cX5_inserts 49 = .ok (.iload_n 1, 1) := by decide +kernel
theorem dX5_inserts_50 : decode cX5_inserts 50 = .ok (.iload 4, 2) := by decide +kernel
theorem dX5_inserts_52 : decode cX5_inserts 52 = .ok (.iadd, 1) := by decide +kernel
theorem dX5_inserts_53 : decode cX5_inserts 53 = .ok (.iload_n 2, 1) := by decide +kernel
theorem dX5_inserts_54 : decode cX5_inserts 54 = .ok (.iastore, 1) := by decide +kernel
theorem dX5_inserts_55 : decode cX5_inserts 55 = .ok (.iinc 4 1, 3) := by decide +kernel
theorem dX5_inserts_58 : decode cX5_inserts 58 = .ok (.goto (-19), 3) := by decide +kernel
theorem dX5_inserts_61 : decode cX5_inserts 61 = .ok (.aload_n 0, 1) := by decide +kernel
theorem dX5_inserts_62 : decode cX5_inserts 62 = .ok (.dup, 1) := by decide +kernel
theorem dX5_inserts_63 : decode cX5_inserts 63 = .ok (.getfield 66, 3) := by decide +kernel
theorem dX5_inserts_66 : decode cX5_inserts 66 = .ok (.iload_n 3, 1) := by decide +kernel
theorem dX5_inserts_67 : decode cX5_inserts 67 = .ok (.iadd, 1) := by decide +kernel
theorem dX5_inserts_68 : decode cX5_inserts 68 = .ok (.putfield 66, 3) := by decide +kernel
theorem dX5_inserts_71 : decode cX5_inserts 71 = .ok (.iconst 0, 1) := by decide +kernel
theorem dX5_inserts_72 : decode cX5_inserts 72 = .ok (.istore 4, 2) := by decide +kernel
theorem dX5_inserts_74 : decode cX5_inserts 74 = .ok (.iload 4, 2) := by decide +kernel
theorem dX5_inserts_76 : decode cX5_inserts 76 = .ok (.aload_n 0, 1) := by decide +kernel
theorem dX5_inserts_77 : decode cX5_inserts 77 = .ok (.getfield 73, 3) := by decide +kernel
theorem dX5_inserts_80 : decode cX5_inserts 80 = .ok (.if_icmp .ge 160, 3) := by decide +kernel
theorem dX5_inserts_83 : decode cX5_inserts 83 = .ok (.aload_n 0, 1) := by decide +kernel
theorem dX5_inserts_84 : decode cX5_inserts 84 = .ok (.getfield 13, 3) := by decide +kernel
theorem dX5_inserts_87 : decode cX5_inserts 87 = .ok (.iload 4, 2) := by decide +kernel
theorem dX5_inserts_89 : decode cX5_inserts 89 = .ok (.iaload, 1) := by decide +kernel
theorem dX5_inserts_90 : decode cX5_inserts 90 = .ok (.iconst (-1), 1) := by decide +kernel
theorem dX5_inserts_91 : decode cX5_inserts 91 = .ok (.if_icmp .eq 7, 3) := by decide +kernel
theorem dX5_inserts_94 : decode cX5_inserts 94 = .ok (.iconst 1, 1) := by decide +kernel
theorem dX5_inserts_95 : decode cX5_inserts 95 = .ok (.goto 4, 3) := by decide +kernel
theorem dX5_inserts_98 : decode cX5_inserts 98 = .ok (.iconst 0, 1) := by decide +kernel
theorem dX5_inserts_99 : decode cX5_inserts 99 = .ok (.istore 5, 2) := by decide +kernel
theorem dX5_inserts_101 : decode cX5_inserts 101 = .ok (.aload_n 0, 1) := by decide +kernel
theorem dX5_inserts_102 : decode cX5_inserts 102 = .ok (.getfield 13, 3) := by decide +kernel
theorem dX5_inserts_105 : decode cX5_inserts 105 = .ok (.iload 4, 2) := by decide +kernel
theorem dX5_inserts_107 : decode cX5_inserts 107 = .ok (.iaload, 1) := by decide +kernel
theorem dX5_inserts_108 : decode cX5_inserts 108 = .ok (.iload_n 1, 1) := by decide +kernel
theorem dX5_inserts_109 : decode cX5_inserts 109 = .ok (.if_icmp .gt 26, 3) := by decide +kernel
theorem dX5_inserts_112 : decode cX5_inserts 112 = .ok (.aload_n 0, 1) := by decide +kernel
theorem dX5_inserts_113 : decode cX5_inserts 113 = .ok (.getfield 13, 3) := by decide +kernel
theorem dX5_inserts_116 : decode cX5_inserts 116 = .ok (.iload 4, 2) := by decide +kernel
theorem dX5_inserts_118 : decode cX5_inserts 118 = .ok (.iaload, 1) := by decide +kernel
theorem dX5_inserts_119 : decode cX5_inserts 119 = .ok (.iload_n 1, 1) := by decide +kernel
theorem dX5_inserts_120 : decode cX5_inserts 120 = .ok (.if_icmp .ne 19, 3) := by decide +kernel
theorem dX5_inserts_123 : decode cX5_inserts 123 = .ok (.aload_n 0, 1) := by decide +kernel
theorem dX5_inserts_124 : decode cX5_inserts 124 = .ok (.getfield 19, 3) := by decide +kernel
theorem dX5_inserts_127 : decode cX5_inserts 127 = .ok (.iload 4, 2) := by decide +kernel
theorem dX5_inserts_129 : decode cX5_inserts 129 = .ok (.iaload, 1) := by decide +kernel
theorem dX5_inserts_130 : decode cX5_inserts 130 = .ok (.iconst 2, 1) := by decide +kernel
theorem dX5_inserts_131 : decode cX5_inserts 131 = .ok (.irem, 1) := by decide +kernel
theorem dX5_inserts_132 : decode cX5_inserts 132 = .ok (.ifCond .ne 7, 3) := by decide +kernel
theorem dX5_inserts_135 : decode cX5_inserts 135 = .ok (.iconst 1, 1) := by decide +kernel
theorem dX5_inserts_136 : decode cX5_inserts 136 = .ok (.goto 4, 3) := by decide +kernel
theorem dX5_inserts_139 : decode cX5_inserts 139 = .ok (.iconst 0, 1) := by decide +kernel
theorem dX5_inserts_140 : decode cX5_inserts 140 = .ok (.istore 6, 2) := by decide +kernel
theorem dX5_inserts_142 : decode cX5_inserts 142 = .ok (.aload_n 0, 1) := by decide +kernel
theorem dX5_inserts_143 : decode cX5_inserts 143 = .ok (.getfield 16, 3) := by decide +kernel
theorem dX5_inserts_146 : decode cX5_inserts 146 = .ok (.iload 4, 2) := by decide +kernel
theorem dX5_inserts_148 : decode cX5_inserts 148 = .ok (.iaload, 1) := by decide +kernel
theorem dX5_inserts_149 : decode cX5_inserts 149 = .ok (.iload_n 1, 1) := by decide +kernel
theorem dX5_inserts_150 : decode cX5_inserts 150 = .ok (.if_icmp .gt 27, 3) := by decide +kernel
theorem dX5_inserts_153 : decode cX5_inserts 153 = .ok (.aload_n 0, 1) := by decide +kernel
theorem dX5_inserts_154 : decode cX5_inserts 154 = .ok (.getfield 16, 3) := by decide +kernel
theorem dX5_inserts_157 : decode cX5_inserts 157 = .ok (.iload 4, 2) := by decide +kernel
theorem dX5_inserts_159 : decode cX5_inserts 159 = .ok (.iaload, 1) := by decide +kernel
theorem dX5_inserts_160 : decode cX5_inserts 160 = .ok (.iload_n 1, 1) := by decide +kernel
theorem dX5_inserts_161 : decode cX5_inserts 161 = .ok (.if_icmp .ne 20, 3) := by decide +kernel
theorem dX5_inserts_164 : decode cX5_inserts 164 = .ok (.aload_n 0, 1) := by decide +kernel
theorem dX5_inserts_165 : decode cX5_inserts 165 = .ok (.getfield 19, 3) := by decide +kernel
theorem dX5_inserts_168 : decode cX5_inserts 168 = .ok (.iload 4, 2) := by decide +kernel
theorem dX5_inserts_170 : decode cX5_inserts 170 = .ok (.iaload, 1) := by decide +kernel
theorem dX5_inserts_171 : decode cX5_inserts 171 = .ok (.iconst 2, 1) := by decide +kernel
theorem dX5_inserts_172 : decode cX5_inserts 172 = .ok (.idiv, 1) := by decide +kernel
theorem dX5_inserts_173 : decode cX5_inserts 173 = .ok (.iconst 1, 1) := by decide +kernel
theorem dX5_inserts_174 : decode cX5_inserts 174 = .ok (.if_icmp .ne 7, 3) := by decide +kernel
theorem dX5_inserts_177 : decode cX5_inserts 177 = .ok (.iconst 1, 1) := by decide +kernel
theorem dX5_inserts_178 : decode cX5_inserts 178 = .ok (.goto 4, 3) := by decide +kernel
theorem dX5_inserts_181 : decode cX5_inserts 181 = .ok (.iconst 0, 1) := by decide +kernel
theorem dX5_inserts_182 : decode cX5_inserts 182 = .ok (.istore 7, 2) := by decide +kernel
theorem dX5_inserts_184 : decode cX5_inserts 184 = .ok (.aload_n 0, 1) := by decide +kernel
theorem dX5_inserts_185 : decode cX5_inserts 185 = .ok (.getfield 13, 3) := by decide +kernel
theorem dX5_inserts_188 : decode cX5_inserts 188 = .ok (.iload 4, 2) := by decide +kernel
theorem dX5_inserts_190 : decode cX5_inserts 190 = .ok (.dup2, 1) := by decide +kernel
theorem dX5_inserts_191 : decode cX5_inserts 191 = .ok (.iaload, 1) := by decide +kernel
theorem dX5_inserts_192 : decode cX5_inserts 192 = .ok (.iload 5, 2) := by decide +kernel
theorem dX5_inserts_194 : decode cX5_inserts 194 = .ok (.ifCond .eq 12, 3) := by decide +kernel
theorem dX5_inserts_197 : decode cX5_inserts 197 = .ok (.iload 6, 2) := by decide +kernel
theorem dX5_inserts_199 : decode cX5_inserts 199 = .ok (.ifCond .eq 7, 3) := by decide +kernel
theorem dX5_inserts_202 : decode cX5_inserts 202 = .ok (.iload_n 3, 1) := by decide +kernel
theorem dX5_inserts_203 : decode cX5_inserts 203 = .ok (.goto 4, 3) := by decide +kernel
theorem dX5_inserts_206 : decode cX5_inserts 206 = .ok (.iconst 0, 1) := by decide +kernel
theorem dX5_inserts_207 : decode cX5_inserts 207 = .ok (.iadd, 1) := by decide +kernel
theorem dX5_inserts_208 : decode cX5_inserts 208 = .ok (.iastore, 1) := by decide +kernel
theorem dX5_inserts_209 : decode cX5_inserts 209 = .ok (.aload_n 0, 1) := by decide +kernel
theorem dX5_inserts_210 : decode cX5_inserts 210 = .ok (.getfield 16, 3) := by decide +kernel
theorem dX5_inserts_213 : decode cX5_inserts 213 = .ok (.iload 4, 2) := by decide +kernel
theorem dX5_inserts_215 : decode cX5_inserts 215 = .ok (.dup2, 1) := by decide +kernel
theorem dX5_inserts_216 : decode cX5_inserts 216 = .ok (.iaload, 1) := by decide +kernel
theorem dX5_inserts_217 : decode cX5_inserts 217 = .ok (.iload 5, 2) := by decide +kernel
theorem dX5_inserts_219 : decode cX5_inserts 219 = .ok (.ifCond .eq 12, 3) := by decide +kernel
theorem dX5_inserts_222 : decode cX5_inserts 222 = .ok (.iload 7, 2) := by decide +kernel
theorem dX5_inserts_224 : decode cX5_inserts 224 = .ok (.ifCond .eq 7, 3) := by decide +kernel
theorem dX5_inserts_227 : decode cX5_inserts 227 = .ok (.iload_n 3, 1) := by decide +kernel
theorem dX5_inserts_228 : decode cX5_inserts 228 = .ok (.goto 4, 3) := by decide +kernel
theorem dX5_inserts_231 : decode cX5_inserts 231 = .ok (.iconst 0, 1) := by decide +kernel
theorem dX5_inserts_232 : decode cX5_inserts 232 = .ok (.iadd, 1) := by decide +kernel
theorem dX5_inserts_233 : decode cX5_inserts 233 = .ok (.iastore, 1) := by decide +kernel
theorem dX5_inserts_234 : decode cX5_inserts 234 = .ok (.iinc 4 1, 3) := by decide +kernel
theorem dX5_inserts_237 : decode cX5_inserts 237 = .ok (.goto (-163), 3) := by decide +kernel
theorem dX5_inserts_240 : decode cX5_inserts 240 = .ok (.iconst 0, 1) := by decide +kernel
theorem dX5_inserts_241 : decode cX5_inserts 241 = .ok (.istore 4, 2) := by decide +kernel
theorem dX5_inserts_243 : decode cX5_inserts 243 = .ok (.iload 4, 2) := by decide +kernel
theorem dX5_inserts_245 : decode cX5_inserts 245 = .ok (.aload_n 0, 1) := by decide +kernel
theorem dX5_inserts_246 : decode cX5_inserts 246 = .ok (.getfield 76, 3) := by decide +kernel
theorem dX5_inserts_249 : decode cX5_inserts 249 = .ok (.if_icmp .ge 61, 3) := by decide +kernel
theorem dX5_inserts_252 : decode cX5_inserts 252 = .ok (.aload_n 0, 1) := by decide +kernel
theorem dX5_inserts_253 : decode cX5_inserts 253 = .ok (.getfield 44, 3) := by decide +kernel
theorem dX5_inserts_256 : decode cX5_inserts 256 = .ok (.iload 4, 2) := by decide +kernel
theorem dX5_inserts_258 : decode cX5_inserts 258 = .ok (.dup2, 1) := by decide +kernel
theorem dX5_inserts_259 : decode cX5_inserts 259 = .ok (.iaload, 1) := by decide +kernel
theorem dX5_inserts_260 : decode cX5_inserts 260 = .ok (.aload_n 0, 1) := by decide +kernel
theorem dX5_inserts_261 : decode cX5_inserts 261 = .ok (.getfield 44, 3) := by decide +kernel
theorem dX5_inserts_264 : decode cX5_inserts 264 = .ok (.iload 4, 2) := by decide +kernel
theorem dX5_inserts_266 : decode cX5_inserts 266 = .ok (.iaload, 1) := by decide +kernel
theorem dX5_inserts_267 : decode cX5_inserts 267 = .ok (.iload_n 1, 1) := by decide +kernel
theorem dX5_inserts_268 : decode cX5_inserts 268 = .ok (.if_icmp .lt 7, 3) := by decide +kernel
theorem dX5_inserts_271 : decode cX5_inserts 271 = .ok (.iload_n 3, 1) := by decide +kernel
theorem dX5_inserts_272 : decode cX5_inserts 272 = .ok (.goto 4, 3) := by decide +kernel
theorem dX5_inserts_275 : decode cX5_inserts 275 = .ok (.iconst 0, 1) := by decide +kernel
theorem dX5_inserts_276 : decode cX5_inserts 276 = .ok (.iadd, 1) := by decide +kernel
theorem dX5_inserts_277 : decode cX5_inserts 277 = .ok (.iastore, 1) := by decide +kernel
theorem dX5_inserts_278 : decode cX5_inserts 278 = .ok (.aload_n 0, 1) := by decide +kernel
theorem dX5_inserts_279 : decode cX5_inserts 279 = .ok (.getfield 47, 3) := by decide +kernel
theorem dX5_inserts_282 : decode cX5_inserts 282 = .ok (.iload 4, 2) := by decide +kernel
theorem dX5_inserts_284 : decode cX5_inserts 284 = .ok (.dup2, 1) := by decide +kernel
theorem dX5_inserts_285 : decode cX5_inserts 285 = .ok (.iaload, 1) := by decide +kernel
theorem dX5_inserts_286 : decode cX5_inserts 286 = .ok (.aload_n 0, 1) := by decide +kernel
theorem dX5_inserts_287 : decode cX5_inserts 287 = .ok (.getfield 47, 3) := by decide +kernel
theorem dX5_inserts_290 : decode cX5_inserts 290 = .ok (.iload 4, 2) := by decide +kernel
theorem dX5_inserts_292 : decode cX5_inserts 292 = .ok (.iaload, 1) := by decide +kernel
theorem dX5_inserts_293 : decode cX5_inserts 293 = .ok (.iload_n 1, 1) := by decide +kernel
theorem dX5_inserts_294 : decode cX5_inserts 294 = .ok (.if_icmp .le 7, 3) := by decide +kernel
theorem dX5_inserts_297 : decode cX5_inserts 297 = .ok (.iload_n 3, 1) := by decide +kernel
theorem dX5_inserts_298 : decode cX5_inserts 298 = .ok (.goto 4, 3) := by decide +kernel
theorem dX5_inserts_301 : decode cX5_inserts 301 = .ok (.iconst 0, 1) := by decide +kernel
theorem dX5_inserts_302 : decode cX5_inserts 302 = .ok (.iadd, 1) := by decide +kernel
theorem dX5_inserts_303 : decode cX5_inserts 303 = .ok (.iastore, 1) := by decide +kernel
theorem dX5_inserts_304 : decode cX5_inserts 304 = .ok (.iinc 4 1, 3) := by decide +kernel
theorem dX5_inserts_307 : decode cX5_inserts 307 = .ok (.goto (-64), 3) := by decide +kernel
theorem dX5_inserts_310 : decode cX5_inserts 310 = .ok (.aload_n 0, 1) := by decide +kernel
theorem dX5_inserts_311 : decode cX5_inserts 311 = .ok (.dup, 1) := by decide +kernel
theorem dX5_inserts_312 : decode cX5_inserts 312 = .ok (.getfield 79, 3) := by decide +kernel
theorem dX5_inserts_315 : decode cX5_inserts 315 = .ok (.iconst 1, 1) := by decide +kernel
theorem dX5_inserts_316 : decode cX5_inserts 316 = .ok (.iadd, 1) := by decide +kernel
theorem dX5_inserts_317 : decode cX5_inserts 317 = .ok (.putfield 79, 3) := by decide +kernel
theorem dX5_inserts_320 : decode cX5_inserts 320 = .ok (.return_, 1) := by decide +kernel
theorem dX5_less_0 : decode cX5_less 0 = .ok (.iload_n 0, 1) := by decide +kernel
theorem dX5_less_1 : decode cX5_less 1 = .ok (.iload_n 1, 1) := by decide +kernel
theorem dX5_less_2 : decode cX5_less 2 = .ok (.if_icmp .gt 7, 3) := by decide +kernel
theorem dX5_less_5 : decode cX5_less 5 = .ok (.iload_n 0, 1) := by decide +kernel
theorem dX5_less_6 : decode cX5_less 6 = .ok (.goto 17, 3) := by decide +kernel
theorem dX5_less_9 : decode cX5_less 9 = .ok (.iload_n 0, 1) := by decide +kernel
theorem dX5_less_10 : decode cX5_less 10 = .ok (.iload_n 2, 1) := by decide +kernel
theorem dX5_less_11 : decode cX5_less 11 = .ok (.isub, 1) := by decide +kernel
theorem dX5_less_12 : decode cX5_less 12 = .ok (.iload_n 1, 1) := by decide +kernel
theorem dX5_less_13 : decode cX5_less 13 = .ok (.if_icmp .ge 7, 3) := by decide +kernel
theorem dX5_less_16 : decode cX5_less 16 = .ok (.iload_n 1, 1) := by decide +kernel
theorem dX5_less_17 : decode cX5_less 17 = .ok (.goto 6, 3) := by decide +kernel
theorem dX5_less_20 : decode cX5_less 20 = .ok (.iload_n 0, 1) := by decide +kernel
theorem dX5_less_21 : decode cX5_less 21 = .ok (.iload_n 2, 1) := by decide +kernel
theorem dX5_less_22 : decode cX5_less 22 = .ok (.isub, 1) := by decide +kernel
theorem dX5_less_23 : decode cX5_less 23 = .ok (.ireturn, 1) := by decide +kernel
set_option maxRecDepth 20000 in
theorem ggX5_removes_X5_less : GoodIn wsX5_removes wsX5_less := goodIn_r _ [14] (by decide +kernel) (by decide +kernel)
set_option maxRecDepth 20000 in
theorem gX5_removes_X5_less : GoodIn wsX5_removes (va_wsS RX5 86 yX5_less wsX5_less) := goodIn_app (goodIn_of _ (by decide +kernel)) ggX5_removes_X5_less
theorem dX5_removes_0 : decode cX5_removes 0 = .ok (.iload_n 1, 1) := by decide +kernel
theorem dX5_removes_1 : decode cX5_removes 1 = .ok (.iload_n 2, 1) := by decide +kernel
theorem dX5_removes_2 : decode cX5_removes 2 = .ok (.iadd, 1) := by decide +kernel
theorem dX5_removes_3 : decode cX5_removes 3 = .ok (.istore 4, 2) := by decide +kernel
theorem dX5_removes_5 : decode cX5_removes 5 = .ok (.iload 4, 2) := by decide +kernel
theorem dX5_removes_7 : decode cX5_removes 7 = .ok (.aload_n 0, 1) := by decide +kernel
theorem dX5_removes_8 : decode cX5_removes 8 = .ok (.getfield 66, 3) := by decide +kernel
theorem dX5_removes_11 : decode cX5_removes 11 = .ok (.if_icmp .ge 25, 3) := by decide +kernel
theorem dX5_removes_14 : decode cX5_removes 14 = .ok (.aload_n 0, 1) := by decide +kernel
theorem dX5_removes_15 : decode cX5_removes 15 = .ok (.getfield 7, 3) := by decide +kernel
theorem dX5_removes_18 : decode cX5_removes 18 = .ok (.iload 4, 2) := by decide +kernel
theorem dX5_removes_20 : decode cX5_removes 20 = .ok (.iload_n 2, 1) := by decide +kernel
theorem dX5_removes_21 : decode cX5_removes 21 = .ok (.isub, 1) := by decide +kernel
theorem dX5_removes_22 : decode cX5_removes 22 = .ok (.aload_n 0, 1) := by decide +kernel
theorem dX5_removes_23 : decode cX5_removes 23 = .ok (.getfield 7, 3) := by decide +kernel
theorem dX5_removes_26 : decode cX5_removes 26 = .ok (.iload 4, 2) := by decide +kernel
theorem dX5_removes_28 : decode cX5_removes 28 = .ok (.iaload, 1) := by decide +kernel
theorem dX5_removes_29 : decode cX5_removes 29 = .ok (.iastore, 1) := by decide +kernel
theorem dX5_removes_30 : decode cX5_removes 30 = .ok (.iinc 4 1, 3) := by decide +kernel
theorem dX5_removes_33 : decode cX5_removes 33 = .ok (.goto (-28), 3) := by decide +kernel
theorem dX5_removes_36 : decode cX5_removes 36 = .ok (.aload_n 0, 1) := by decide +kernel
theorem dX5_removes_37 : decode cX5_removes 37 = .ok (.dup, 1) := by decide +kernel
theorem dX5_removes_38 : decode cX5_removes 38 = .ok (.getfield 66, 3) := by decide +kernel
theorem dX5_removes_41 : decode cX5_removes 41 = .ok (.iload_n 2, 1) := by decide +kernel
theorem dX5_removes_42 : decode cX5_removes 42 = .ok (.isub, 1) := by decide +kernel
theorem dX5_removes_43 : decode cX5_removes 43 = .ok (.putfield 66, 3) := by decide +kernel
theorem dX5_removes_46 : decode cX5_removes 46 = .ok (.iconst 0, 1) := by decide +kernel
theorem dX5_removes_47 : decode cX5_removes 47 = .ok (.istore 4, 2) := by decide +kernel
theorem dX5_removes_49 : decode cX5_removes 49 = .ok (.iconst 0, 1) := by decide +kernel
theorem dX5_removes_50 : decode cX5_removes 50 = .ok (.istore 5, 2) := by decide +kernel
theorem dX5_removes_52 : decode cX5_removes 52 = .ok (.iload 5, 2) := by decide +kernel
theorem dX5_removes_54 : decode cX5_removes 54 = .ok (.aload_n 0, 1) := by decide +kernel
theorem dX5_removes_55 : decode cX5_removes 55 = .ok (.getfield 73, 3) := by decide +kernel
theorem dX5_removes_58 : decode cX5_removes 58 = .ok (.if_icmp .ge 143, 3) := by decide +kernel
theorem dX5_removes_61 : decode cX5_removes 61 = .ok (.aload_n 0, 1) := by decide +kernel
theorem dX5_removes_62 : decode cX5_removes 62 = .ok (.getfield 13, 3) := by decide +kernel
theorem dX5_removes_65 : decode cX5_removes 65 = .ok (.iload 5, 2) := by decide +kernel
theorem dX5_removes_67 : decode cX5_removes 67 = .ok (.iaload, 1) := by decide +kernel
theorem dX5_removes_68 : decode cX5_removes 68 = .ok (.iconst (-1), 1) := by decide +kernel
theorem dX5_removes_69 : decode cX5_removes 69 = .ok (.if_icmp .eq 126, 3) := by decide +kernel
theorem dX5_removes_72 : decode cX5_removes 72 = .ok (.aload_n 0, 1) := by decide +kernel
theorem dX5_removes_73 : decode cX5_removes 73 = .ok (.getfield 13, 3) := by decide +kernel
theorem dX5_removes_76 : decode cX5_removes 76 = .ok (.iload 5, 2) := by decide +kernel
theorem dX5_removes_78 : decode cX5_removes 78 = .ok (.aload_n 0, 1) := by decide +kernel
theorem dX5_removes_79 : decode cX5_removes 79 = .ok (.getfield 13, 3) := by decide +kernel
theorem dX5_removes_82 : decode cX5_removes 82 = .ok (.iload 5, 2) := by decide +kernel
theorem dX5_removes_84 : decode cX5_removes 84 = .ok (.iaload, 1) := by decide +kernel
theorem dX5_removes_85 : decode cX5_removes 85 = .ok (.iload_n 1, 1) := by decide +kernel
theorem dX5_removes_86 : decode cX5_removes 86 = .ok (.iload_n 2, 1) := by decide +kernel
theorem dX5_removes_87 : decode cX5_removes 87 = .ok (.invokestatic 86, 3) := by decide +kernel
theorem dX5_removes_90 : decode cX5_removes 90 = .ok (.iastore, 1) := by decide +kernel
theorem dX5_removes_91 : decode cX5_removes 91 = .ok (.aload_n 0, 1) := by decide +kernel
theorem dX5_removes_92 : decode cX5_removes 92 = .ok (.getfield 16, 3) := by decide +kernel
theorem dX5_removes_95 : decode cX5_removes 95 = .ok (.iload 5, 2) := by decide +kernel
theorem dX5_removes_97 : decode cX5_removes 97 = .ok (.aload_n 0, 1) := by decide +kernel
theorem dX5_removes_98 : decode cX5_removes 98 = .ok (.getfield 16, 3) := by decide +kernel
theorem dX5_removes_101 : decode cX5_removes 101 = .ok (.iload 5, 2) := by decide +kernel
theorem dX5_removes_103 : decode cX5_removes 103 = .ok (.iaload, 1) := by decide +kernel
theorem dX5_removes_104 : decode cX5_removes 104 = .ok (.iload_n 1, 1) := by decide +kernel
theorem dX5_removes_105 : decode cX5_removes 105 = .ok (.iload_n 2, 1) := by decide +kernel
theorem dX5_removes_106 : decode cX5_removes 106 = .ok (.invokestatic 86, 3) := by decide +kernel
theorem dX5_removes_109 : decode cX5_removes 109 = .ok (.iastore, 1) := by decide +kernel
theorem dX5_removes_110 : decode cX5_removes 110 = .ok (.aload_n 0, 1) := by decide +kernel
theorem dX5_removes_111 : decode cX5_removes 111 = .ok (.getfield 13, 3) := by decide +kernel
theorem dX5_removes_114 : decode cX5_removes 114 = .ok (.iload 5, 2) := by decide +kernel
theorem dX5_removes_116 : decode cX5_removes 116 = .ok (.iaload, 1) := by decide +kernel
theorem dX5_removes_117 : decode cX5_removes 117 = .ok (.aload_n 0, 1) := by decide +kernel
theorem dX5_removes_118 : decode cX5_removes 118 = .ok (.getfield 16, 3) := by decide +kernel
theorem dX5_removes_121 : decode cX5_removes 121 = .ok (.iload 5, 2) := by decide +kernel
theorem dX5_removes_123 : decode cX5_removes 123 = .ok (.iaload, 1) := by decide +kernel
theorem dX5_removes_124 : decode cX5_removes 124 = .ok (.if_icmp .ne 7, 3) := by decide +kernel
theorem dX5_removes_127 : decode cX5_removes 127 = .ok (.iconst 1, 1) := by decide +kernel
theorem dX5_removes_128 : decode cX5_removes 128 = .ok (.goto 4, 3) := by decide +kernel
theorem dX5_removes_131 : decode cX5_removes 131 = .ok (.iconst 0, 1) := by decide +kernel
theorem dX5_removes_132 : decode cX5_removes 132 = .ok (.istore 6, 2) := by decide +kernel
theorem dX5_removes_134 : decode cX5_removes 134 = .ok (.iload 4, 2) := by decide +kernel
theorem dX5_removes_136 : decode cX5_removes 136 = .ok (.iload 6, 2) := by decide +kernel
theorem dX5_removes_138 : decode cX5_removes 138 = .ok (.ifCond .eq 7, 3) := by decide +kernel
theorem dX5_removes_141 : decode cX5_removes 141 = .ok (.iconst 1, 1) := by decide +kernel
theorem dX5_removes_142 : decode cX5_removes 142 = .ok (.goto 4, 3) := by decide +kernel
theorem dX5_removes_145 : decode cX5_removes 145 = .ok (.iconst 0, 1) := by decide +kernel
theorem dX5_removes_146 : decode cX5_removes 146 = .ok (.iadd, 1) := by decide +kernel
theorem dX5_removes_147 : decode cX5_removes 147 = .ok (.istore 4, 2) := by decide +kernel
theorem dX5_removes_149 : decode cX5_removes 149 = .ok (.aload_n 0, 1) := by decide +kernel
theorem dX5_removes_150 : decode cX5_removes 150 = .ok (.getfield 13, 3) := by decide +kernel
theorem dX5_removes_153 : decode cX5_removes 153 = .ok (.iload 5, 2) := by decide +kernel
theorem dX5_removes_155 : decode cX5_removes 155 = .ok (.iload 6, 2) := by decide +kernel
theorem dX5_removes_157 : decode cX5_removes 157 = .ok (.ifCond .eq 7, 3) := by decide +kernel
theorem dX5_removes_160 : decode cX5_removes 160 = .ok (.iconst (-1), 1) := by decide +kernel
theorem dX5_removes_161 : decode cX5_removes 161 = .ok (.goto 10, 3) := by decide +kernel
theorem dX5_removes_164 : decode cX5_removes 164 = .ok (.aload_n 0, 1) := by decide +kernel
theorem dX5_removes_165 : decode cX5_removes 165 = .ok (.getfield 13, 3) := by decide +kernel
theorem dX5_removes_168 : decode cX5_removes 168 = .ok (.iload 5, 2) := by decide +kernel
theorem dX5_removes_170 : decode cX5_removes 170 = .ok (.iaload, 1) := by decide +kernel
theorem dX5_removes_171 : decode cX5_removes 171 = .ok (.iastore, 1) := by decide +kernel
theorem dX5_removes_172 : decode cX5_removes 172 = .ok (.aload_n 0, 1) := by decide +kernel
theorem dX5_removes_173 : decode cX5_removes 173 = .ok (.getfield 16, 3) := by decide +kernel
theorem dX5_removes_176 : decode cX5_removes 176 = .ok (.iload 5, 2) := by decide +kernel
theorem dX5_removes_178 : decode cX5_removes 178 = .ok (.iload 6, 2) := by decide +kernel
theorem dX5_removes_180 : decode cX5_removes 180 = .ok (.ifCond .eq 7, 3) := by decide +kernel
theorem dX5_removes_183 : decode cX5_removes 183 = .ok (.iconst (-1), 1) := by decide +kernel
theorem dX5_removes_184 : decode cX5_removes 184 = .ok (.goto 10, 3) := by decide +kernel
theorem dX5_removes_187 : decode cX5_removes 187 = .ok (.aload_n 0, 1) := by decide +kernel
theorem dX5_removes_188 : decode cX5_removes 188 = .ok (.getfield 16, 3) := by decide +kernel
theorem dX5_removes_191 : decode cX5_removes 191 = .ok (.iload 5, 2) := by decide +kernel
theorem dX5_removes_193 : decode cX5_removes 193 = .ok (.iaload, 1) := by decide +kernel
theorem dX5_removes_194 : decode cX5_removes 194 = .ok (.iastore, 1) := by decide +kernel
theorem dX5_removes_195 : decode cX5_removes 195 = .ok (.iinc 5 1, 3) := by decide +kernel
theorem dX5_removes_198 : decode cX5_removes 198 = .ok (.goto (-146), 3) := by decide +kernel
theorem dX5_removes_201 : decode cX5_removes 201 = .ok (.iconst 0, 1) := by decide +kernel
theorem dX5_removes_202 : decode cX5_removes 202 = .ok (.istore 5, 2) := by decide +kernel
theorem dX5_removes_204 : decode cX5_removes 204 = .ok (.iload 5, 2) := by decide +kernel
theorem dX5_removes_206 : decode cX5_removes 206 = .ok (.aload_n 0, 1) := by decide +kernel
theorem dX5_removes_207 : decode cX5_removes 207 = .ok (.getfield 76, 3) := by decide +kernel
theorem dX5_removes_210 : decode cX5_removes 210 = .ok (.if_icmp .ge 98, 3) := by decide +kernel
theorem dX5_removes_213 : decode cX5_removes 213 = .ok (.aload_n 0, 1) := by decide +kernel
theorem dX5_removes_214 : decode cX5_removes 214 = .ok (.getfield 44, 3) := by decide +kernel
theorem dX5_removes_217 : decode cX5_removes 217 = .ok (.iload 5, 2) := by decide +kernel
theorem dX5_removes_219 : decode cX5_removes 219 = .ok (.aload_n 0, 1) := by decide +kernel
theorem dX5_removes_220 : decode cX5_removes 220 = .ok (.getfield 44, 3) := by decide +kernel
theorem dX5_removes_223 : decode cX5_removes 223 = .ok (.iload 5, 2) := by decide +kernel
theorem dX5_removes_225 : decode cX5_removes 225 = .ok (.iaload, 1) := by decide +kernel
theorem dX5_removes_226 : decode cX5_removes 226 = .ok (.iload_n 1, 1) := by decide +kernel
theorem dX5_removes_227 : decode cX5_removes 227 = .ok (.iload_n 2, 1) := by decide +kernel
theorem dX5_removes_228 : decode cX5_removes 228 = .ok (.invokestatic 86, 3) := by decide +kernel
theorem dX5_removes_231 : decode cX5_removes 231 = .ok (.iastore, 1) := by decide +kernel
theorem dX5_removes_232 : decode cX5_removes 232 = .ok (.aload_n 0, 1) := by decide +kernel
theorem dX5_removes_233 : decode cX5_removes 233 = .ok (.getfield 47, 3) := by decide +kernel
theorem dX5_removes_236 : decode cX5_removes 236 = .ok (.iload 5, 2) := by decide +kernel
theorem dX5_removes_238 : decode cX5_removes 238 = .ok (.aload_n 0, 1) := by decide +kernel
theorem dX5_removes_239 : decode cX5_removes 239 = .ok (.getfield 47, 3) := by decide +kernel
theorem dX5_removes_242 : decode cX5_removes 242 = .ok (.iload 5, 2) := by decide +kernel
theorem dX5_removes_244 : decode cX5_removes 244 = .ok (.iaload, 1) := by decide +kernel
theorem dX5_removes_245 : decode cX5_removes 245 = .ok (.iload_n 1, 1) := by decide +kernel
theorem dX5_removes_246 : decode cX5_removes 246 = .ok (.iload_n 2, 1) := by decide +kernel
theorem dX5_removes_247 : decode cX5_removes 247 = .ok (.invokestatic 86, 3) := by decide +kernel
theorem dX5_removes_250 : decode cX5_removes 250 = .ok (.iastore, 1) := by decide +kernel
theorem dX5_removes_251 : decode cX5_removes 251 = .ok (.aload_n 0, 1) := by decide +kernel
theorem dX5_removes_252 : decode cX5_removes 252 = .ok (.getfield 56, 3) := by decide +kernel
theorem dX5_removes_255 : decode cX5_removes 255 = .ok (.iload 5, 2) := by decide +kernel
theorem dX5_removes_257 : decode cX5_removes 257 = .ok (.aload_n 0, 1) := by decide +kernel
theorem dX5_removes_258 : decode cX5_removes 258 = .ok (.getfield 56, 3) := by decide +kernel
theorem dX5_removes_261 : decode cX5_removes 261 = .ok (.iload 5, 2) := by decide +kernel
theorem dX5_removes_263 : decode cX5_removes 263 = .ok (.iaload, 1) := by decide +kernel
theorem dX5_removes_264 : decode cX5_removes 264 = .ok (.ifCond .ne 30, 3) := by decide +kernel
theorem dX5_removes_267 : decode cX5_removes 267 = .ok (.iload 5, 2) := by decide +kernel
theorem dX5_removes_269 : decode cX5_removes 269 = .ok (.iload_n 3, 1) := by decide +kernel
theorem dX5_removes_270 : decode cX5_removes 270 = .ok (.if_icmp .eq 24, 3) := by decide +kernel
theorem dX5_removes_273 : decode cX5_removes 273 = .ok (.aload_n 0, 1) := by decide +kernel
theorem dX5_removes_274 : decode cX5_removes 274 = .ok (.getfield 44, 3) := by decide +kernel
theorem dX5_removes_277 : decode cX5_removes 277 = .ok (.iload 5, 2) := by decide +kernel
theorem dX5_removes_279 : decode cX5_removes 279 = .ok (.iaload, 1) := by decide +kernel
theorem dX5_removes_280 : decode cX5_removes 280 = .ok (.aload_n 0, 1) := by decide +kernel
theorem dX5_removes_281 : decode cX5_removes 281 = .ok (.getfield 47, 3) := by decide +kernel
theorem dX5_removes_284 : decode cX5_removes 284 = .ok (.iload 5, 2) := by decide +kernel
theorem dX5_removes_286 : decode cX5_removes 286 = .ok (.iaload, 1) := by decide +kernel
theorem dX5_removes_287 : decode cX5_removes 287 = .ok (.if_icmp .ne 7, 3) := by decide +kernel
theorem dX5_removes_290 : decode cX5_removes 290 = .ok (.iconst 3, 1) := by decide +kernel
theorem dX5_removes_291 : decode cX5_removes 291 = .ok (.goto 10, 3) := by decide +kernel
theorem dX5_removes_294 : decode cX5_removes 294 = .ok (.aload_n 0, 1) := by decide +kernel
theorem dX5_removes_295 : decode cX5_removes 295 = .ok (.getfield 56, 3) := by decide +kernel
theorem dX5_removes_298 : decode cX5_removes 298 = .ok (.iload 5, 2) := by decide +kernel
theorem dX5_removes_300 : decode cX5_removes 300 = .ok (.iaload, 1) := by decide +kernel
theorem dX5_removes_301 : decode cX5_removes 301 = .ok (.iastore, 1) := by decide +kernel
theorem dX5_removes_302 : decode cX5_removes 302 = .ok (.iinc 5 1, 3) := by decide +kernel
theorem dX5_removes_305 : decode cX5_removes 305 = .ok (.goto (-101), 3) := by decide +kernel
theorem dX5_removes_308 : decode cX5_removes 308 = .ok (.aload_n 0, 1) := by decide +kernel
theorem dX5_removes_309 : decode cX5_removes 309 = .ok (.dup, 1) := by decide +kernel
theorem dX5_removes_310 : decode cX5_removes 310 = .ok (.getfield 79, 3) := by decide +kernel
theorem dX5_removes_313 : decode cX5_removes 313 = .ok (.iconst 1, 1) := by decide +kernel
theorem dX5_removes_314 : decode cX5_removes 314 = .ok (.iadd, 1) := by decide +kernel
theorem dX5_removes_315 : decode cX5_removes 315 = .ok (.putfield 79, 3) := by decide +kernel
theorem dX5_removes_318 : decode cX5_removes 318 = .ok (.iload 4, 2) := by decide +kernel
theorem dX5_removes_320 : decode cX5_removes 320 = .ok (.ireturn, 1) := by decide +kernel
set_option maxRecDepth 20000 in
theorem ggX5_insert_X5_isPlace : GoodIn wsX5_insert wsX5_isPlace := goodIn_r _ [8, 2, 9, 10, 7, 11, 37, 38, 39, 40, 41, 42, 43, 44, 45, 46, 47, 48, 49, 50, 51, 52, 53, 54, 55, 56, 57] (by decide +kernel) (by decide +kernel)
set_option maxRecDepth 20000 in
theorem gX5_insert_X5_isPlace : GoodIn wsX5_insert (wsV RX5 90 RX5 yX5_isPlace wsX5_isPlace) := goodIn_app (goodIn_of _ (by decide +kernel)) ggX5_insert_X5_isPlace
set_option maxRecDepth 20000 in
theorem ggX5_insert_X5_fails : GoodIn wsX5_insert wsX5_fails := goodIn_r _ [15, 1, 37, 38, 39, 40, 41, 42, 43, 44, 45, 46, 47, 48, 49, 50, 51, 52, 53, 54, 55, 56, 57] (by decide +kernel) (by decide +kernel)
set_option maxRecDepth 20000 in
theorem gX5_insert_X5_fails : GoodIn wsX5_insert (wsV RX5 94 RX5 yX5_fails wsX5_fails) := goodIn_app (goodIn_of _ (by decide +kernel)) ggX5_insert_X5_fails
set_option maxRecDepth 20000 in
theorem ggX5_insert_X5_in : GoodIn wsX5_insert wsX5_in := goodIn_r _ [11] (by decide +kernel) (by decide +kernel)
set_option maxRecDepth 20000 in
theorem gX5_insert_X5_in : GoodIn wsX5_insert (va_wsS RX5 69 yX5_in wsX5_in) := goodIn_app (goodIn_of _ (by decide +kernel)) ggX5_insert_X5_in
set_option maxRecDepth 20000 in
theorem ggX5_insert_X5_inserts : GoodIn wsX5_insert wsX5_inserts := goodIn_ca (goodIn_r _ [19, 2, 20, 21, 22, 23, 24, 25, 26, 27, 3, 37, 38, 39, 40, 41, 42, 43, 44, 45, 46, 47, 48, 49, 50, 51, 52, 53, 54, 55, 56, 57] (by decide +kernel) (by decide +kernel)) (goodIn_sub (fun _ h => List.mem_cons_of_mem _ (List.mem_append_right _ h)) (by decide +kernel))
set_option maxRecDepth 20000 in
theorem gX5_insert_X5_inserts : GoodIn wsX5_insert (wsV RX5 97 RX5 yX5_inserts wsX5_inserts) := goodIn_app (goodIn_of _ (by decide +kernel)) ggX5_insert_X5_inserts
set_option maxRecDepth 20000 in
theorem ggX5_insert_X5_keeps : GoodIn wsX5_insert wsX5_keeps := goodIn_ca (goodIn_r _ [31, 32, 3, 33, 34, 35, 7, 36, 21, 22, 24, 37, 38, 39, 40, 41, 42, 43, 44, 45, 46, 47, 48, 49, 50, 51, 52, 53, 54, 55, 56, 57] (by decide +kernel) (by decide +kernel)) (goodIn_sub (fun _ h => List.mem_cons_of_mem _ (List.mem_append_right _ h)) (by decide +kernel))
set_option maxRecDepth 20000 in
theorem gX5_insert_X5_keeps : GoodIn wsX5_insert (wsV RX5 59 RX5 yX5_keeps wsX5_keeps) := goodIn_app (goodIn_of _ (by decide +kernel)) ggX5_insert_X5_keeps
theorem dX5_insert_0 : decode cX5_insert 0 = .ok (.aload_n 0, 1) := by decide +kernel
theorem dX5_insert_1 : decode cX5_insert 1 = .ok (.iconst 0, 1) := by decide +kernel
theorem dX5_insert_2 : decode cX5_insert 2 = .ok (.putfield 62, 3) := by decide +kernel
theorem dX5_insert_5 : decode cX5_insert 5 = .ok (.aload_n 0, 1) := by decide +kernel
theorem dX5_insert_6 : decode cX5_insert 6 = .ok (.iload_n 1, 1) := by decide +kernel
theorem dX5_insert_7 : decode cX5_insert 7 = .ok (.invokevirtual 90, 3) := by decide +kernel
theorem dX5_insert_10 : decode cX5_insert 10 = .ok (.ifCond .ne 9, 3) := by decide +kernel
theorem dX5_insert_13 : decode cX5_insert 13 = .ok (.aload_n 0, 1) := by decide +kernel
theorem dX5_insert_14 : decode cX5_insert 14 = .ok (.iconst 1, 1) := by decide +kernel
theorem dX5_insert_15 : decode cX5_insert 15 = .ok (.invokevirtual 94, 3) := by decide +kernel
theorem dX5_insert_18 : decode cX5_insert 18 = .ok (.ireturn, 1) := by decide +kernel
theorem dX5_insert_19 : decode cX5_insert 19 = .ok (.iload_n 2, 1) := by decide +kernel
theorem dX5_insert_20 : decode cX5_insert 20 = .ok (.iconst 0, 1) := by decide +kernel
theorem dX5_insert_21 : decode cX5_insert 21 = .ok (.bipush 25, 2) := by decide +kernel
theorem dX5_insert_23 : decode cX5_insert 23 = .ok (.invokestatic 69, 3) := by decide +kernel
theorem dX5_insert_26 : decode cX5_insert 26 = .ok (.ifCond .eq 13, 3) := by decide +kernel
theorem dX5_insert_29 : decode cX5_insert 29 = .ok (.iload_n 3, 1) := by decide +kernel
theorem dX5_insert_30 : decode cX5_insert 30 = .ok (.iconst 1, 1) := by decide +kernel
theorem dX5_insert_31 : decode cX5_insert 31 = .ok (.bipush 10, 2) := by decide +kernel
theorem dX5_insert_33 : decode cX5_insert 33 = .ok (.invokestatic 69, 3) := by decide +kernel
theorem dX5_insert_36 : decode cX5_insert 36 = .ok (.ifCond .ne 9, 3) := by decide +kernel
theorem dX5_insert_39 : decode cX5_insert 39 = .ok (.aload_n 0, 1) := by decide +kernel
theorem dX5_insert_40 : decode cX5_insert 40 = .ok (.iconst 2, 1) := by decide +kernel
theorem dX5_insert_41 : decode cX5_insert 41 = .ok (.invokevirtual 94, 3) := by decide +kernel
theorem dX5_insert_44 : decode cX5_insert 44 = .ok (.ireturn, 1) := by decide +kernel
theorem dX5_insert_45 : decode cX5_insert 45 = .ok (.aload_n 0, 1) := by decide +kernel
theorem dX5_insert_46 : decode cX5_insert 46 = .ok (.getfield 66, 3) := by decide +kernel
theorem dX5_insert_49 : decode cX5_insert 49 = .ok (.iload_n 3, 1) := by decide +kernel
theorem dX5_insert_50 : decode cX5_insert 50 = .ok (.iadd, 1) := by decide +kernel
theorem dX5_insert_51 : decode cX5_insert 51 = .ok (.bipush 60, 2) := by decide +kernel
theorem dX5_insert_53 : decode cX5_insert 53 = .ok (.if_icmp .gt 13, 3) := by decide +kernel
theorem dX5_insert_56 : decode cX5_insert 56 = .ok (.aload_n 0, 1) := by decide +kernel
theorem dX5_insert_57 : decode cX5_insert 57 = .ok (.getfield 79, 3) := by decide +kernel
theorem dX5_insert_60 : decode cX5_insert 60 = .ok (.sipush 300, 3) := by decide +kernel
theorem dX5_insert_63 : decode cX5_insert 63 = .ok (.if_icmp .ne 9, 3) := by decide +kernel
theorem dX5_insert_66 : decode cX5_insert 66 = .ok (.aload_n 0, 1) := by decide +kernel
theorem dX5_insert_67 : decode cX5_insert 67 = .ok (.iconst 3, 1) := by decide +kernel
theorem dX5_insert_68 : decode cX5_insert 68 = .ok (.invokevirtual 94, 3) := by decide +kernel
theorem dX5_insert_71 : decode cX5_insert 71 = .ok (.ireturn, 1) := by decide +kernel
theorem dX5_insert_72 : decode cX5_insert 72 = .ok (.aload_n 0, 1) := by decide +kernel
theorem dX5_insert_73 : decode cX5_insert 73 = .ok (.iload_n 1, 1) := by decide +kernel
theorem dX5_insert_74 : decode cX5_insert 74 = .ok (.iload_n 2, 1) := by decide +kernel
theorem dX5_insert_75 : decode cX5_insert 75 = .ok (.iload_n 3, 1) := by decide +kernel
theorem dX5_insert_76 : decode cX5_insert 76 = .ok (.invokevirtual 97, 3) := by decide +kernel
theorem dX5_insert_79 : decode cX5_insert 79 = .ok (.aload_n 0, 1) := by decide +kernel
theorem dX5_insert_80 : decode cX5_insert 80 = .ok (.invokevirtual 59, 3) := by decide +kernel
theorem dX5_insert_83 : decode cX5_insert 83 = .ok (.aload_n 0, 1) := by decide +kernel
theorem dX5_insert_84 : decode cX5_insert 84 = .ok (.getfield 66, 3) := by decide +kernel
theorem dX5_insert_87 : decode cX5_insert 87 = .ok (.ireturn, 1) := by decide +kernel
set_option maxRecDepth 20000 in
theorem ggX5_remove_X5_isPlace : GoodIn wsX5_remove wsX5_isPlace := goodIn_r _ [8, 2, 9, 10, 7, 11, 40, 41, 42, 43, 44, 45, 46, 47, 48, 49, 50, 51, 52, 53, 54, 55, 56, 57, 58, 59, 60] (by decide +kernel) (by decide +kernel)
set_option maxRecDepth 20000 in
theorem gX5_remove_X5_isPlace : GoodIn wsX5_remove (wsV RX5 90 RX5 yX5_isPlace wsX5_isPlace) := goodIn_app (goodIn_of _ (by decide +kernel)) ggX5_remove_X5_isPlace
set_option maxRecDepth 20000 in
theorem ggX5_remove_X5_fails : GoodIn wsX5_remove wsX5_fails := goodIn_r _ [15, 1, 40, 41, 42, 43, 44, 45, 46, 47, 48, 49, 50, 51, 52, 53, 54, 55, 56, 57, 58, 59, 60] (by decide +kernel) (by decide +kernel)
set_option maxRecDepth 20000 in
theorem gX5_remove_X5_fails : GoodIn wsX5_remove (wsV RX5 94 RX5 yX5_fails wsX5_fails) := goodIn_app (goodIn_of _ (by decide +kernel)) ggX5_remove_X5_fails
set_option maxRecDepth 20000 in
theorem ggX5_remove_X5_in : GoodIn wsX5_remove wsX5_in := goodIn_r _ [11] (by decide +kernel) (by decide +kernel)
set_option maxRecDepth 20000 in
theorem gX5_remove_X5_in : GoodIn wsX5_remove (va_wsS RX5 69 yX5_in wsX5_in) := goodIn_app (goodIn_of _ (by decide +kernel)) ggX5_remove_X5_in
set_option maxRecDepth 20000 in
theorem ggX5_remove_X5_removes : GoodIn wsX5_remove wsX5_removes := goodIn_ca (goodIn_r _ [19, 2, 20, 21, 22, 23, 24, 25, 26, 27, 3, 28, 29, 7, 30, 40, 41, 42, 43, 44, 45, 46, 47, 48, 49, 50, 51, 52, 53, 54, 55, 56, 57, 58, 59, 60] (by decide +kernel) (by decide +kernel)) (goodIn_sub (fun _ h => List.mem_cons_of_mem _ (List.mem_append_right _ h)) (by decide +kernel))
set_option maxRecDepth 20000 in
theorem gX5_remove_X5_removes : GoodIn wsX5_remove (wsV RX5 101 RX5 yX5_removes wsX5_removes) := goodIn_app (goodIn_of _ (by decide +kernel)) ggX5_remove_X5_removes
set_option maxRecDepth 20000 in
theorem ggX5_remove_X5_keeps : GoodIn wsX5_remove wsX5_keeps := goodIn_ca (goodIn_r _ [34, 35, 3, 36, 37, 38, 7, 39, 21, 22, 23, 40, 41, 42, 43, 44, 45, 46, 47, 48, 49, 50, 51, 52, 53, 54, 55, 56, 57, 58, 59, 60] (by decide +kernel) (by decide +kernel)) (goodIn_sub (fun _ h => List.mem_cons_of_mem _ (List.mem_append_right _ h)) (by decide +kernel))
set_option maxRecDepth 20000 in
theorem gX5_remove_X5_keeps : GoodIn wsX5_remove (wsV RX5 59 RX5 yX5_keeps wsX5_keeps) := goodIn_app (goodIn_of _ (by decide +kernel)) ggX5_remove_X5_keeps
theorem dX5_remove_0 : decode cX5_remove 0 = .ok (.aload_n 0, 1) := by decide +kernel
theorem dX5_remove_1 : decode cX5_remove 1 = .ok (.iconst 0, 1) := by decide +kernel
theorem dX5_remove_2 : decode cX5_remove 2 = .ok (.putfield 62, 3) := by decide +kernel
theorem dX5_remove_5 : decode cX5_remove 5 = .ok (.aload_n 0, 1) := by decide +kernel
theorem dX5_remove_6 : decode cX5_remove 6 = .ok (.iload_n 1, 1) := by decide +kernel
theorem dX5_remove_7 : decode cX5_remove 7 = .ok (.invokevirtual 90, 3) := by decide +kernel
theorem dX5_remove_10 : decode cX5_remove 10 = .ok (.ifCond .ne 9, 3) := by decide +kernel
theorem dX5_remove_13 : decode cX5_remove 13 = .ok (.aload_n 0, 1) := by decide +kernel
theorem dX5_remove_14 : decode cX5_remove 14 = .ok (.iconst 1, 1) := by decide +kernel
theorem dX5_remove_15 : decode cX5_remove 15 = .ok (.invokevirtual 94, 3) := by decide +kernel
theorem dX5_remove_18 : decode cX5_remove 18 = .ok (.ireturn, 1) := by decide +kernel
theorem dX5_remove_19 : decode cX5_remove 19 = .ok (.iload_n 2, 1) := by decide +kernel
theorem dX5_remove_20 : decode cX5_remove 20 = .ok (.iconst 1, 1) := by decide +kernel
theorem dX5_remove_21 : decode cX5_remove 21 = .ok (.aload_n 0, 1) := by decide +kernel
theorem dX5_remove_22 : decode cX5_remove 22 = .ok (.getfield 66, 3) := by decide +kernel
theorem dX5_remove_25 : decode cX5_remove 25 = .ok (.iload_n 1, 1) := by decide +kernel
theorem dX5_remove_26 : decode cX5_remove 26 = .ok (.isub, 1) := by decide +kernel
theorem dX5_remove_27 : decode cX5_remove 27 = .ok (.invokestatic 69, 3) := by decide +kernel
theorem dX5_remove_30 : decode cX5_remove 30 = .ok (.ifCond .ne 9, 3) := by decide +kernel
theorem dX5_remove_33 : decode cX5_remove 33 = .ok (.aload_n 0, 1) := by decide +kernel
theorem dX5_remove_34 : decode cX5_remove 34 = .ok (.iconst 2, 1) := by decide +kernel
theorem dX5_remove_35 : decode cX5_remove 35 = .ok (.invokevirtual 94, 3) := by decide +kernel
theorem dX5_remove_38 : decode cX5_remove 38 = .ok (.ireturn, 1) := by decide +kernel
theorem dX5_remove_39 : decode cX5_remove 39 = .ok (.aload_n 0, 1) := by decide +kernel
theorem dX5_remove_40 : decode cX5_remove 40 = .ok (.getfield 79, 3) := by decide +kernel
theorem dX5_remove_43 : decode cX5_remove 43 = .ok (.sipush 300, 3) := by decide +kernel
theorem dX5_remove_46 : decode cX5_remove 46 = .ok (.if_icmp .ne 9, 3) := by decide +kernel
theorem dX5_remove_49 : decode cX5_remove 49 = .ok (.aload_n 0, 1) := by decide +kernel
theorem dX5_remove_50 : decode cX5_remove 50 = .ok (.iconst 3, 1) := by decide +kernel
theorem dX5_remove_51 : decode cX5_remove 51 = .ok (.invokevirtual 94, 3) := by decide +kernel
theorem dX5_remove_54 : decode cX5_remove 54 = .ok (.ireturn, 1) := by decide +kernel
theorem dX5_remove_55 : decode cX5_remove 55 = .ok (.aload_n 0, 1) := by decide +kernel
theorem dX5_remove_56 : decode cX5_remove 56 = .ok (.iload_n 1, 1) := by decide +kernel
theorem dX5_remove_57 : decode cX5_remove 57 = .ok (.iload_n 2, 1) := by decide +kernel
theorem dX5_remove_58 : decode cX5_remove 58 = .ok (.iconst (-1), 1) := by decide +kernel
theorem dX5_remove_59 : decode cX5_remove 59 = .ok (.invokevirtual 101, 3) := by decide +kernel
theorem dX5_remove_62 : decode cX5_remove 62 = .ok (.istore_n 3, 1) := by decide +kernel
theorem dX5_remove_63 : decode cX5_remove 63 = .ok (.aload_n 0, 1) := by decide +kernel
theorem dX5_remove_64 : decode cX5_remove 64 = .ok (.invokevirtual 59, 3) := by decide +kernel
theorem dX5_remove_67 : decode cX5_remove 67 = .ok (.iload_n 3, 1) := by decide +kernel
theorem dX5_remove_68 : decode cX5_remove 68 = .ok (.ireturn, 1) := by decide +kernel
theorem dX5_length_0 : decode cX5_length 0 = .ok (.aload_n 0, 1) := by decide +kernel
theorem dX5_length_1 : decode cX5_length 1 = .ok (.iconst 0, 1) := by decide +kernel
theorem dX5_length_2 : decode cX5_length 2 = .ok (.putfield 62, 3) := by decide +kernel
theorem dX5_length_5 : decode cX5_length 5 = .ok (.aload_n 0, 1) := by decide +kernel
theorem dX5_length_6 : decode cX5_length 6 = .ok (.getfield 66, 3) := by decide +kernel
theorem dX5_length_9 : decode cX5_length 9 = .ok (.ireturn, 1) := by decide +kernel
set_option maxRecDepth 20000 in
theorem ggX5_letterAt_X5_isPlace : GoodIn wsX5_letterAt wsX5_isPlace := goodIn_r _ [6, 7, 8, 9, 5, 10, 20, 21, 22, 23, 24, 25, 26, 27, 28, 29, 30, 31, 32, 33, 34, 35, 36, 37, 38, 39, 40] (by decide +kernel) (by decide +kernel)
set_option maxRecDepth 20000 in
theorem gX5_letterAt_X5_isPlace : GoodIn wsX5_letterAt (wsV RX5 90 RX5 yX5_isPlace wsX5_isPlace) := goodIn_app (goodIn_of _ (by decide +kernel)) ggX5_letterAt_X5_isPlace
set_option maxRecDepth 20000 in
theorem ggX5_letterAt_X5_letterOf : GoodIn wsX5_letterAt wsX5_letterOf := goodIn_ca (goodIn_r _ [14, 7, 15, 8, 9, 5, 10, 20, 21, 22, 23, 24, 25, 26, 27, 28, 29, 30, 31, 32, 33, 34, 35, 36, 37, 38, 39, 40] (by decide +kernel) (by decide +kernel)) (goodIn_sub (fun _ h => List.mem_cons_of_mem _ (List.mem_append_right _ h)) (by decide +kernel))
set_option maxRecDepth 20000 in
theorem gX5_letterAt_X5_letterOf : GoodIn wsX5_letterAt (wsV RX5 104 RX5 yX5_letterOf wsX5_letterOf) := goodIn_app (goodIn_of _ (by decide +kernel)) ggX5_letterAt_X5_letterOf
set_option maxRecDepth 20000 in
theorem ggX5_letterAt_X5_fails : GoodIn wsX5_letterAt wsX5_fails := goodIn_r _ [19, 1, 20, 21, 22, 23, 24, 25, 26, 27, 28, 29, 30, 31, 32, 33, 34, 35, 36, 37, 38, 39, 40] (by decide +kernel) (by decide +kernel)
set_option maxRecDepth 20000 in
theorem gX5_letterAt_X5_fails : GoodIn wsX5_letterAt (wsV RX5 94 RX5 yX5_fails wsX5_fails) := goodIn_app (goodIn_of _ (by decide +kernel)) ggX5_letterAt_X5_fails
theorem dX5_letterAt_0 : decode cX5_letterAt 0 = .ok (.aload_n 0, 1) := by decide +kernel
theorem dX5_letterAt_1 : decode cX5_letterAt 1 = .ok (.iconst 0, 1) := by decide +kernel
theorem dX5_letterAt_2 : decode cX5_letterAt 2 = .ok (.putfield 62, 3) := by decide +kernel
theorem dX5_letterAt_5 : decode cX5_letterAt 5 = .ok (.aload_n 0, 1) := by decide +kernel
theorem dX5_letterAt_6 : decode cX5_letterAt 6 = .ok (.iload_n 1, 1) := by decide +kernel
theorem dX5_letterAt_7 : decode cX5_letterAt 7 = .ok (.invokevirtual 90, 3) := by decide +kernel
theorem dX5_letterAt_10 : decode cX5_letterAt 10 = .ok (.ifCond .eq 11, 3) := by decide +kernel
theorem dX5_letterAt_13 : decode cX5_letterAt 13 = .ok (.aload_n 0, 1) := by decide +kernel
theorem dX5_letterAt_14 : decode cX5_letterAt 14 = .ok (.iload_n 1, 1) := by decide +kernel
theorem dX5_letterAt_15 : decode cX5_letterAt 15 = .ok (.invokevirtual 104, 3) := by decide +kernel
theorem dX5_letterAt_18 : decode cX5_letterAt 18 = .ok (.goto 8, 3) := by decide +kernel
theorem dX5_letterAt_21 : decode cX5_letterAt 21 = .ok (.aload_n 0, 1) := by decide +kernel
theorem dX5_letterAt_22 : decode cX5_letterAt 22 = .ok (.iconst 1, 1) := by decide +kernel
theorem dX5_letterAt_23 : decode cX5_letterAt 23 = .ok (.invokevirtual 94, 3) := by decide +kernel
theorem dX5_letterAt_26 : decode cX5_letterAt 26 = .ok (.ireturn, 1) := by decide +kernel
theorem dX5_version_0 : decode cX5_version 0 = .ok (.aload_n 0, 1) := by decide +kernel
theorem dX5_version_1 : decode cX5_version 1 = .ok (.iconst 0, 1) := by decide +kernel
theorem dX5_version_2 : decode cX5_version 2 = .ok (.putfield 62, 3) := by decide +kernel
theorem dX5_version_5 : decode cX5_version 5 = .ok (.aload_n 0, 1) := by decide +kernel
theorem dX5_version_6 : decode cX5_version 6 = .ok (.getfield 79, 3) := by decide +kernel
theorem dX5_version_9 : decode cX5_version 9 = .ok (.ireturn, 1) := by decide +kernel
set_option maxRecDepth 20000 in
theorem ggX5_comment_X5_isPlace : GoodIn wsX5_comment wsX5_isPlace := goodIn_r _ [16, 17, 18, 19, 15, 20, 39, 40, 41, 42, 43, 44, 45, 46, 47, 48, 49, 50, 51, 52, 53, 54, 55, 56, 57, 58, 59] (by decide +kernel) (by decide +kernel)
set_option maxRecDepth 20000 in
theorem gX5_comment_X5_isPlace : GoodIn wsX5_comment (wsV RX5 90 RX5 yX5_isPlace wsX5_isPlace) := goodIn_app (goodIn_of _ (by decide +kernel)) ggX5_comment_X5_isPlace
set_option maxRecDepth 20000 in
theorem ggX5_comment_X5_fails : GoodIn wsX5_comment wsX5_fails := goodIn_r _ [24, 1, 39, 40, 41, 42, 43, 44, 45, 46, 47, 48, 49, 50, 51, 52, 53, 54, 55, 56, 57, 58, 59] (by decide +kernel) (by decide +kernel)
set_option maxRecDepth 20000 in
theorem gX5_comment_X5_fails : GoodIn wsX5_comment (wsV RX5 94 RX5 yX5_fails wsX5_fails) := goodIn_app (goodIn_of _ (by decide +kernel)) ggX5_comment_X5_fails
set_option maxRecDepth 20000 in
theorem ggX5_comment_X5_in : GoodIn wsX5_comment wsX5_in := goodIn_r _ [20] (by decide +kernel) (by decide +kernel)
set_option maxRecDepth 20000 in
theorem gX5_comment_X5_in : GoodIn wsX5_comment (va_wsS RX5 69 yX5_in wsX5_in) := goodIn_app (goodIn_of _ (by decide +kernel)) ggX5_comment_X5_in
set_option maxRecDepth 20000 in
theorem ggX5_comment_X5_letterOf : GoodIn wsX5_comment wsX5_letterOf := goodIn_ca (goodIn_r _ [28, 17, 9, 18, 19, 15, 20, 39, 40, 41, 42, 43, 44, 45, 46, 47, 48, 49, 50, 51, 52, 53, 54, 55, 56, 57, 58, 59] (by decide +kernel) (by decide +kernel)) (goodIn_sub (fun _ h => List.mem_cons_of_mem _ (List.mem_append_right _ h)) (by decide +kernel))
set_option maxRecDepth 20000 in
theorem gX5_comment_X5_letterOf : GoodIn wsX5_comment (wsV RX5 104 RX5 yX5_letterOf wsX5_letterOf) := goodIn_app (goodIn_of _ (by decide +kernel)) ggX5_comment_X5_letterOf
set_option maxRecDepth 20000 in
theorem ggX5_comment_X5_keeps : GoodIn wsX5_comment wsX5_keeps := goodIn_ca (goodIn_r _ [32, 33, 34, 35, 36, 37, 15, 38, 2, 3, 4, 39, 40, 41, 42, 43, 44, 45, 46, 47, 48, 49, 50, 51, 52, 53, 54, 55, 56, 57, 58, 59] (by decide +kernel) (by decide +kernel)) (goodIn_sub (fun _ h => List.mem_cons_of_mem _ (List.mem_append_right _ h)) (by decide +kernel))
set_option maxRecDepth 20000 in
theorem gX5_comment_X5_keeps : GoodIn wsX5_comment (wsV RX5 59 RX5 yX5_keeps wsX5_keeps) := goodIn_app (goodIn_of _ (by decide +kernel)) ggX5_comment_X5_keeps
theorem dX5_comment_0 : decode cX5_comment 0 = .ok (.aload_n 0, 1) := by decide +kernel
theorem dX5_comment_1 : decode cX5_comment 1 = .ok (.iconst 0, 1) := by decide +kernel
theorem dX5_comment_2 : decode cX5_comment 2 = .ok (.putfield 62, 3) := by decide +kernel
theorem dX5_comment_5 : decode cX5_comment 5 = .ok (.aload_n 0, 1) := by decide +kernel
theorem dX5_comment_6 : decode cX5_comment 6 = .ok (.iload_n 1, 1) := by decide +kernel
theorem dX5_comment_7 : decode cX5_comment 7 = .ok (.invokevirtual 90, 3) := by decide +kernel
theorem dX5_comment_10 : decode cX5_comment 10 = .ok (.ifCond .eq 11, 3) := by decide +kernel
theorem dX5_comment_13 : decode cX5_comment 13 = .ok (.aload_n 0, 1) := by decide +kernel
theorem dX5_comment_14 : decode cX5_comment 14 = .ok (.iload_n 2, 1) := by decide +kernel
theorem dX5_comment_15 : decode cX5_comment 15 = .ok (.invokevirtual 90, 3) := by decide +kernel
theorem dX5_comment_18 : decode cX5_comment 18 = .ok (.ifCond .ne 9, 3) := by decide +kernel
theorem dX5_comment_21 : decode cX5_comment 21 = .ok (.aload_n 0, 1) := by decide +kernel
theorem dX5_comment_22 : decode cX5_comment 22 = .ok (.iconst 1, 1) := by decide +kernel
theorem dX5_comment_23 : decode cX5_comment 23 = .ok (.invokevirtual 94, 3) := by decide +kernel
theorem dX5_comment_26 : decode cX5_comment 26 = .ok (.ireturn, 1) := by decide +kernel
theorem dX5_comment_27 : decode cX5_comment 27 = .ok (.iload_n 2, 1) := by decide +kernel
theorem dX5_comment_28 : decode cX5_comment 28 = .ok (.iload_n 1, 1) := by decide +kernel
theorem dX5_comment_29 : decode cX5_comment 29 = .ok (.if_icmp .le 12, 3) := by decide +kernel
theorem dX5_comment_32 : decode cX5_comment 32 = .ok (.iload_n 3, 1) := by decide +kernel
theorem dX5_comment_33 : decode cX5_comment 33 = .ok (.iconst 0, 1) := by decide +kernel
theorem dX5_comment_34 : decode cX5_comment 34 = .ok (.iconst 3, 1) := by decide +kernel
theorem dX5_comment_35 : decode cX5_comment 35 = .ok (.invokestatic 69, 3) := by decide +kernel
theorem dX5_comment_38 : decode cX5_comment 38 = .ok (.ifCond .ne 9, 3) := by decide +kernel
theorem dX5_comment_41 : decode cX5_comment 41 = .ok (.aload_n 0, 1) := by decide +kernel
theorem dX5_comment_42 : decode cX5_comment 42 = .ok (.iconst 2, 1) := by decide +kernel
theorem dX5_comment_43 : decode cX5_comment 43 = .ok (.invokevirtual 94, 3) := by decide +kernel
theorem dX5_comment_46 : decode cX5_comment 46 = .ok (.ireturn, 1) := by decide +kernel
theorem dX5_comment_47 : decode cX5_comment 47 = .ok (.aload_n 0, 1) := by decide +kernel
theorem dX5_comment_48 : decode cX5_comment 48 = .ok (.getfield 73, 3) := by decide +kernel
theorem dX5_comment_51 : decode cX5_comment 51 = .ok (.bipush 12, 2) := by decide +kernel
theorem dX5_comment_53 : decode cX5_comment 53 = .ok (.if_icmp .ne 9, 3) := by decide +kernel
theorem dX5_comment_56 : decode cX5_comment 56 = .ok (.aload_n 0, 1) := by decide +kernel
theorem dX5_comment_57 : decode cX5_comment 57 = .ok (.iconst 3, 1) := by decide +kernel
theorem dX5_comment_58 : decode cX5_comment 58 = .ok (.invokevirtual 94, 3) := by decide +kernel
theorem dX5_comment_61 : decode cX5_comment 61 = .ok (.ireturn, 1) := by decide +kernel
theorem dX5_comment_62 : decode cX5_comment 62 = .ok (.aload_n 0, 1) := by decide +kernel
theorem dX5_comment_63 : decode cX5_comment 63 = .ok (.getfield 73, 3) := by decide +kernel
theorem dX5_comment_66 : decode cX5_comment 66 = .ok (.istore 4, 2) := by decide +kernel
theorem dX5_comment_68 : decode cX5_comment 68 = .ok (.aload_n 0, 1) := by decide +kernel
theorem dX5_comment_69 : decode cX5_comment 69 = .ok (.getfield 13, 3) := by decide +kernel
theorem dX5_comment_72 : decode cX5_comment 72 = .ok (.iload 4, 2) := by decide +kernel
theorem dX5_comment_74 : decode cX5_comment 74 = .ok (.iload_n 1, 1) := by decide +kernel
theorem dX5_comment_75 : decode cX5_comment 75 = .ok (.iastore, 1) := by decide +kernel
theorem dX5_comment_76 : decode cX5_comment 76 = .ok (.aload_n 0, 1) := by decide +kernel
theorem dX5_comment_77 : decode cX5_comment 77 = .ok (.getfield 16, 3) := by decide +kernel
theorem dX5_comment_80 : decode cX5_comment 80 = .ok (.iload 4, 2) := by decide +kernel
theorem dX5_comment_82 : decode cX5_comment 82 = .ok (.iload_n 2, 1) := by decide +kernel
theorem dX5_comment_83 : decode cX5_comment 83 = .ok (.iastore, 1) := by decide +kernel
theorem dX5_comment_84 : decode cX5_comment 84 = .ok (.aload_n 0, 1) := by decide +kernel
theorem dX5_comment_85 : decode cX5_comment 85 = .ok (.getfield 19, 3) := by decide +kernel
theorem dX5_comment_88 : decode cX5_comment 88 = .ok (.iload 4, 2) := by decide +kernel
theorem dX5_comment_90 : decode cX5_comment 90 = .ok (.iload_n 3, 1) := by decide +kernel
theorem dX5_comment_91 : decode cX5_comment 91 = .ok (.iastore, 1) := by decide +kernel
theorem dX5_comment_92 : decode cX5_comment 92 = .ok (.aload_n 0, 1) := by decide +kernel
theorem dX5_comment_93 : decode cX5_comment 93 = .ok (.getfield 22, 3) := by decide +kernel
theorem dX5_comment_96 : decode cX5_comment 96 = .ok (.iload 4, 2) := by decide +kernel
theorem dX5_comment_98 : decode cX5_comment 98 = .ok (.iconst 1, 1) := by decide +kernel
theorem dX5_comment_99 : decode cX5_comment 99 = .ok (.bastore, 1) := by decide +kernel
theorem dX5_comment_100 : decode cX5_comment 100 = .ok (.aload_n 0, 1) := by decide +kernel
theorem dX5_comment_101 : decode cX5_comment 101 = .ok (.getfield 32, 3) := by decide +kernel
theorem dX5_comment_104 : decode cX5_comment 104 = .ok (.iload 4, 2) := by decide +kernel
theorem dX5_comment_106 : decode cX5_comment 106 = .ok (.iload_n 2, 1) := by decide +kernel
theorem dX5_comment_107 : decode cX5_comment 107 = .ok (.iload_n 1, 1) := by decide +kernel
theorem dX5_comment_108 : decode cX5_comment 108 = .ok (.isub, 1) := by decide +kernel
theorem dX5_comment_109 : decode cX5_comment 109 = .ok (.iastore, 1) := by decide +kernel
theorem dX5_comment_110 : decode cX5_comment 110 = .ok (.iconst 0, 1) := by decide +kernel
theorem dX5_comment_111 : decode cX5_comment 111 = .ok (.istore 5, 2) := by decide +kernel
theorem dX5_comment_113 : decode cX5_comment 113 = .ok (.iload 5, 2) := by decide +kernel
theorem dX5_comment_115 : decode cX5_comment 115 = .ok (.aload_n 0, 1) := by decide +kernel
theorem dX5_comment_116 : decode cX5_comment 116 = .ok (.getfield 32, 3) := by decide +kernel
theorem dX5_comment_119 : decode cX5_comment 119 = .ok (.iload 4, 2) := by decide +kernel
theorem dX5_comment_121 : decode cX5_comment 121 = .ok (.iaload, 1) := by decide +kernel
theorem dX5_comment_122 : decode cX5_comment 122 = .ok (.if_icmp .ge 31, 3) := by decide +kernel
theorem dX5_comment_125 : decode cX5_comment 125 = .ok (.aload_n 0, 1) := by decide +kernel
theorem dX5_comment_126 : decode cX5_comment 126 = .ok (.getfield 29, 3) := by decide +kernel
theorem dX5_comment_129 : decode cX5_comment 129 = .ok (.bipush 60, 2) := by decide +kernel
theorem dX5_comment_131 : decode cX5_comment 131 = .ok (.iload 4, 2) := by decide +kernel
theorem dX5_comment_133 : decode cX5_comment 133 = .ok (.imul, 1) := by decide +kernel
theorem dX5_comment_134 : decode cX5_comment 134 = .ok (.iload 5, 2) := by decide +kernel
theorem dX5_comment_136 : decode cX5_comment 136 = .ok (.iadd, 1) := by decide +kernel
theorem dX5_comment_137 : decode cX5_comment 137 = .ok (.aload_n 0, 1) := by decide +kernel
theorem dX5_comment_138 : decode cX5_comment 138 = .ok (.getfield 7, 3) := by decide +kernel
theorem dX5_comment_141 : decode cX5_comment 141 = .ok (.iload_n 1, 1) := by decide +kernel
theorem dX5_comment_142 : decode cX5_comment 142 = .ok (.iload 5, 2) := by decide +kernel
theorem dX5_comment_144 : decode cX5_comment 144 = .ok (.iadd, 1) := by decide +kernel
theorem dX5_comment_145 : decode cX5_comment 145 = .ok (.iaload, 1) := by decide +kernel
theorem dX5_comment_146 : decode cX5_comment 146 = .ok (.iastore, 1) := by decide +kernel
theorem dX5_comment_147 : decode cX5_comment 147 = .ok (.iinc 5 1, 3) := by decide +kernel
theorem dX5_comment_150 : decode cX5_comment 150 = .ok (.goto (-37), 3) := by decide +kernel
theorem dX5_comment_153 : decode cX5_comment 153 = .ok (.aload_n 0, 1) := by decide +kernel
theorem dX5_comment_154 : decode cX5_comment 154 = .ok (.getfield 35, 3) := by decide +kernel
theorem dX5_comment_157 : decode cX5_comment 157 = .ok (.iload 4, 2) := by decide +kernel
theorem dX5_comment_159 : decode cX5_comment 159 = .ok (.aload_n 0, 1) := by decide +kernel
theorem dX5_comment_160 : decode cX5_comment 160 = .ok (.iload_n 1, 1) := by decide +kernel
theorem dX5_comment_161 : decode cX5_comment 161 = .ok (.iconst 1, 1) := by decide +kernel
theorem dX5_comment_162 : decode cX5_comment 162 = .ok (.isub, 1) := by decide +kernel
theorem dX5_comment_163 : decode cX5_comment 163 = .ok (.invokevirtual 104, 3) := by decide +kernel
theorem dX5_comment_166 : decode cX5_comment 166 = .ok (.iastore, 1) := by decide +kernel
theorem dX5_comment_167 : decode cX5_comment 167 = .ok (.aload_n 0, 1) := by decide +kernel
theorem dX5_comment_168 : decode cX5_comment 168 = .ok (.getfield 38, 3) := by decide +kernel
theorem dX5_comment_171 : decode cX5_comment 171 = .ok (.iload 4, 2) := by decide +kernel
theorem dX5_comment_173 : decode cX5_comment 173 = .ok (.aload_n 0, 1) := by decide +kernel
theorem dX5_comment_174 : decode cX5_comment 174 = .ok (.iload_n 2, 1) := by decide +kernel
theorem dX5_comment_175 : decode cX5_comment 175 = .ok (.invokevirtual 104, 3) := by decide +kernel
theorem dX5_comment_178 : decode cX5_comment 178 = .ok (.iastore, 1) := by decide +kernel
theorem dX5_comment_179 : decode cX5_comment 179 = .ok (.aload_n 0, 1) := by decide +kernel
theorem dX5_comment_180 : decode cX5_comment 180 = .ok (.dup, 1) := by decide +kernel
theorem dX5_comment_181 : decode cX5_comment 181 = .ok (.getfield 73, 3) := by decide +kernel
theorem dX5_comment_184 : decode cX5_comment 184 = .ok (.iconst 1, 1) := by decide +kernel
theorem dX5_comment_185 : decode cX5_comment 185 = .ok (.iadd, 1) := by decide +kernel
theorem dX5_comment_186 : decode cX5_comment 186 = .ok (.putfield 73, 3) := by decide +kernel
theorem dX5_comment_189 : decode cX5_comment 189 = .ok (.aload_n 0, 1) := by decide +kernel
theorem dX5_comment_190 : decode cX5_comment 190 = .ok (.invokevirtual 59, 3) := by decide +kernel
theorem dX5_comment_193 : decode cX5_comment 193 = .ok (.iload 4, 2) := by decide +kernel
theorem dX5_comment_195 : decode cX5_comment 195 = .ok (.ireturn, 1) := by decide +kernel
set_option maxRecDepth 20000 in
theorem ggX5_answer_X5_isComment : GoodIn wsX5_answer wsX5_isComment := goodIn_r _ [8, 9, 10, 11, 7, 12, 17, 18, 19, 20, 21, 22, 23, 24, 25, 26, 27, 28, 29, 30, 31, 32, 33, 34, 35, 36, 37] (by decide +kernel) (by decide +kernel)
set_option maxRecDepth 20000 in
theorem gX5_answer_X5_isComment : GoodIn wsX5_answer (wsV RX5 107 RX5 yX5_isComment wsX5_isComment) := goodIn_app (goodIn_of _ (by decide +kernel)) ggX5_answer_X5_isComment
set_option maxRecDepth 20000 in
theorem ggX5_answer_X5_fails : GoodIn wsX5_answer wsX5_fails := goodIn_r _ [16, 1, 17, 18, 19, 20, 21, 22, 23, 24, 25, 26, 27, 28, 29, 30, 31, 32, 33, 34, 35, 36, 37] (by decide +kernel) (by decide +kernel)
set_option maxRecDepth 20000 in
theorem gX5_answer_X5_fails : GoodIn wsX5_answer (wsV RX5 94 RX5 yX5_fails wsX5_fails) := goodIn_app (goodIn_of _ (by decide +kernel)) ggX5_answer_X5_fails
theorem dX5_answer_0 : decode cX5_answer 0 = .ok (.aload_n 0, 1) := by decide +kernel
theorem dX5_answer_1 : decode cX5_answer 1 = .ok (.iconst 0, 1) := by decide +kernel
theorem dX5_answer_2 : decode cX5_answer 2 = .ok (.putfield 62, 3) := by decide +kernel
theorem dX5_answer_5 : decode cX5_answer 5 = .ok (.aload_n 0, 1) := by decide +kernel
theorem dX5_answer_6 : decode cX5_answer 6 = .ok (.iload_n 1, 1) := by decide +kernel
theorem dX5_answer_7 : decode cX5_answer 7 = .ok (.invokevirtual 107, 3) := by decide +kernel
theorem dX5_answer_10 : decode cX5_answer 10 = .ok (.ifCond .ne 9, 3) := by decide +kernel
theorem dX5_answer_13 : decode cX5_answer 13 = .ok (.aload_n 0, 1) := by decide +kernel
theorem dX5_answer_14 : decode cX5_answer 14 = .ok (.iconst 1, 1) := by decide +kernel
theorem dX5_answer_15 : decode cX5_answer 15 = .ok (.invokevirtual 94, 3) := by decide +kernel
theorem dX5_answer_18 : decode cX5_answer 18 = .ok (.ireturn, 1) := by decide +kernel
theorem dX5_answer_19 : decode cX5_answer 19 = .ok (.aload_n 0, 1) := by decide +kernel
theorem dX5_answer_20 : decode cX5_answer 20 = .ok (.getfield 22, 3) := by decide +kernel
theorem dX5_answer_23 : decode cX5_answer 23 = .ok (.iload_n 1, 1) := by decide +kernel
theorem dX5_answer_24 : decode cX5_answer 24 = .ok (.iconst 1, 1) := by decide +kernel
theorem dX5_answer_25 : decode cX5_answer 25 = .ok (.bastore, 1) := by decide +kernel
theorem dX5_answer_26 : decode cX5_answer 26 = .ok (.aload_n 0, 1) := by decide +kernel
theorem dX5_answer_27 : decode cX5_answer 27 = .ok (.getfield 26, 3) := by decide +kernel
theorem dX5_answer_30 : decode cX5_answer 30 = .ok (.iload_n 1, 1) := by decide +kernel
theorem dX5_answer_31 : decode cX5_answer 31 = .ok (.dup2, 1) := by decide +kernel
theorem dX5_answer_32 : decode cX5_answer 32 = .ok (.iaload, 1) := by decide +kernel
theorem dX5_answer_33 : decode cX5_answer 33 = .ok (.iconst 1, 1) := by decide +kernel
theorem dX5_answer_34 : decode cX5_answer 34 = .ok (.iadd, 1) := by decide +kernel
theorem dX5_answer_35 : decode cX5_answer 35 = .ok (.iastore, 1) := by decide +kernel
theorem dX5_answer_36 : decode cX5_answer 36 = .ok (.aload_n 0, 1) := by decide +kernel
theorem dX5_answer_37 : decode cX5_answer 37 = .ok (.getfield 26, 3) := by decide +kernel
theorem dX5_answer_40 : decode cX5_answer 40 = .ok (.iload_n 1, 1) := by decide +kernel
theorem dX5_answer_41 : decode cX5_answer 41 = .ok (.iaload, 1) := by decide +kernel
theorem dX5_answer_42 : decode cX5_answer 42 = .ok (.ireturn, 1) := by decide +kernel
set_option maxRecDepth 20000 in
theorem ggX5_resolve_X5_isComment : GoodIn wsX5_resolve wsX5_isComment := goodIn_r _ [7, 8, 9, 10, 6, 11, 12, 13, 14, 15, 16, 17, 18, 19, 20, 21, 22, 23, 24, 25, 26, 27, 28, 29, 30, 31, 32] (by decide +kernel) (by decide +kernel)
set_option maxRecDepth 20000 in
theorem gX5_resolve_X5_isComment : GoodIn wsX5_resolve (wsV RX5 107 RX5 yX5_isComment wsX5_isComment) := goodIn_app (goodIn_of _ (by decide +kernel)) ggX5_resolve_X5_isComment
theorem dX5_resolve_0 : decode cX5_resolve 0 = .ok (.aload_n 0, 1) := by decide +kernel
theorem dX5_resolve_1 : decode cX5_resolve 1 = .ok (.aload_n 0, 1) := by decide +kernel
theorem dX5_resolve_2 : decode cX5_resolve 2 = .ok (.iload_n 1, 1) := by decide +kernel
theorem dX5_resolve_3 : decode cX5_resolve 3 = .ok (.invokevirtual 107, 3) := by decide +kernel
theorem dX5_resolve_6 : decode cX5_resolve 6 = .ok (.ifCond .eq 7, 3) := by decide +kernel
theorem dX5_resolve_9 : decode cX5_resolve 9 = .ok (.iconst 0, 1) := by decide +kernel
theorem dX5_resolve_10 : decode cX5_resolve 10 = .ok (.goto 4, 3) := by decide +kernel
theorem dX5_resolve_13 : decode cX5_resolve 13 = .ok (.iconst 1, 1) := by decide +kernel
theorem dX5_resolve_14 : decode cX5_resolve 14 = .ok (.putfield 62, 3) := by decide +kernel
theorem dX5_resolve_17 : decode cX5_resolve 17 = .ok (.aload_n 0, 1) := by decide +kernel
theorem dX5_resolve_18 : decode cX5_resolve 18 = .ok (.getfield 62, 3) := by decide +kernel
theorem dX5_resolve_21 : decode cX5_resolve 21 = .ok (.ifCond .ne 16, 3) := by decide +kernel
theorem dX5_resolve_24 : decode cX5_resolve 24 = .ok (.aload_n 0, 1) := by decide +kernel
theorem dX5_resolve_25 : decode cX5_resolve 25 = .ok (.getfield 22, 3) := by decide +kernel
theorem dX5_resolve_28 : decode cX5_resolve 28 = .ok (.iload_n 1, 1) := by decide +kernel
theorem dX5_resolve_29 : decode cX5_resolve 29 = .ok (.baload, 1) := by decide +kernel
theorem dX5_resolve_30 : decode cX5_resolve 30 = .ok (.ifCond .eq 7, 3) := by decide +kernel
theorem dX5_resolve_33 : decode cX5_resolve 33 = .ok (.iconst 1, 1) := by decide +kernel
theorem dX5_resolve_34 : decode cX5_resolve 34 = .ok (.goto 4, 3) := by decide +kernel
theorem dX5_resolve_37 : decode cX5_resolve 37 = .ok (.iconst 0, 1) := by decide +kernel
theorem dX5_resolve_38 : decode cX5_resolve 38 = .ok (.istore_n 2, 1) := by decide +kernel
theorem dX5_resolve_39 : decode cX5_resolve 39 = .ok (.iload_n 2, 1) := by decide +kernel
theorem dX5_resolve_40 : decode cX5_resolve 40 = .ok (.ifCond .eq 10, 3) := by decide +kernel
theorem dX5_resolve_43 : decode cX5_resolve 43 = .ok (.aload_n 0, 1) := by decide +kernel
theorem dX5_resolve_44 : decode cX5_resolve 44 = .ok (.getfield 22, 3) := by decide +kernel
theorem dX5_resolve_47 : decode cX5_resolve 47 = .ok (.iload_n 1, 1) := by decide +kernel
theorem dX5_resolve_48 : decode cX5_resolve 48 = .ok (.iconst 0, 1) := by decide +kernel
theorem dX5_resolve_49 : decode cX5_resolve 49 = .ok (.bastore, 1) := by decide +kernel
theorem dX5_resolve_50 : decode cX5_resolve 50 = .ok (.iload_n 2, 1) := by decide +kernel
theorem dX5_resolve_51 : decode cX5_resolve 51 = .ok (.ireturn, 1) := by decide +kernel
set_option maxRecDepth 20000 in
theorem ggX5_fit_X5_letterOf : GoodIn wsX5_fit wsX5_letterOf := goodIn_ca (goodIn_r _ [11, 2, 3, 12, 13, 10, 14, 15, 16, 17, 18, 19, 20, 21, 22, 23, 24, 25, 26, 27, 28, 29, 30, 31, 32, 33, 34, 35] (by decide +kernel) (by decide +kernel)) (goodIn_sub (fun _ h => List.mem_cons_of_mem _ (List.mem_append_right _ h)) (by decide +kernel))
set_option maxRecDepth 20000 in
theorem gX5_fit_X5_letterOf : GoodIn wsX5_fit (wsV RX5 104 RX5 yX5_letterOf wsX5_letterOf) := goodIn_app (goodIn_of _ (by decide +kernel)) ggX5_fit_X5_letterOf
theorem dX5_fit_0 : decode cX5_fit 0 = .ok (.iload_n 2, 1) := by decide +kernel
theorem dX5_fit_1 : decode cX5_fit 1 = .ok (.aload_n 0, 1) := by decide +kernel
theorem dX5_fit_2 : decode cX5_fit 2 = .ok (.getfield 32, 3) := by decide +kernel
theorem dX5_fit_5 : decode cX5_fit 5 = .ok (.iload_n 1, 1) := by decide +kernel
theorem dX5_fit_6 : decode cX5_fit 6 = .ok (.iaload, 1) := by decide +kernel
theorem dX5_fit_7 : decode cX5_fit 7 = .ok (.iadd, 1) := by decide +kernel
theorem dX5_fit_8 : decode cX5_fit 8 = .ok (.aload_n 0, 1) := by decide +kernel
theorem dX5_fit_9 : decode cX5_fit 9 = .ok (.getfield 66, 3) := by decide +kernel
theorem dX5_fit_12 : decode cX5_fit 12 = .ok (.if_icmp .le 5, 3) := by decide +kernel
theorem dX5_fit_15 : decode cX5_fit 15 = .ok (.iconst (-1), 1) := by decide +kernel
theorem dX5_fit_16 : decode cX5_fit 16 = .ok (.ireturn, 1) := by decide +kernel
theorem dX5_fit_17 : decode cX5_fit 17 = .ok (.iconst 1, 1) := by decide +kernel
theorem dX5_fit_18 : decode cX5_fit 18 = .ok (.istore_n 3, 1) := by decide +kernel
theorem dX5_fit_19 : decode cX5_fit 19 = .ok (.iconst 0, 1) := by decide +kernel
theorem dX5_fit_20 : decode cX5_fit 20 = .ok (.istore 4, 2) := by decide +kernel
theorem dX5_fit_22 : decode cX5_fit 22 = .ok (.iload 4, 2) := by decide +kernel
theorem dX5_fit_24 : decode cX5_fit 24 = .ok (.aload_n 0, 1) := by decide +kernel
theorem dX5_fit_25 : decode cX5_fit 25 = .ok (.getfield 32, 3) := by decide +kernel
theorem dX5_fit_28 : decode cX5_fit 28 = .ok (.iload_n 1, 1) := by decide +kernel
theorem dX5_fit_29 : decode cX5_fit 29 = .ok (.iaload, 1) := by decide +kernel
theorem dX5_fit_30 : decode cX5_fit 30 = .ok (.if_icmp .ge 43, 3) := by decide +kernel
theorem dX5_fit_33 : decode cX5_fit 33 = .ok (.iload_n 3, 1) := by decide +kernel
theorem dX5_fit_34 : decode cX5_fit 34 = .ok (.ifCond .eq 31, 3) := by decide +kernel
theorem dX5_fit_37 : decode cX5_fit 37 = .ok (.aload_n 0, 1) := by decide +kernel
theorem dX5_fit_38 : decode cX5_fit 38 = .ok (.getfield 7, 3) := by decide +kernel
theorem dX5_fit_41 : decode cX5_fit 41 = .ok (.iload_n 2, 1) := by decide +kernel
theorem dX5_fit_42 : decode cX5_fit 42 = .ok (.iload 4, 2) := by decide +kernel
theorem dX5_fit_44 : decode cX5_fit 44 = .ok (.iadd, 1) := by decide +kernel
theorem dX5_fit_45 : decode cX5_fit 45 = .ok (.iaload, 1) := by decide +kernel
theorem dX5_fit_46 : decode cX5_fit 46 = .ok (.aload_n 0, 1) := by decide +kernel
theorem dX5_fit_47 : decode cX5_fit 47 = .ok (.getfield 29, 3) := by decide +kernel
theorem dX5_fit_50 : decode cX5_fit 50 = .ok (.bipush 60, 2) := by decide +kernel
theorem dX5_fit_52 : decode cX5_fit 52 = .ok (.iload_n 1, 1) := by decide +kernel
theorem dX5_fit_53 : decode cX5_fit 53 = .ok (.imul, 1) := by decide +kernel
theorem dX5_fit_54 : decode cX5_fit 54 = .ok (.iload 4, 2) := by decide +kernel
theorem dX5_fit_56 : decode cX5_fit 56 = .ok (.iadd, 1) := by decide +kernel
theorem dX5_fit_57 : decode cX5_fit 57 = .ok (.iaload, 1) := by decide +kernel
theorem dX5_fit_58 : decode cX5_fit 58 = .ok (.if_icmp .ne 7, 3) := by decide +kernel
theorem dX5_fit_61 : decode cX5_fit 61 = .ok (.iconst 1, 1) := by decide +kernel
theorem dX5_fit_62 : decode cX5_fit 62 = .ok (.goto 4, 3) := by decide +kernel
theorem dX5_fit_65 : decode cX5_fit 65 = .ok (.iconst 0, 1) := by decide +kernel
theorem dX5_fit_66 : decode cX5_fit 66 = .ok (.istore_n 3, 1) := by decide +kernel
theorem dX5_fit_67 : decode cX5_fit 67 = .ok (.iinc 4 1, 3) := by decide +kernel
theorem dX5_fit_70 : decode cX5_fit 70 = .ok (.goto (-48), 3) := by decide +kernel
theorem dX5_fit_73 : decode cX5_fit 73 = .ok (.aload_n 0, 1) := by decide +kernel
theorem dX5_fit_74 : decode cX5_fit 74 = .ok (.iload_n 2, 1) := by decide +kernel
theorem dX5_fit_75 : decode cX5_fit 75 = .ok (.iconst 1, 1) := by decide +kernel
theorem dX5_fit_76 : decode cX5_fit 76 = .ok (.isub, 1) := by decide +kernel
theorem dX5_fit_77 : decode cX5_fit 77 = .ok (.invokevirtual 104, 3) := by decide +kernel
theorem dX5_fit_80 : decode cX5_fit 80 = .ok (.aload_n 0, 1) := by decide +kernel
theorem dX5_fit_81 : decode cX5_fit 81 = .ok (.getfield 35, 3) := by decide +kernel
theorem dX5_fit_84 : decode cX5_fit 84 = .ok (.iload_n 1, 1) := by decide +kernel
theorem dX5_fit_85 : decode cX5_fit 85 = .ok (.iaload, 1) := by decide +kernel
theorem dX5_fit_86 : decode cX5_fit 86 = .ok (.if_icmp .ne 7, 3) := by decide +kernel
theorem dX5_fit_89 : decode cX5_fit 89 = .ok (.iconst 1, 1) := by decide +kernel
theorem dX5_fit_90 : decode cX5_fit 90 = .ok (.goto 4, 3) := by decide +kernel
theorem dX5_fit_93 : decode cX5_fit 93 = .ok (.iconst 0, 1) := by decide +kernel
theorem dX5_fit_94 : decode cX5_fit 94 = .ok (.aload_n 0, 1) := by decide +kernel
theorem dX5_fit_95 : decode cX5_fit 95 = .ok (.iload_n 2, 1) := by decide +kernel
theorem dX5_fit_96 : decode cX5_fit 96 = .ok (.aload_n 0, 1) := by decide +kernel
theorem dX5_fit_97 : decode cX5_fit 97 = .ok (.getfield 32, 3) := by decide +kernel
theorem dX5_fit_100 : decode cX5_fit 100 = .ok (.iload_n 1, 1) := by decide +kernel
theorem dX5_fit_101 : decode cX5_fit 101 = .ok (.iaload, 1) := by decide +kernel
theorem dX5_fit_102 : decode cX5_fit 102 = .ok (.iadd, 1) := by decide +kernel
theorem dX5_fit_103 : decode cX5_fit 103 = .ok (.invokevirtual 104, 3) := by decide +kernel
theorem dX5_fit_106 : decode cX5_fit 106 = .ok (.aload_n 0, 1) := by decide +kernel
theorem dX5_fit_107 : decode cX5_fit 107 = .ok (.getfield 38, 3) := by decide +kernel
theorem dX5_fit_110 : decode cX5_fit 110 = .ok (.iload_n 1, 1) := by decide +kernel
theorem dX5_fit_111 : decode cX5_fit 111 = .ok (.iaload, 1) := by decide +kernel
theorem dX5_fit_112 : decode cX5_fit 112 = .ok (.if_icmp .ne 7, 3) := by decide +kernel
theorem dX5_fit_115 : decode cX5_fit 115 = .ok (.iconst 1, 1) := by decide +kernel
theorem dX5_fit_116 : decode cX5_fit 116 = .ok (.goto 4, 3) := by decide +kernel
theorem dX5_fit_119 : decode cX5_fit 119 = .ok (.iconst 0, 1) := by decide +kernel
theorem dX5_fit_120 : decode cX5_fit 120 = .ok (.iadd, 1) := by decide +kernel
theorem dX5_fit_121 : decode cX5_fit 121 = .ok (.istore 4, 2) := by decide +kernel
theorem dX5_fit_123 : decode cX5_fit 123 = .ok (.iload_n 3, 1) := by decide +kernel
theorem dX5_fit_124 : decode cX5_fit 124 = .ok (.ifCond .eq 8, 3) := by decide +kernel
theorem dX5_fit_127 : decode cX5_fit 127 = .ok (.iload 4, 2) := by decide +kernel
theorem dX5_fit_129 : decode cX5_fit 129 = .ok (.goto 4, 3) := by decide +kernel
theorem dX5_fit_132 : decode cX5_fit 132 = .ok (.iconst (-1), 1) := by decide +kernel
theorem dX5_fit_133 : decode cX5_fit 133 = .ok (.ireturn, 1) := by decide +kernel
set_option maxRecDepth 20000 in
theorem ggX5_find_X5_isComment : GoodIn wsX5_find wsX5_isComment := goodIn_r _ [10, 11, 12, 13, 9, 14, 41, 42, 43, 44, 45, 46, 47, 48, 49, 50, 51, 52, 53, 54, 55, 56, 57, 58, 59, 60, 61] (by decide +kernel) (by decide +kernel)
set_option maxRecDepth 20000 in
theorem gX5_find_X5_isComment : GoodIn wsX5_find (wsV RX5 107 RX5 yX5_isComment wsX5_isComment) := goodIn_app (goodIn_of _ (by decide +kernel)) ggX5_find_X5_isComment
set_option maxRecDepth 20000 in
theorem ggX5_find_X5_fails : GoodIn wsX5_find wsX5_fails := goodIn_r _ [18, 1, 41, 42, 43, 44, 45, 46, 47, 48, 49, 50, 51, 52, 53, 54, 55, 56, 57, 58, 59, 60, 61] (by decide +kernel) (by decide +kernel)
set_option maxRecDepth 20000 in
theorem gX5_find_X5_fails : GoodIn wsX5_find (wsV RX5 94 RX5 yX5_fails wsX5_fails) := goodIn_app (goodIn_of _ (by decide +kernel)) ggX5_find_X5_fails
set_option maxRecDepth 20000 in
theorem ggX5_find_X5_fit : GoodIn wsX5_find wsX5_fit := goodIn_ca (goodIn_r _ [22, 5, 3, 23, 24, 25, 26, 27, 28, 29, 9, 30, 12, 13, 14, 41, 42, 43, 44, 45, 46, 47, 48, 49, 50, 51, 52, 53, 54, 55, 56, 57, 58, 59, 60, 61] (by decide +kernel) (by decide +kernel)) (goodIn_sub (fun _ h => List.mem_cons_of_mem _ (List.mem_append_right _ h)) (by decide +kernel))
set_option maxRecDepth 20000 in
theorem gX5_find_X5_fit : GoodIn wsX5_find (wsV RX5 110 RX5 yX5_fit wsX5_fit) := goodIn_app (goodIn_of _ (by decide +kernel)) ggX5_find_X5_fit
set_option maxRecDepth 20000 in
theorem ggX5_find_X5_keeps : GoodIn wsX5_find wsX5_keeps := goodIn_ca (goodIn_r _ [34, 35, 36, 37, 38, 39, 9, 40, 11, 2, 4, 41, 42, 43, 44, 45, 46, 47, 48, 49, 50, 51, 52, 53, 54, 55, 56, 57, 58, 59, 60, 61] (by decide +kernel) (by decide +kernel)) (goodIn_sub (fun _ h => List.mem_cons_of_mem _ (List.mem_append_right _ h)) (by decide +kernel))
set_option maxRecDepth 20000 in
theorem gX5_find_X5_keeps : GoodIn wsX5_find (wsV RX5 59 RX5 yX5_keeps wsX5_keeps) := goodIn_app (goodIn_of _ (by decide +kernel)) ggX5_find_X5_keeps
theorem dX5_find_0 : decode cX5_find 0 = .ok (.aload_n 0, 1) := by decide +kernel
theorem dX5_find_1 : decode cX5_find 1 = .ok (.iconst 0, 1) := by decide +kernel
theorem dX5_find_2 : decode cX5_find 2 = .ok (.putfield 62, 3) := by decide +kernel
theorem dX5_find_5 : decode cX5_find 5 = .ok (.aload_n 0, 1) := by decide +kernel
theorem dX5_find_6 : decode cX5_find 6 = .ok (.iload_n 1, 1) := by decide +kernel
theorem dX5_find_7 : decode cX5_find 7 = .ok (.invokevirtual 107, 3) := by decide +kernel
theorem dX5_find_10 : decode cX5_find 10 = .ok (.ifCond .ne 9, 3) := by decide +kernel
theorem dX5_find_13 : decode cX5_find 13 = .ok (.aload_n 0, 1) := by decide +kernel
theorem dX5_find_14 : decode cX5_find 14 = .ok (.iconst 1, 1) := by decide +kernel
theorem dX5_find_15 : decode cX5_find 15 = .ok (.invokevirtual 94, 3) := by decide +kernel
theorem dX5_find_18 : decode cX5_find 18 = .ok (.ireturn, 1) := by decide +kernel
theorem dX5_find_19 : decode cX5_find 19 = .ok (.aload_n 0, 1) := by decide +kernel
theorem dX5_find_20 : decode cX5_find 20 = .ok (.getfield 13, 3) := by decide +kernel
theorem dX5_find_23 : decode cX5_find 23 = .ok (.iload_n 1, 1) := by decide +kernel
theorem dX5_find_24 : decode cX5_find 24 = .ok (.iaload, 1) := by decide +kernel
theorem dX5_find_25 : decode cX5_find 25 = .ok (.iconst (-1), 1) := by decide +kernel
theorem dX5_find_26 : decode cX5_find 26 = .ok (.if_icmp .eq 9, 3) := by decide +kernel
theorem dX5_find_29 : decode cX5_find 29 = .ok (.aload_n 0, 1) := by decide +kernel
theorem dX5_find_30 : decode cX5_find 30 = .ok (.iconst 2, 1) := by decide +kernel
theorem dX5_find_31 : decode cX5_find 31 = .ok (.invokevirtual 94, 3) := by decide +kernel
theorem dX5_find_34 : decode cX5_find 34 = .ok (.ireturn, 1) := by decide +kernel
theorem dX5_find_35 : decode cX5_find 35 = .ok (.iconst (-1), 1) := by decide +kernel
theorem dX5_find_36 : decode cX5_find 36 = .ok (.istore_n 2, 1) := by decide +kernel
theorem dX5_find_37 : decode cX5_find 37 = .ok (.iconst 0, 1) := by decide +kernel
theorem dX5_find_38 : decode cX5_find 38 = .ok (.istore_n 3, 1) := by decide +kernel
theorem dX5_find_39 : decode cX5_find 39 = .ok (.iload_n 3, 1) := by decide +kernel
theorem dX5_find_40 : decode cX5_find 40 = .ok (.aload_n 0, 1) := by decide +kernel
theorem dX5_find_41 : decode cX5_find 41 = .ok (.getfield 66, 3) := by decide +kernel
theorem dX5_find_44 : decode cX5_find 44 = .ok (.if_icmp .ge 51, 3) := by decide +kernel
theorem dX5_find_47 : decode cX5_find 47 = .ok (.aload_n 0, 1) := by decide +kernel
theorem dX5_find_48 : decode cX5_find 48 = .ok (.iload_n 1, 1) := by decide +kernel
theorem dX5_find_49 : decode cX5_find 49 = .ok (.iload_n 3, 1) := by decide +kernel
theorem dX5_find_50 : decode cX5_find 50 = .ok (.invokevirtual 110, 3) := by decide +kernel
theorem dX5_find_53 : decode cX5_find 53 = .ok (.iload_n 2, 1) := by decide +kernel
theorem dX5_find_54 : decode cX5_find 54 = .ok (.iconst (-1), 1) := by decide +kernel
theorem dX5_find_55 : decode cX5_find 55 = .ok (.if_icmp .ne 7, 3) := by decide +kernel
theorem dX5_find_58 : decode cX5_find 58 = .ok (.iconst (-1), 1) := by decide +kernel
theorem dX5_find_59 : decode cX5_find 59 = .ok (.goto 9, 3) := by decide +kernel
theorem dX5_find_62 : decode cX5_find 62 = .ok (.aload_n 0, 1) := by decide +kernel
theorem dX5_find_63 : decode cX5_find 63 = .ok (.iload_n 1, 1) := by decide +kernel
theorem dX5_find_64 : decode cX5_find 64 = .ok (.iload_n 2, 1) := by decide +kernel
theorem dX5_find_65 : decode cX5_find 65 = .ok (.invokevirtual 110, 3) := by decide +kernel
theorem dX5_find_68 : decode cX5_find 68 = .ok (.if_icmp .le 7, 3) := by decide +kernel
theorem dX5_find_71 : decode cX5_find 71 = .ok (.iconst 1, 1) := by decide +kernel
theorem dX5_find_72 : decode cX5_find 72 = .ok (.goto 4, 3) := by decide +kernel
theorem dX5_find_75 : decode cX5_find 75 = .ok (.iconst 0, 1) := by decide +kernel
theorem dX5_find_76 : decode cX5_find 76 = .ok (.istore 4, 2) := by decide +kernel
theorem dX5_find_78 : decode cX5_find 78 = .ok (.iload 4, 2) := by decide +kernel
theorem dX5_find_80 : decode cX5_find 80 = .ok (.ifCond .eq 7, 3) := by decide +kernel
theorem dX5_find_83 : decode cX5_find 83 = .ok (.iload_n 3, 1) := by decide +kernel
theorem dX5_find_84 : decode cX5_find 84 = .ok (.goto 4, 3) := by decide +kernel
theorem dX5_find_87 : decode cX5_find 87 = .ok (.iload_n 2, 1) := by decide +kernel
theorem dX5_find_88 : decode cX5_find 88 = .ok (.istore_n 2, 1) := by decide +kernel
theorem dX5_find_89 : decode cX5_find 89 = .ok (.iinc 3 1, 3) := by decide +kernel
theorem dX5_find_92 : decode cX5_find 92 = .ok (.goto (-53), 3) := by decide +kernel
theorem dX5_find_95 : decode cX5_find 95 = .ok (.iload_n 2, 1) := by decide +kernel
theorem dX5_find_96 : decode cX5_find 96 = .ok (.iconst (-1), 1) := by decide +kernel
theorem dX5_find_97 : decode cX5_find 97 = .ok (.if_icmp .eq 28, 3) := by decide +kernel
theorem dX5_find_100 : decode cX5_find 100 = .ok (.aload_n 0, 1) := by decide +kernel
theorem dX5_find_101 : decode cX5_find 101 = .ok (.getfield 13, 3) := by decide +kernel
theorem dX5_find_104 : decode cX5_find 104 = .ok (.iload_n 1, 1) := by decide +kernel
theorem dX5_find_105 : decode cX5_find 105 = .ok (.iload_n 2, 1) := by decide +kernel
theorem dX5_find_106 : decode cX5_find 106 = .ok (.iastore, 1) := by decide +kernel
theorem dX5_find_107 : decode cX5_find 107 = .ok (.aload_n 0, 1) := by decide +kernel
theorem dX5_find_108 : decode cX5_find 108 = .ok (.getfield 16, 3) := by decide +kernel
theorem dX5_find_111 : decode cX5_find 111 = .ok (.iload_n 1, 1) := by decide +kernel
theorem dX5_find_112 : decode cX5_find 112 = .ok (.iload_n 2, 1) := by decide +kernel
theorem dX5_find_113 : decode cX5_find 113 = .ok (.aload_n 0, 1) := by decide +kernel
theorem dX5_find_114 : decode cX5_find 114 = .ok (.getfield 32, 3) := by decide +kernel
theorem dX5_find_117 : decode cX5_find 117 = .ok (.iload_n 1, 1) := by decide +kernel
theorem dX5_find_118 : decode cX5_find 118 = .ok (.iaload, 1) := by decide +kernel
theorem dX5_find_119 : decode cX5_find 119 = .ok (.iadd, 1) := by decide +kernel
theorem dX5_find_120 : decode cX5_find 120 = .ok (.iastore, 1) := by decide +kernel
theorem dX5_find_121 : decode cX5_find 121 = .ok (.aload_n 0, 1) := by decide +kernel
theorem dX5_find_122 : decode cX5_find 122 = .ok (.invokevirtual 59, 3) := by decide +kernel
theorem dX5_find_125 : decode cX5_find 125 = .ok (.iload_n 2, 1) := by decide +kernel
theorem dX5_find_126 : decode cX5_find 126 = .ok (.ireturn, 1) := by decide +kernel
theorem dX5_comments_0 : decode cX5_comments 0 = .ok (.aload_n 0, 1) := by decide +kernel
theorem dX5_comments_1 : decode cX5_comments 1 = .ok (.iconst 0, 1) := by decide +kernel
theorem dX5_comments_2 : decode cX5_comments 2 = .ok (.putfield 62, 3) := by decide +kernel
theorem dX5_comments_5 : decode cX5_comments 5 = .ok (.aload_n 0, 1) := by decide +kernel
theorem dX5_comments_6 : decode cX5_comments 6 = .ok (.getfield 73, 3) := by decide +kernel
theorem dX5_comments_9 : decode cX5_comments 9 = .ok (.ireturn, 1) := by decide +kernel
set_option maxRecDepth 20000 in
theorem ggX5_rangeOf_X5_isComment : GoodIn wsX5_rangeOf wsX5_isComment := goodIn_r _ [6, 7, 8, 9, 5, 10, 21, 22, 23, 24, 25, 26, 27, 28, 29, 30, 31, 32, 33, 34, 35, 36, 37, 38, 39, 40, 41] (by decide +kernel) (by decide +kernel)
set_option maxRecDepth 20000 in
theorem gX5_rangeOf_X5_isComment : GoodIn wsX5_rangeOf (wsV RX5 107 RX5 yX5_isComment wsX5_isComment) := goodIn_app (goodIn_of _ (by decide +kernel)) ggX5_rangeOf_X5_isComment
set_option maxRecDepth 20000 in
theorem ggX5_rangeOf_X5_told : GoodIn wsX5_rangeOf wsX5_told := goodIn_ca (goodIn_r _ [14, 7, 15, 16, 21, 22, 23, 24, 25, 26, 27, 28, 29, 30, 31, 32, 33, 34, 35, 36, 37, 38, 39, 40, 41] (by decide +kernel) (by decide +kernel)) (goodIn_sub (fun _ h => List.mem_cons_of_mem _ (List.mem_append_right _ h)) (by decide +kernel))
set_option maxRecDepth 20000 in
theorem gX5_rangeOf_X5_told : GoodIn wsX5_rangeOf (wsV RX5 82 RX5 yX5_told wsX5_told) := goodIn_app (goodIn_of _ (by decide +kernel)) ggX5_rangeOf_X5_told
set_option maxRecDepth 20000 in
theorem ggX5_rangeOf_X5_fails : GoodIn wsX5_rangeOf wsX5_fails := goodIn_r _ [20, 1, 21, 22, 23, 24, 25, 26, 27, 28, 29, 30, 31, 32, 33, 34, 35, 36, 37, 38, 39, 40, 41] (by decide +kernel) (by decide +kernel)
set_option maxRecDepth 20000 in
theorem gX5_rangeOf_X5_fails : GoodIn wsX5_rangeOf (wsV RX5 94 RX5 yX5_fails wsX5_fails) := goodIn_app (goodIn_of _ (by decide +kernel)) ggX5_rangeOf_X5_fails
theorem dX5_rangeOf_0 : decode cX5_rangeOf 0 = .ok (.aload_n 0, 1) := by decide +kernel
theorem dX5_rangeOf_1 : decode cX5_rangeOf 1 = .ok (.iconst 0, 1) := by decide +kernel
theorem dX5_rangeOf_2 : decode cX5_rangeOf 2 = .ok (.putfield 62, 3) := by decide +kernel
theorem dX5_rangeOf_5 : decode cX5_rangeOf 5 = .ok (.aload_n 0, 1) := by decide +kernel
theorem dX5_rangeOf_6 : decode cX5_rangeOf 6 = .ok (.iload_n 1, 1) := by decide +kernel
theorem dX5_rangeOf_7 : decode cX5_rangeOf 7 = .ok (.invokevirtual 107, 3) := by decide +kernel
theorem dX5_rangeOf_10 : decode cX5_rangeOf 10 = .ok (.ifCond .eq 11, 3) := by decide +kernel
theorem dX5_rangeOf_13 : decode cX5_rangeOf 13 = .ok (.aload_n 0, 1) := by decide +kernel
theorem dX5_rangeOf_14 : decode cX5_rangeOf 14 = .ok (.iload_n 1, 1) := by decide +kernel
theorem dX5_rangeOf_15 : decode cX5_rangeOf 15 = .ok (.invokevirtual 82, 3) := by decide +kernel
theorem dX5_rangeOf_18 : decode cX5_rangeOf 18 = .ok (.goto 8, 3) := by decide +kernel
theorem dX5_rangeOf_21 : decode cX5_rangeOf 21 = .ok (.aload_n 0, 1) := by decide +kernel
theorem dX5_rangeOf_22 : decode cX5_rangeOf 22 = .ok (.iconst 1, 1) := by decide +kernel
theorem dX5_rangeOf_23 : decode cX5_rangeOf 23 = .ok (.invokevirtual 94, 3) := by decide +kernel
theorem dX5_rangeOf_26 : decode cX5_rangeOf 26 = .ok (.ireturn, 1) := by decide +kernel
set_option maxRecDepth 20000 in
theorem ggX5_rangeThen_X5_isComment : GoodIn wsX5_rangeThen wsX5_isComment := goodIn_r _ [8, 9, 10, 11, 7, 12, 17, 18, 19, 20, 21, 22, 23, 24, 25, 26, 27, 28, 29, 30, 31, 32, 33, 34, 35, 36, 37] (by decide +kernel) (by decide +kernel)
set_option maxRecDepth 20000 in
theorem gX5_rangeThen_X5_isComment : GoodIn wsX5_rangeThen (wsV RX5 107 RX5 yX5_isComment wsX5_isComment) := goodIn_app (goodIn_of _ (by decide +kernel)) ggX5_rangeThen_X5_isComment
set_option maxRecDepth 20000 in
theorem ggX5_rangeThen_X5_in : GoodIn wsX5_rangeThen wsX5_in := goodIn_r _ [12] (by decide +kernel) (by decide +kernel)
set_option maxRecDepth 20000 in
theorem gX5_rangeThen_X5_in : GoodIn wsX5_rangeThen (va_wsS RX5 69 yX5_in wsX5_in) := goodIn_app (goodIn_of _ (by decide +kernel)) ggX5_rangeThen_X5_in
set_option maxRecDepth 20000 in
theorem ggX5_rangeThen_X5_fails : GoodIn wsX5_rangeThen wsX5_fails := goodIn_r _ [16, 1, 17, 18, 19, 20, 21, 22, 23, 24, 25, 26, 27, 28, 29, 30, 31, 32, 33, 34, 35, 36, 37] (by decide +kernel) (by decide +kernel)
set_option maxRecDepth 20000 in
theorem gX5_rangeThen_X5_fails : GoodIn wsX5_rangeThen (wsV RX5 94 RX5 yX5_fails wsX5_fails) := goodIn_app (goodIn_of _ (by decide +kernel)) ggX5_rangeThen_X5_fails
theorem dX5_rangeThen_0 : decode cX5_rangeThen 0 = .ok (.aload_n 0, 1) := by decide +kernel
theorem dX5_rangeThen_1 : decode cX5_rangeThen 1 = .ok (.iconst 0, 1) := by decide +kernel
theorem dX5_rangeThen_2 : decode cX5_rangeThen 2 = .ok (.putfield 62, 3) := by decide +kernel
theorem dX5_rangeThen_5 : decode cX5_rangeThen 5 = .ok (.aload_n 0, 1) := by decide +kernel
theorem dX5_rangeThen_6 : decode cX5_rangeThen 6 = .ok (.iload_n 1, 1) := by decide +kernel
theorem dX5_rangeThen_7 : decode cX5_rangeThen 7 = .ok (.invokevirtual 107, 3) := by decide +kernel
theorem dX5_rangeThen_10 : decode cX5_rangeThen 10 = .ok (.ifCond .eq 29, 3) := by decide +kernel
theorem dX5_rangeThen_13 : decode cX5_rangeThen 13 = .ok (.iload_n 2, 1) := by decide +kernel
theorem dX5_rangeThen_14 : decode cX5_rangeThen 14 = .ok (.iconst 0, 1) := by decide +kernel
theorem dX5_rangeThen_15 : decode cX5_rangeThen 15 = .ok (.aload_n 0, 1) := by decide +kernel
theorem dX5_rangeThen_16 : decode cX5_rangeThen 16 = .ok (.getfield 79, 3) := by decide +kernel
theorem dX5_rangeThen_19 : decode cX5_rangeThen 19 = .ok (.invokestatic 69, 3) := by decide +kernel
theorem dX5_rangeThen_22 : decode cX5_rangeThen 22 = .ok (.ifCond .eq 17, 3) := by decide +kernel
theorem dX5_rangeThen_25 : decode cX5_rangeThen 25 = .ok (.aload_n 0, 1) := by decide +kernel
theorem dX5_rangeThen_26 : decode cX5_rangeThen 26 = .ok (.getfield 41, 3) := by decide +kernel
theorem dX5_rangeThen_29 : decode cX5_rangeThen 29 = .ok (.bipush 12, 2) := by decide +kernel
theorem dX5_rangeThen_31 : decode cX5_rangeThen 31 = .ok (.iload_n 2, 1) := by decide +kernel
theorem dX5_rangeThen_32 : decode cX5_rangeThen 32 = .ok (.imul, 1) := by decide +kernel
theorem dX5_rangeThen_33 : decode cX5_rangeThen 33 = .ok (.iload_n 1, 1) := by decide +kernel
theorem dX5_rangeThen_34 : decode cX5_rangeThen 34 = .ok (.iadd, 1) := by decide +kernel
theorem dX5_rangeThen_35 : decode cX5_rangeThen 35 = .ok (.iaload, 1) := by decide +kernel
theorem dX5_rangeThen_36 : decode cX5_rangeThen 36 = .ok (.goto 8, 3) := by decide +kernel
theorem dX5_rangeThen_39 : decode cX5_rangeThen 39 = .ok (.aload_n 0, 1) := by decide +kernel
theorem dX5_rangeThen_40 : decode cX5_rangeThen 40 = .ok (.iconst 1, 1) := by decide +kernel
theorem dX5_rangeThen_41 : decode cX5_rangeThen 41 = .ok (.invokevirtual 94, 3) := by decide +kernel
theorem dX5_rangeThen_44 : decode cX5_rangeThen 44 = .ok (.ireturn, 1) := by decide +kernel
theorem dX5_open_0 : decode cX5_open 0 = .ok (.aload_n 0, 1) := by decide +kernel
theorem dX5_open_1 : decode cX5_open 1 = .ok (.iconst 0, 1) := by decide +kernel
theorem dX5_open_2 : decode cX5_open 2 = .ok (.putfield 62, 3) := by decide +kernel
theorem dX5_open_5 : decode cX5_open 5 = .ok (.iconst 0, 1) := by decide +kernel
theorem dX5_open_6 : decode cX5_open 6 = .ok (.istore_n 1, 1) := by decide +kernel
theorem dX5_open_7 : decode cX5_open 7 = .ok (.iconst 0, 1) := by decide +kernel
theorem dX5_open_8 : decode cX5_open 8 = .ok (.istore_n 2, 1) := by decide +kernel
theorem dX5_open_9 : decode cX5_open 9 = .ok (.iload_n 2, 1) := by decide +kernel
theorem dX5_open_10 : decode cX5_open 10 = .ok (.aload_n 0, 1) := by decide +kernel
theorem dX5_open_11 : decode cX5_open 11 = .ok (.getfield 73, 3) := by decide +kernel
theorem dX5_open_14 : decode cX5_open 14 = .ok (.if_icmp .ge 28, 3) := by decide +kernel
theorem dX5_open_17 : decode cX5_open 17 = .ok (.iload_n 1, 1) := by decide +kernel
theorem dX5_open_18 : decode cX5_open 18 = .ok (.aload_n 0, 1) := by decide +kernel
theorem dX5_open_19 : decode cX5_open 19 = .ok (.getfield 22, 3) := by decide +kernel
theorem dX5_open_22 : decode cX5_open 22 = .ok (.iload_n 2, 1) := by decide +kernel
theorem dX5_open_23 : decode cX5_open 23 = .ok (.baload, 1) := by decide +kernel
theorem dX5_open_24 : decode cX5_open 24 = .ok (.ifCond .eq 9, 3) := by decide +kernel
theorem dX5_open_27 : decode cX5_open 27 = .ok (.iconst 1, 1) := by decide +kernel
theorem dX5_open_28 : decode cX5_open 28 = .ok (.iload_n 2, 1) := by decide +kernel
theorem dX5_open_29 : decode cX5_open 29 = .ok (.ishl, 1) := by decide +kernel
theorem dX5_open_30 : decode cX5_open 30 = .ok (.goto 4, 3) := by decide +kernel
theorem dX5_open_33 : decode cX5_open 33 = .ok (.iconst 0, 1) := by decide +kernel
theorem dX5_open_34 : decode cX5_open 34 = .ok (.ior, 1) := by decide +kernel
theorem dX5_open_35 : decode cX5_open 35 = .ok (.istore_n 1, 1) := by decide +kernel
theorem dX5_open_36 : decode cX5_open 36 = .ok (.iinc 2 1, 3) := by decide +kernel
theorem dX5_open_39 : decode cX5_open 39 = .ok (.goto (-30), 3) := by decide +kernel
theorem dX5_open_42 : decode cX5_open 42 = .ok (.iload_n 1, 1) := by decide +kernel
theorem dX5_open_43 : decode cX5_open 43 = .ok (.ireturn, 1) := by decide +kernel
theorem dX5_orphans_0 : decode cX5_orphans 0 = .ok (.aload_n 0, 1) := by decide +kernel
theorem dX5_orphans_1 : decode cX5_orphans 1 = .ok (.iconst 0, 1) := by decide +kernel
theorem dX5_orphans_2 : decode cX5_orphans 2 = .ok (.putfield 62, 3) := by decide +kernel
theorem dX5_orphans_5 : decode cX5_orphans 5 = .ok (.iconst 0, 1) := by decide +kernel
theorem dX5_orphans_6 : decode cX5_orphans 6 = .ok (.istore_n 1, 1) := by decide +kernel
theorem dX5_orphans_7 : decode cX5_orphans 7 = .ok (.iconst 0, 1) := by decide +kernel
theorem dX5_orphans_8 : decode cX5_orphans 8 = .ok (.istore_n 2, 1) := by decide +kernel
theorem dX5_orphans_9 : decode cX5_orphans 9 = .ok (.iload_n 2, 1) := by decide +kernel
theorem dX5_orphans_10 : decode cX5_orphans 10 = .ok (.aload_n 0, 1) := by decide +kernel
theorem dX5_orphans_11 : decode cX5_orphans 11 = .ok (.getfield 73, 3) := by decide +kernel
theorem dX5_orphans_14 : decode cX5_orphans 14 = .ok (.if_icmp .ge 29, 3) := by decide +kernel
theorem dX5_orphans_17 : decode cX5_orphans 17 = .ok (.iload_n 1, 1) := by decide +kernel
theorem dX5_orphans_18 : decode cX5_orphans 18 = .ok (.aload_n 0, 1) := by decide +kernel
theorem dX5_orphans_19 : decode cX5_orphans 19 = .ok (.getfield 13, 3) := by decide +kernel
theorem dX5_orphans_22 : decode cX5_orphans 22 = .ok (.iload_n 2, 1) := by decide +kernel
theorem dX5_orphans_23 : decode cX5_orphans 23 = .ok (.iaload, 1) := by decide +kernel
theorem dX5_orphans_24 : decode cX5_orphans 24 = .ok (.iconst (-1), 1) := by decide +kernel
theorem dX5_orphans_25 : decode cX5_orphans 25 = .ok (.if_icmp .ne 9, 3) := by decide +kernel
theorem dX5_orphans_28 : decode cX5_orphans 28 = .ok (.iconst 1, 1) := by decide +kernel
theorem dX5_orphans_29 : decode cX5_orphans 29 = .ok (.iload_n 2, 1) := by decide +kernel
theorem dX5_orphans_30 : decode cX5_orphans 30 = .ok (.ishl, 1) := by decide +kernel
theorem dX5_orphans_31 : decode cX5_orphans 31 = .ok (.goto 4, 3) := by decide +kernel
theorem dX5_orphans_34 : decode cX5_orphans 34 = .ok (.iconst 0, 1) := by decide +kernel
theorem dX5_orphans_35 : decode cX5_orphans 35 = .ok (.ior, 1) := by decide +kernel
theorem dX5_orphans_36 : decode cX5_orphans 36 = .ok (.istore_n 1, 1) := by decide +kernel
theorem dX5_orphans_37 : decode cX5_orphans 37 = .ok (.iinc 2 1, 3) := by decide +kernel
theorem dX5_orphans_40 : decode cX5_orphans 40 = .ok (.goto (-31), 3) := by decide +kernel
theorem dX5_orphans_43 : decode cX5_orphans 43 = .ok (.iload_n 1, 1) := by decide +kernel
theorem dX5_orphans_44 : decode cX5_orphans 44 = .ok (.ireturn, 1) := by decide +kernel
theorem dX5_coverOf_0 : decode cX5_coverOf 0 = .ok (.iconst 0, 1) := by decide +kernel
theorem dX5_coverOf_1 : decode cX5_coverOf 1 = .ok (.istore_n 2, 1) := by decide +kernel
theorem dX5_coverOf_2 : decode cX5_coverOf 2 = .ok (.iconst 0, 1) := by decide +kernel
theorem dX5_coverOf_3 : decode cX5_coverOf 3 = .ok (.istore_n 3, 1) := by decide +kernel
theorem dX5_coverOf_4 : decode cX5_coverOf 4 = .ok (.iload_n 3, 1) := by decide +kernel
theorem dX5_coverOf_5 : decode cX5_coverOf 5 = .ok (.aload_n 0, 1) := by decide +kernel
theorem dX5_coverOf_6 : decode cX5_coverOf 6 = .ok (.getfield 73, 3) := by decide +kernel
theorem dX5_coverOf_9 : decode cX5_coverOf 9 = .ok (.if_icmp .ge 57, 3) := by decide +kernel
theorem dX5_coverOf_12 : decode cX5_coverOf 12 = .ok (.iload_n 1, 1) := by decide +kernel
theorem dX5_coverOf_13 : decode cX5_coverOf 13 = .ok (.aload_n 0, 1) := by decide +kernel
theorem dX5_coverOf_14 : decode cX5_coverOf 14 = .ok (.getfield 66, 3) := by decide +kernel
theorem dX5_coverOf_17 : decode cX5_coverOf 17 = .ok (.if_icmp .ge 49, 3) := by decide +kernel
theorem dX5_coverOf_20 : decode cX5_coverOf 20 = .ok (.iload_n 2, 1) := by decide +kernel
theorem dX5_coverOf_21 : decode cX5_coverOf 21 = .ok (.aload_n 0, 1) := by decide +kernel
theorem dX5_coverOf_22 : decode cX5_coverOf 22 = .ok (.getfield 13, 3) := by decide +kernel
theorem dX5_coverOf_25 : decode cX5_coverOf 25 = .ok (.iload_n 3, 1) := by decide +kernel
theorem dX5_coverOf_26 : decode cX5_coverOf 26 = .ok (.iaload, 1) := by decide +kernel
theorem dX5_coverOf_27 : decode cX5_coverOf 27 = .ok (.iconst (-1), 1) := by decide +kernel
theorem dX5_coverOf_28 : decode cX5_coverOf 28 = .ok (.if_icmp .eq 29, 3) := by decide +kernel
theorem dX5_coverOf_31 : decode cX5_coverOf 31 = .ok (.aload_n 0, 1) := by decide +kernel
theorem dX5_coverOf_32 : decode cX5_coverOf 32 = .ok (.getfield 13, 3) := by decide +kernel
theorem dX5_coverOf_35 : decode cX5_coverOf 35 = .ok (.iload_n 3, 1) := by decide +kernel
theorem dX5_coverOf_36 : decode cX5_coverOf 36 = .ok (.iaload, 1) := by decide +kernel
theorem dX5_coverOf_37 : decode cX5_coverOf 37 = .ok (.iload_n 1, 1) := by decide +kernel
theorem dX5_coverOf_38 : decode cX5_coverOf 38 = .ok (.if_icmp .gt 19, 3) := by decide +kernel
theorem dX5_coverOf_41 : decode cX5_coverOf 41 = .ok (.iload_n 1, 1) := by decide +kernel
theorem dX5_coverOf_42 : decode cX5_coverOf 42 = .ok (.aload_n 0, 1) := by decide +kernel
theorem dX5_coverOf_43 : decode cX5_coverOf 43 = .ok (.getfield 16, 3) := by decide +kernel
theorem dX5_coverOf_46 : decode cX5_coverOf 46 = .ok (.iload_n 3, 1) := by decide +kernel
theorem dX5_coverOf_47 : decode cX5_coverOf 47 = .ok (.iaload, 1) := by decide +kernel
theorem dX5_coverOf_48 : decode cX5_coverOf 48 = .ok (.if_icmp .ge 9, 3) := by decide +kernel
theorem dX5_coverOf_51 : decode cX5_coverOf 51 = .ok (.iconst 1, 1) := by decide +kernel
theorem dX5_coverOf_52 : decode cX5_coverOf 52 = .ok (.iload_n 3, 1) := by decide +kernel
theorem dX5_coverOf_53 : decode cX5_coverOf 53 = .ok (.ishl, 1) := by decide +kernel
theorem dX5_coverOf_54 : decode cX5_coverOf 54 = .ok (.goto 4, 3) := by decide +kernel
theorem dX5_coverOf_57 : decode cX5_coverOf 57 = .ok (.iconst 0, 1) := by decide +kernel
theorem dX5_coverOf_58 : decode cX5_coverOf 58 = .ok (.ior, 1) := by decide +kernel
theorem dX5_coverOf_59 : decode cX5_coverOf 59 = .ok (.istore_n 2, 1) := by decide +kernel
theorem dX5_coverOf_60 : decode cX5_coverOf 60 = .ok (.iinc 3 1, 3) := by decide +kernel
theorem dX5_coverOf_63 : decode cX5_coverOf 63 = .ok (.goto (-59), 3) := by decide +kernel
theorem dX5_coverOf_66 : decode cX5_coverOf 66 = .ok (.iload_n 2, 1) := by decide +kernel
theorem dX5_coverOf_67 : decode cX5_coverOf 67 = .ok (.ireturn, 1) := by decide +kernel
set_option maxRecDepth 20000 in
theorem ggX5_cover_X5_isPlace : GoodIn wsX5_cover wsX5_isPlace := goodIn_r _ [6, 7, 8, 9, 5, 10, 22, 23, 24, 25, 26, 27, 28, 29, 30, 31, 32, 33, 34, 35, 36, 37, 38, 39, 40, 41, 42] (by decide +kernel) (by decide +kernel)
set_option maxRecDepth 20000 in
theorem gX5_cover_X5_isPlace : GoodIn wsX5_cover (wsV RX5 90 RX5 yX5_isPlace wsX5_isPlace) := goodIn_app (goodIn_of _ (by decide +kernel)) ggX5_cover_X5_isPlace
set_option maxRecDepth 20000 in
theorem ggX5_cover_X5_coverOf : GoodIn wsX5_cover wsX5_coverOf := goodIn_ca (goodIn_r _ [14, 15, 7, 16, 17, 22, 23, 24, 25, 26, 27, 28, 29, 30, 31, 32, 33, 34, 35, 36, 37, 38, 39, 40, 41, 42] (by decide +kernel) (by decide +kernel)) (goodIn_sub (fun _ h => List.mem_cons_of_mem _ (List.mem_append_right _ h)) (by decide +kernel))
set_option maxRecDepth 20000 in
theorem gX5_cover_X5_coverOf : GoodIn wsX5_cover (wsV RX5 114 RX5 yX5_coverOf wsX5_coverOf) := goodIn_app (goodIn_of _ (by decide +kernel)) ggX5_cover_X5_coverOf
set_option maxRecDepth 20000 in
theorem ggX5_cover_X5_fails : GoodIn wsX5_cover wsX5_fails := goodIn_r _ [21, 1, 22, 23, 24, 25, 26, 27, 28, 29, 30, 31, 32, 33, 34, 35, 36, 37, 38, 39, 40, 41, 42] (by decide +kernel) (by decide +kernel)
set_option maxRecDepth 20000 in
theorem gX5_cover_X5_fails : GoodIn wsX5_cover (wsV RX5 94 RX5 yX5_fails wsX5_fails) := goodIn_app (goodIn_of _ (by decide +kernel)) ggX5_cover_X5_fails
theorem dX5_cover_0 : decode cX5_cover 0 = .ok (.aload_n 0, 1) := by decide +kernel
theorem dX5_cover_1 : decode cX5_cover 1 = .ok (.iconst 0, 1) := by decide +kernel
theorem dX5_cover_2 : decode cX5_cover 2 = .ok (.putfield 62, 3) := by decide +kernel
theorem dX5_cover_5 : decode cX5_cover 5 = .ok (.aload_n 0, 1) := by decide +kernel
theorem dX5_cover_6 : decode cX5_cover 6 = .ok (.iload_n 1, 1) := by decide +kernel
theorem dX5_cover_7 : decode cX5_cover 7 = .ok (.invokevirtual 90, 3) := by decide +kernel
theorem dX5_cover_10 : decode cX5_cover 10 = .ok (.ifCond .eq 11, 3) := by decide +kernel
theorem dX5_cover_13 : decode cX5_cover 13 = .ok (.aload_n 0, 1) := by decide +kernel
theorem dX5_cover_14 : decode cX5_cover 14 = .ok (.iload_n 1, 1) := by decide +kernel
theorem dX5_cover_15 : decode cX5_cover 15 = .ok (.invokevirtual 114, 3) := by decide +kernel
theorem dX5_cover_18 : decode cX5_cover 18 = .ok (.goto 8, 3) := by decide +kernel
theorem dX5_cover_21 : decode cX5_cover 21 = .ok (.aload_n 0, 1) := by decide +kernel
theorem dX5_cover_22 : decode cX5_cover 22 = .ok (.iconst 1, 1) := by decide +kernel
theorem dX5_cover_23 : decode cX5_cover 23 = .ok (.invokevirtual 94, 3) := by decide +kernel
theorem dX5_cover_26 : decode cX5_cover 26 = .ok (.ireturn, 1) := by decide +kernel
set_option maxRecDepth 20000 in
theorem ggX5_coverByLetters_X5_isPlace : GoodIn wsX5_coverByLetters wsX5_isPlace := goodIn_r _ [6, 7, 8, 9, 5, 10, 22, 23, 24, 25, 26, 27, 28, 29, 30, 31, 32, 33, 34, 35, 36, 37, 38, 39, 40, 41, 42] (by decide +kernel) (by decide +kernel)
set_option maxRecDepth 20000 in
theorem gX5_coverByLetters_X5_isPlace : GoodIn wsX5_coverByLetters (wsV RX5 90 RX5 yX5_isPlace wsX5_isPlace) := goodIn_app (goodIn_of _ (by decide +kernel)) ggX5_coverByLetters_X5_isPlace
set_option maxRecDepth 20000 in
theorem ggX5_coverByLetters_X5_coverOf : GoodIn wsX5_coverByLetters wsX5_coverOf := goodIn_ca (goodIn_r _ [14, 15, 7, 16, 17, 22, 23, 24, 25, 26, 27, 28, 29, 30, 31, 32, 33, 34, 35, 36, 37, 38, 39, 40, 41, 42] (by decide +kernel) (by decide +kernel)) (goodIn_sub (fun _ h => List.mem_cons_of_mem _ (List.mem_append_right _ h)) (by decide +kernel))
set_option maxRecDepth 20000 in
theorem gX5_coverByLetters_X5_coverOf : GoodIn wsX5_coverByLetters (wsV RX5 114 RX5 yX5_coverOf wsX5_coverOf) := goodIn_app (goodIn_of _ (by decide +kernel)) ggX5_coverByLetters_X5_coverOf
set_option maxRecDepth 20000 in
theorem ggX5_coverByLetters_X5_fails : GoodIn wsX5_coverByLetters wsX5_fails := goodIn_r _ [21, 1, 22, 23, 24, 25, 26, 27, 28, 29, 30, 31, 32, 33, 34, 35, 36, 37, 38, 39, 40, 41, 42] (by decide +kernel) (by decide +kernel)
set_option maxRecDepth 20000 in
theorem gX5_coverByLetters_X5_fails : GoodIn wsX5_coverByLetters (wsV RX5 94 RX5 yX5_fails wsX5_fails) := goodIn_app (goodIn_of _ (by decide +kernel)) ggX5_coverByLetters_X5_fails
theorem dX5_coverByLetters_0 : decode cX5_coverByLetters 0 = .ok (.aload_n 0, 1) := by decide +kernel
theorem dX5_coverByLetters_1 : decode cX5_coverByLetters 1 = .ok (.iconst 0, 1) := by decide +kernel
theorem dX5_coverByLetters_2 : decode cX5_coverByLetters 2 = .ok (.putfield 62, 3) := by decide +kernel
theorem dX5_coverByLetters_5 : decode cX5_coverByLetters 5 = .ok (.aload_n 0, 1) := by decide +kernel
theorem dX5_coverByLetters_6 : decode cX5_coverByLetters 6 = .ok (.iload_n 1, 1) := by decide +kernel
theorem dX5_coverByLetters_7 : decode cX5_coverByLetters 7 = .ok (.invokevirtual 90, 3) := by decide +kernel
theorem dX5_coverByLetters_10 : decode cX5_coverByLetters 10 = .ok (.ifCond .eq 11, 3) := by decide +kernel
theorem dX5_coverByLetters_13 : decode cX5_coverByLetters 13 = .ok (.aload_n 0, 1) := by decide +kernel
theorem dX5_coverByLetters_14 : decode cX5_coverByLetters 14 = .ok (.iload_n 1, 1) := by decide +kernel
theorem dX5_coverByLetters_15 : decode cX5_coverByLetters 15 = .ok (.invokevirtual 114, 3) := by decide +kernel
theorem dX5_coverByLetters_18 : decode cX5_coverByLetters 18 = .ok (.goto 8, 3) := by decide +kernel
theorem dX5_coverByLetters_21 : decode cX5_coverByLetters 21 = .ok (.aload_n 0, 1) := by decide +kernel
theorem dX5_coverByLetters_22 : decode cX5_coverByLetters 22 = .ok (.iconst 1, 1) := by decide +kernel
theorem dX5_coverByLetters_23 : decode cX5_coverByLetters 23 = .ok (.invokevirtual 94, 3) := by decide +kernel
theorem dX5_coverByLetters_26 : decode cX5_coverByLetters 26 = .ok (.ireturn, 1) := by decide +kernel
set_option maxRecDepth 20000 in
theorem ggX5_pieceOf_X5_coverOf : GoodIn wsX5_pieceOf wsX5_coverOf := goodIn_ca (goodIn_r _ [6, 7, 1, 8, 9, 10, 11, 12, 13, 14, 15, 16, 17, 18, 19, 20, 21, 22, 23, 24, 25, 26, 27, 28, 29, 30] (by decide +kernel) (by decide +kernel)) (goodIn_sub (fun _ h => List.mem_cons_of_mem _ (List.mem_append_right _ h)) (by decide +kernel))
set_option maxRecDepth 20000 in
theorem gX5_pieceOf_X5_coverOf : GoodIn wsX5_pieceOf (wsV RX5 114 RX5 yX5_coverOf wsX5_coverOf) := goodIn_app (goodIn_of _ (by decide +kernel)) ggX5_pieceOf_X5_coverOf
theorem dX5_pieceOf_0 : decode cX5_pieceOf 0 = .ok (.iconst 0, 1) := by decide +kernel
theorem dX5_pieceOf_1 : decode cX5_pieceOf 1 = .ok (.istore_n 2, 1) := by decide +kernel
theorem dX5_pieceOf_2 : decode cX5_pieceOf 2 = .ok (.iconst (-1), 1) := by decide +kernel
theorem dX5_pieceOf_3 : decode cX5_pieceOf 3 = .ok (.istore_n 3, 1) := by decide +kernel
theorem dX5_pieceOf_4 : decode cX5_pieceOf 4 = .ok (.iconst 0, 1) := by decide +kernel
theorem dX5_pieceOf_5 : decode cX5_pieceOf 5 = .ok (.istore 4, 2) := by decide +kernel
theorem dX5_pieceOf_7 : decode cX5_pieceOf 7 = .ok (.iload 4, 2) := by decide +kernel
theorem dX5_pieceOf_9 : decode cX5_pieceOf 9 = .ok (.aload_n 0, 1) := by decide +kernel
theorem dX5_pieceOf_10 : decode cX5_pieceOf 10 = .ok (.getfield 66, 3) := by decide +kernel
theorem dX5_pieceOf_13 : decode cX5_pieceOf 13 = .ok (.if_icmp .ge 68, 3) := by decide +kernel
theorem dX5_pieceOf_16 : decode cX5_pieceOf 16 = .ok (.iload 4, 2) := by decide +kernel
theorem dX5_pieceOf_18 : decode cX5_pieceOf 18 = .ok (.ifCond .eq 20, 3) := by decide +kernel
theorem dX5_pieceOf_21 : decode cX5_pieceOf 21 = .ok (.aload_n 0, 1) := by decide +kernel
theorem dX5_pieceOf_22 : decode cX5_pieceOf 22 = .ok (.iload 4, 2) := by decide +kernel
theorem dX5_pieceOf_24 : decode cX5_pieceOf 24 = .ok (.invokevirtual 114, 3) := by decide +kernel
theorem dX5_pieceOf_27 : decode cX5_pieceOf 27 = .ok (.aload_n 0, 1) := by decide +kernel
theorem dX5_pieceOf_28 : decode cX5_pieceOf 28 = .ok (.iload 4, 2) := by decide +kernel
theorem dX5_pieceOf_30 : decode cX5_pieceOf 30 = .ok (.iconst 1, 1) := by decide +kernel
theorem dX5_pieceOf_31 : decode cX5_pieceOf 31 = .ok (.isub, 1) := by decide +kernel
theorem dX5_pieceOf_32 : decode cX5_pieceOf 32 = .ok (.invokevirtual 114, 3) := by decide +kernel
theorem dX5_pieceOf_35 : decode cX5_pieceOf 35 = .ok (.if_icmp .eq 7, 3) := by decide +kernel
theorem dX5_pieceOf_38 : decode cX5_pieceOf 38 = .ok (.iconst 1, 1) := by decide +kernel
theorem dX5_pieceOf_39 : decode cX5_pieceOf 39 = .ok (.goto 4, 3) := by decide +kernel
theorem dX5_pieceOf_42 : decode cX5_pieceOf 42 = .ok (.iconst 0, 1) := by decide +kernel
theorem dX5_pieceOf_43 : decode cX5_pieceOf 43 = .ok (.istore 5, 2) := by decide +kernel
theorem dX5_pieceOf_45 : decode cX5_pieceOf 45 = .ok (.iload 5, 2) := by decide +kernel
theorem dX5_pieceOf_47 : decode cX5_pieceOf 47 = .ok (.ifCond .eq 13, 3) := by decide +kernel
theorem dX5_pieceOf_50 : decode cX5_pieceOf 50 = .ok (.iload_n 2, 1) := by decide +kernel
theorem dX5_pieceOf_51 : decode cX5_pieceOf 51 = .ok (.iload_n 1, 1) := by decide +kernel
theorem dX5_pieceOf_52 : decode cX5_pieceOf 52 = .ok (.if_icmp .ne 8, 3) := by decide +kernel
theorem dX5_pieceOf_55 : decode cX5_pieceOf 55 = .ok (.iload 4, 2) := by decide +kernel
theorem dX5_pieceOf_57 : decode cX5_pieceOf 57 = .ok (.goto 4, 3) := by decide +kernel
theorem dX5_pieceOf_60 : decode cX5_pieceOf 60 = .ok (.iload_n 3, 1) := by decide +kernel
theorem dX5_pieceOf_61 : decode cX5_pieceOf 61 = .ok (.istore_n 3, 1) := by decide +kernel
theorem dX5_pieceOf_62 : decode cX5_pieceOf 62 = .ok (.iload_n 2, 1) := by decide +kernel
theorem dX5_pieceOf_63 : decode cX5_pieceOf 63 = .ok (.iload 5, 2) := by decide +kernel
theorem dX5_pieceOf_65 : decode cX5_pieceOf 65 = .ok (.ifCond .eq 7, 3) := by decide +kernel
theorem dX5_pieceOf_68 : decode cX5_pieceOf 68 = .ok (.iconst 1, 1) := by decide +kernel
theorem dX5_pieceOf_69 : decode cX5_pieceOf 69 = .ok (.goto 4, 3) := by decide +kernel
theorem dX5_pieceOf_72 : decode cX5_pieceOf 72 = .ok (.iconst 0, 1) := by decide +kernel
theorem dX5_pieceOf_73 : decode cX5_pieceOf 73 = .ok (.iadd, 1) := by decide +kernel
theorem dX5_pieceOf_74 : decode cX5_pieceOf 74 = .ok (.istore_n 2, 1) := by decide +kernel
theorem dX5_pieceOf_75 : decode cX5_pieceOf 75 = .ok (.iinc 4 1, 3) := by decide +kernel
theorem dX5_pieceOf_78 : decode cX5_pieceOf 78 = .ok (.goto (-71), 3) := by decide +kernel
theorem dX5_pieceOf_81 : decode cX5_pieceOf 81 = .ok (.iload_n 1, 1) := by decide +kernel
theorem dX5_pieceOf_82 : decode cX5_pieceOf 82 = .ok (.iconst (-1), 1) := by decide +kernel
theorem dX5_pieceOf_83 : decode cX5_pieceOf 83 = .ok (.if_icmp .ne 7, 3) := by decide +kernel
theorem dX5_pieceOf_86 : decode cX5_pieceOf 86 = .ok (.iload_n 2, 1) := by decide +kernel
theorem dX5_pieceOf_87 : decode cX5_pieceOf 87 = .ok (.goto 4, 3) := by decide +kernel
theorem dX5_pieceOf_90 : decode cX5_pieceOf 90 = .ok (.iload_n 3, 1) := by decide +kernel
theorem dX5_pieceOf_91 : decode cX5_pieceOf 91 = .ok (.ireturn, 1) := by decide +kernel
set_option maxRecDepth 20000 in
theorem ggX5_pieces_X5_pieceOf : GoodIn wsX5_pieces wsX5_pieceOf := goodIn_ca (goodIn_r _ [6, 7, 8, 9, 10, 5, 11, 12, 13, 14, 15, 16, 17, 18, 19, 20, 21, 22, 23, 24, 25, 26, 27, 28, 29, 30, 31, 32, 33, 34, 35] (by decide +kernel) (by decide +kernel)) (goodIn_sub (fun _ h => List.mem_cons_of_mem _ (List.mem_append_right _ h)) (by decide +kernel))
set_option maxRecDepth 20000 in
theorem gX5_pieces_X5_pieceOf : GoodIn wsX5_pieces (wsV RX5 117 RX5 yX5_pieceOf wsX5_pieceOf) := goodIn_app (goodIn_of _ (by decide +kernel)) ggX5_pieces_X5_pieceOf
theorem dX5_pieces_0 : decode cX5_pieces 0 = .ok (.aload_n 0, 1) := by decide +kernel
theorem dX5_pieces_1 : decode cX5_pieces 1 = .ok (.iconst 0, 1) := by decide +kernel
theorem dX5_pieces_2 : decode cX5_pieces 2 = .ok (.putfield 62, 3) := by decide +kernel
theorem dX5_pieces_5 : decode cX5_pieces 5 = .ok (.aload_n 0, 1) := by decide +kernel
theorem dX5_pieces_6 : decode cX5_pieces 6 = .ok (.iconst (-1), 1) := by decide +kernel
theorem dX5_pieces_7 : decode cX5_pieces 7 = .ok (.invokevirtual 117, 3) := by decide +kernel
theorem dX5_pieces_10 : decode cX5_pieces 10 = .ok (.ireturn, 1) := by decide +kernel
set_option maxRecDepth 20000 in
theorem ggX5_pieceAt_X5_pieceOf : GoodIn wsX5_pieceAt wsX5_pieceOf := goodIn_ca (goodIn_r _ [6, 7, 8, 9, 10, 5, 11, 12, 13, 14, 22, 23, 24, 25, 26, 27, 28, 29, 30, 31, 32, 33, 34, 35, 36, 37, 38, 39, 40, 41, 42] (by decide +kernel) (by decide +kernel)) (goodIn_sub (fun _ h => List.mem_cons_of_mem _ (List.mem_append_right _ h)) (by decide +kernel))
set_option maxRecDepth 20000 in
theorem gX5_pieceAt_X5_pieceOf : GoodIn wsX5_pieceAt (wsV RX5 117 RX5 yX5_pieceOf wsX5_pieceOf) := goodIn_app (goodIn_of _ (by decide +kernel)) ggX5_pieceAt_X5_pieceOf
set_option maxRecDepth 20000 in
theorem ggX5_pieceAt_X5_in : GoodIn wsX5_pieceAt wsX5_in := goodIn_r _ [17] (by decide +kernel) (by decide +kernel)
set_option maxRecDepth 20000 in
theorem gX5_pieceAt_X5_in : GoodIn wsX5_pieceAt (va_wsS RX5 69 yX5_in wsX5_in) := goodIn_app (goodIn_of _ (by decide +kernel)) ggX5_pieceAt_X5_in
set_option maxRecDepth 20000 in
theorem ggX5_pieceAt_X5_fails : GoodIn wsX5_pieceAt wsX5_fails := goodIn_r _ [21, 1, 22, 23, 24, 25, 26, 27, 28, 29, 30, 31, 32, 33, 34, 35, 36, 37, 38, 39, 40, 41, 42] (by decide +kernel) (by decide +kernel)
set_option maxRecDepth 20000 in
theorem gX5_pieceAt_X5_fails : GoodIn wsX5_pieceAt (wsV RX5 94 RX5 yX5_fails wsX5_fails) := goodIn_app (goodIn_of _ (by decide +kernel)) ggX5_pieceAt_X5_fails
theorem dX5_pieceAt_0 : decode cX5_pieceAt 0 = .ok (.aload_n 0, 1) := by decide +kernel
theorem dX5_pieceAt_1 : decode cX5_pieceAt 1 = .ok (.iconst 0, 1) := by decide +kernel
theorem dX5_pieceAt_2 : decode cX5_pieceAt 2 = .ok (.putfield 62, 3) := by decide +kernel
theorem dX5_pieceAt_5 : decode cX5_pieceAt 5 = .ok (.iload_n 1, 1) := by decide +kernel
theorem dX5_pieceAt_6 : decode cX5_pieceAt 6 = .ok (.iconst 0, 1) := by decide +kernel
theorem dX5_pieceAt_7 : decode cX5_pieceAt 7 = .ok (.aload_n 0, 1) := by decide +kernel
theorem dX5_pieceAt_8 : decode cX5_pieceAt 8 = .ok (.iconst (-1), 1) := by decide +kernel
theorem dX5_pieceAt_9 : decode cX5_pieceAt 9 = .ok (.invokevirtual 117, 3) := by decide +kernel
theorem dX5_pieceAt_12 : decode cX5_pieceAt 12 = .ok (.iconst 1, 1) := by decide +kernel
theorem dX5_pieceAt_13 : decode cX5_pieceAt 13 = .ok (.isub, 1) := by decide +kernel
theorem dX5_pieceAt_14 : decode cX5_pieceAt 14 = .ok (.invokestatic 69, 3) := by decide +kernel
theorem dX5_pieceAt_17 : decode cX5_pieceAt 17 = .ok (.ifCond .eq 11, 3) := by decide +kernel
theorem dX5_pieceAt_20 : decode cX5_pieceAt 20 = .ok (.aload_n 0, 1) := by decide +kernel
theorem dX5_pieceAt_21 : decode cX5_pieceAt 21 = .ok (.iload_n 1, 1) := by decide +kernel
theorem dX5_pieceAt_22 : decode cX5_pieceAt 22 = .ok (.invokevirtual 117, 3) := by decide +kernel
theorem dX5_pieceAt_25 : decode cX5_pieceAt 25 = .ok (.goto 8, 3) := by decide +kernel
theorem dX5_pieceAt_28 : decode cX5_pieceAt 28 = .ok (.aload_n 0, 1) := by decide +kernel
theorem dX5_pieceAt_29 : decode cX5_pieceAt 29 = .ok (.iconst 1, 1) := by decide +kernel
theorem dX5_pieceAt_30 : decode cX5_pieceAt 30 = .ok (.invokevirtual 94, 3) := by decide +kernel
theorem dX5_pieceAt_33 : decode cX5_pieceAt 33 = .ok (.ireturn, 1) := by decide +kernel
set_option maxRecDepth 20000 in
theorem ggX5_suggest_X5_isPlace : GoodIn wsX5_suggest wsX5_isPlace := goodIn_r _ [11, 12, 13, 14, 10, 15, 20, 21, 22, 23, 24, 25, 26, 27, 28, 29, 30, 31, 32, 33, 34, 35, 36, 37, 38, 39, 40] (by decide +kernel) (by decide +kernel)
set_option maxRecDepth 20000 in
theorem gX5_suggest_X5_isPlace : GoodIn wsX5_suggest (wsV RX5 90 RX5 yX5_isPlace wsX5_isPlace) := goodIn_app (goodIn_of _ (by decide +kernel)) ggX5_suggest_X5_isPlace
set_option maxRecDepth 20000 in
theorem ggX5_suggest_X5_fails : GoodIn wsX5_suggest wsX5_fails := goodIn_r _ [19, 1, 20, 21, 22, 23, 24, 25, 26, 27, 28, 29, 30, 31, 32, 33, 34, 35, 36, 37, 38, 39, 40] (by decide +kernel) (by decide +kernel)
set_option maxRecDepth 20000 in
theorem gX5_suggest_X5_fails : GoodIn wsX5_suggest (wsV RX5 94 RX5 yX5_fails wsX5_fails) := goodIn_app (goodIn_of _ (by decide +kernel)) ggX5_suggest_X5_fails
set_option maxRecDepth 20000 in
theorem ggX5_suggest_X5_in : GoodIn wsX5_suggest wsX5_in := goodIn_r _ [15] (by decide +kernel) (by decide +kernel)
set_option maxRecDepth 20000 in
theorem gX5_suggest_X5_in : GoodIn wsX5_suggest (va_wsS RX5 69 yX5_in wsX5_in) := goodIn_app (goodIn_of _ (by decide +kernel)) ggX5_suggest_X5_in
theorem dX5_suggest_0 : decode cX5_suggest 0 = .ok (.aload_n 0, 1) := by decide +kernel
theorem dX5_suggest_1 : decode cX5_suggest 1 = .ok (.iconst 0, 1) := by decide +kernel
theorem dX5_suggest_2 : decode cX5_suggest 2 = .ok (.putfield 62, 3) := by decide +kernel
theorem dX5_suggest_5 : decode cX5_suggest 5 = .ok (.aload_n 0, 1) := by decide +kernel
theorem dX5_suggest_6 : decode cX5_suggest 6 = .ok (.iload_n 1, 1) := by decide +kernel
theorem dX5_suggest_7 : decode cX5_suggest 7 = .ok (.invokevirtual 90, 3) := by decide +kernel
theorem dX5_suggest_10 : decode cX5_suggest 10 = .ok (.ifCond .eq 11, 3) := by decide +kernel
theorem dX5_suggest_13 : decode cX5_suggest 13 = .ok (.aload_n 0, 1) := by decide +kernel
theorem dX5_suggest_14 : decode cX5_suggest 14 = .ok (.iload_n 2, 1) := by decide +kernel
theorem dX5_suggest_15 : decode cX5_suggest 15 = .ok (.invokevirtual 90, 3) := by decide +kernel
theorem dX5_suggest_18 : decode cX5_suggest 18 = .ok (.ifCond .ne 9, 3) := by decide +kernel
theorem dX5_suggest_21 : decode cX5_suggest 21 = .ok (.aload_n 0, 1) := by decide +kernel
theorem dX5_suggest_22 : decode cX5_suggest 22 = .ok (.iconst 1, 1) := by decide +kernel
theorem dX5_suggest_23 : decode cX5_suggest 23 = .ok (.invokevirtual 94, 3) := by decide +kernel
theorem dX5_suggest_26 : decode cX5_suggest 26 = .ok (.ireturn, 1) := by decide +kernel
theorem dX5_suggest_27 : decode cX5_suggest 27 = .ok (.iload_n 2, 1) := by decide +kernel
theorem dX5_suggest_28 : decode cX5_suggest 28 = .ok (.iload_n 1, 1) := by decide +kernel
theorem dX5_suggest_29 : decode cX5_suggest 29 = .ok (.if_icmp .le 23, 3) := by decide +kernel
theorem dX5_suggest_32 : decode cX5_suggest 32 = .ok (.iload_n 3, 1) := by decide +kernel
theorem dX5_suggest_33 : decode cX5_suggest 33 = .ok (.iconst 0, 1) := by decide +kernel
theorem dX5_suggest_34 : decode cX5_suggest 34 = .ok (.bipush 25, 2) := by decide +kernel
theorem dX5_suggest_36 : decode cX5_suggest 36 = .ok (.invokestatic 69, 3) := by decide +kernel
theorem dX5_suggest_39 : decode cX5_suggest 39 = .ok (.ifCond .eq 13, 3) := by decide +kernel
theorem dX5_suggest_42 : decode cX5_suggest 42 = .ok (.iload 4, 2) := by decide +kernel
theorem dX5_suggest_44 : decode cX5_suggest 44 = .ok (.iconst 0, 1) := by decide +kernel
theorem dX5_suggest_45 : decode cX5_suggest 45 = .ok (.iconst 5, 1) := by decide +kernel
theorem dX5_suggest_46 : decode cX5_suggest 46 = .ok (.invokestatic 69, 3) := by decide +kernel
theorem dX5_suggest_49 : decode cX5_suggest 49 = .ok (.ifCond .ne 9, 3) := by decide +kernel
theorem dX5_suggest_52 : decode cX5_suggest 52 = .ok (.aload_n 0, 1) := by decide +kernel
theorem dX5_suggest_53 : decode cX5_suggest 53 = .ok (.iconst 2, 1) := by decide +kernel
theorem dX5_suggest_54 : decode cX5_suggest 54 = .ok (.invokevirtual 94, 3) := by decide +kernel
theorem dX5_suggest_57 : decode cX5_suggest 57 = .ok (.ireturn, 1) := by decide +kernel
theorem dX5_suggest_58 : decode cX5_suggest 58 = .ok (.aload_n 0, 1) := by decide +kernel
theorem dX5_suggest_59 : decode cX5_suggest 59 = .ok (.getfield 76, 3) := by decide +kernel
theorem dX5_suggest_62 : decode cX5_suggest 62 = .ok (.bipush 10, 2) := by decide +kernel
theorem dX5_suggest_64 : decode cX5_suggest 64 = .ok (.if_icmp .ne 9, 3) := by decide +kernel
theorem dX5_suggest_67 : decode cX5_suggest 67 = .ok (.aload_n 0, 1) := by decide +kernel
theorem dX5_suggest_68 : decode cX5_suggest 68 = .ok (.iconst 3, 1) := by decide +kernel
theorem dX5_suggest_69 : decode cX5_suggest 69 = .ok (.invokevirtual 94, 3) := by decide +kernel
theorem dX5_suggest_72 : decode cX5_suggest 72 = .ok (.ireturn, 1) := by decide +kernel
theorem dX5_suggest_73 : decode cX5_suggest 73 = .ok (.aload_n 0, 1) := by decide +kernel
theorem dX5_suggest_74 : decode cX5_suggest 74 = .ok (.getfield 44, 3) := by decide +kernel
theorem dX5_suggest_77 : decode cX5_suggest 77 = .ok (.aload_n 0, 1) := by decide +kernel
theorem dX5_suggest_78 : decode cX5_suggest 78 = .ok (.getfield 76, 3) := by decide +kernel
theorem dX5_suggest_81 : decode cX5_suggest 81 = .ok (.iload_n 1, 1) := by decide +kernel
theorem dX5_suggest_82 : decode cX5_suggest 82 = .ok (.iastore, 1) := by decide +kernel
theorem dX5_suggest_83 : decode cX5_suggest 83 = .ok (.aload_n 0, 1) := by decide +kernel
theorem dX5_suggest_84 : decode cX5_suggest 84 = .ok (.getfield 47, 3) := by decide +kernel
theorem dX5_suggest_87 : decode cX5_suggest 87 = .ok (.aload_n 0, 1) := by decide +kernel
theorem dX5_suggest_88 : decode cX5_suggest 88 = .ok (.getfield 76, 3) := by decide +kernel
theorem dX5_suggest_91 : decode cX5_suggest 91 = .ok (.iload_n 2, 1) := by decide +kernel
theorem dX5_suggest_92 : decode cX5_suggest 92 = .ok (.iastore, 1) := by decide +kernel
theorem dX5_suggest_93 : decode cX5_suggest 93 = .ok (.aload_n 0, 1) := by decide +kernel
theorem dX5_suggest_94 : decode cX5_suggest 94 = .ok (.getfield 50, 3) := by decide +kernel
theorem dX5_suggest_97 : decode cX5_suggest 97 = .ok (.aload_n 0, 1) := by decide +kernel
theorem dX5_suggest_98 : decode cX5_suggest 98 = .ok (.getfield 76, 3) := by decide +kernel
theorem dX5_suggest_101 : decode cX5_suggest 101 = .ok (.iload_n 3, 1) := by decide +kernel
theorem dX5_suggest_102 : decode cX5_suggest 102 = .ok (.iastore, 1) := by decide +kernel
theorem dX5_suggest_103 : decode cX5_suggest 103 = .ok (.aload_n 0, 1) := by decide +kernel
theorem dX5_suggest_104 : decode cX5_suggest 104 = .ok (.getfield 53, 3) := by decide +kernel
theorem dX5_suggest_107 : decode cX5_suggest 107 = .ok (.aload_n 0, 1) := by decide +kernel
theorem dX5_suggest_108 : decode cX5_suggest 108 = .ok (.getfield 76, 3) := by decide +kernel
theorem dX5_suggest_111 : decode cX5_suggest 111 = .ok (.iload 4, 2) := by decide +kernel
theorem dX5_suggest_113 : decode cX5_suggest 113 = .ok (.iastore, 1) := by decide +kernel
theorem dX5_suggest_114 : decode cX5_suggest 114 = .ok (.aload_n 0, 1) := by decide +kernel
theorem dX5_suggest_115 : decode cX5_suggest 115 = .ok (.dup, 1) := by decide +kernel
theorem dX5_suggest_116 : decode cX5_suggest 116 = .ok (.getfield 76, 3) := by decide +kernel
theorem dX5_suggest_119 : decode cX5_suggest 119 = .ok (.iconst 1, 1) := by decide +kernel
theorem dX5_suggest_120 : decode cX5_suggest 120 = .ok (.iadd, 1) := by decide +kernel
theorem dX5_suggest_121 : decode cX5_suggest 121 = .ok (.putfield 76, 3) := by decide +kernel
theorem dX5_suggest_124 : decode cX5_suggest 124 = .ok (.aload_n 0, 1) := by decide +kernel
theorem dX5_suggest_125 : decode cX5_suggest 125 = .ok (.getfield 76, 3) := by decide +kernel
theorem dX5_suggest_128 : decode cX5_suggest 128 = .ok (.iconst 1, 1) := by decide +kernel
theorem dX5_suggest_129 : decode cX5_suggest 129 = .ok (.isub, 1) := by decide +kernel
theorem dX5_suggest_130 : decode cX5_suggest 130 = .ok (.ireturn, 1) := by decide +kernel
theorem dX5_overlapsOf_0 : decode cX5_overlapsOf 0 = .ok (.iconst 0, 1) := by decide +kernel
theorem dX5_overlapsOf_1 : decode cX5_overlapsOf 1 = .ok (.istore_n 2, 1) := by decide +kernel
theorem dX5_overlapsOf_2 : decode cX5_overlapsOf 2 = .ok (.iconst 0, 1) := by decide +kernel
theorem dX5_overlapsOf_3 : decode cX5_overlapsOf 3 = .ok (.istore_n 3, 1) := by decide +kernel
theorem dX5_overlapsOf_4 : decode cX5_overlapsOf 4 = .ok (.iload_n 3, 1) := by decide +kernel
theorem dX5_overlapsOf_5 : decode cX5_overlapsOf 5 = .ok (.aload_n 0, 1) := by decide +kernel
theorem dX5_overlapsOf_6 : decode cX5_overlapsOf 6 = .ok (.getfield 76, 3) := by decide +kernel
theorem dX5_overlapsOf_9 : decode cX5_overlapsOf 9 = .ok (.if_icmp .ge 84, 3) := by decide +kernel
theorem dX5_overlapsOf_12 : decode cX5_overlapsOf 12 = .ok (.aload_n 0, 1) := by decide +kernel
theorem dX5_overlapsOf_13 : decode cX5_overlapsOf 13 = .ok (.getfield 56, 3) := by decide +kernel
theorem dX5_overlapsOf_16 : decode cX5_overlapsOf 16 = .ok (.iload_n 1, 1) := by decide +kernel
theorem dX5_overlapsOf_17 : decode cX5_overlapsOf 17 = .ok (.iaload, 1) := by decide +kernel
theorem dX5_overlapsOf_18 : decode cX5_overlapsOf 18 = .ok (.ifCond .ne 75, 3) := by decide +kernel
theorem dX5_overlapsOf_21 : decode cX5_overlapsOf 21 = .ok (.aload_n 0, 1) := by decide +kernel
theorem dX5_overlapsOf_22 : decode cX5_overlapsOf 22 = .ok (.getfield 44, 3) := by decide +kernel
theorem dX5_overlapsOf_25 : decode cX5_overlapsOf 25 = .ok (.iload_n 3, 1) := by decide +kernel
theorem dX5_overlapsOf_26 : decode cX5_overlapsOf 26 = .ok (.iaload, 1) := by decide +kernel
theorem dX5_overlapsOf_27 : decode cX5_overlapsOf 27 = .ok (.aload_n 0, 1) := by decide +kernel
theorem dX5_overlapsOf_28 : decode cX5_overlapsOf 28 = .ok (.getfield 47, 3) := by decide +kernel
theorem dX5_overlapsOf_31 : decode cX5_overlapsOf 31 = .ok (.iload_n 1, 1) := by decide +kernel
theorem dX5_overlapsOf_32 : decode cX5_overlapsOf 32 = .ok (.iaload, 1) := by decide +kernel
theorem dX5_overlapsOf_33 : decode cX5_overlapsOf 33 = .ok (.if_icmp .ge 22, 3) := by decide +kernel
theorem dX5_overlapsOf_36 : decode cX5_overlapsOf 36 = .ok (.aload_n 0, 1) := by decide +kernel
theorem dX5_overlapsOf_37 : decode cX5_overlapsOf 37 = .ok (.getfield 44, 3) := by decide +kernel
theorem dX5_overlapsOf_40 : decode cX5_overlapsOf 40 = .ok (.iload_n 1, 1) := by decide +kernel
theorem dX5_overlapsOf_41 : decode cX5_overlapsOf 41 = .ok (.iaload, 1) := by decide +kernel
theorem dX5_overlapsOf_42 : decode cX5_overlapsOf 42 = .ok (.aload_n 0, 1) := by decide +kernel
theorem dX5_overlapsOf_43 : decode cX5_overlapsOf 43 = .ok (.getfield 47, 3) := by decide +kernel
theorem dX5_overlapsOf_46 : decode cX5_overlapsOf 46 = .ok (.iload_n 3, 1) := by decide +kernel
theorem dX5_overlapsOf_47 : decode cX5_overlapsOf 47 = .ok (.iaload, 1) := by decide +kernel
theorem dX5_overlapsOf_48 : decode cX5_overlapsOf 48 = .ok (.if_icmp .ge 7, 3) := by decide +kernel
theorem dX5_overlapsOf_51 : decode cX5_overlapsOf 51 = .ok (.iconst 1, 1) := by decide +kernel
theorem dX5_overlapsOf_52 : decode cX5_overlapsOf 52 = .ok (.goto 4, 3) := by decide +kernel
theorem dX5_overlapsOf_55 : decode cX5_overlapsOf 55 = .ok (.iconst 0, 1) := by decide +kernel
theorem dX5_overlapsOf_56 : decode cX5_overlapsOf 56 = .ok (.istore 4, 2) := by decide +kernel
theorem dX5_overlapsOf_58 : decode cX5_overlapsOf 58 = .ok (.iload_n 2, 1) := by decide +kernel
theorem dX5_overlapsOf_59 : decode cX5_overlapsOf 59 = .ok (.iload_n 3, 1) := by decide +kernel
theorem dX5_overlapsOf_60 : decode cX5_overlapsOf 60 = .ok (.iload_n 1, 1) := by decide +kernel
theorem dX5_overlapsOf_61 : decode cX5_overlapsOf 61 = .ok (.if_icmp .eq 23, 3) := by decide +kernel
theorem dX5_overlapsOf_64 : decode cX5_overlapsOf 64 = .ok (.aload_n 0, 1) := by decide +kernel
theorem dX5_overlapsOf_65 : decode cX5_overlapsOf 65 = .ok (.getfield 56, 3) := by decide +kernel
theorem dX5_overlapsOf_68 : decode cX5_overlapsOf 68 = .ok (.iload_n 3, 1) := by decide +kernel
theorem dX5_overlapsOf_69 : decode cX5_overlapsOf 69 = .ok (.iaload, 1) := by decide +kernel
theorem dX5_overlapsOf_70 : decode cX5_overlapsOf 70 = .ok (.ifCond .ne 14, 3) := by decide +kernel
theorem dX5_overlapsOf_73 : decode cX5_overlapsOf 73 = .ok (.iload 4, 2) := by decide +kernel
theorem dX5_overlapsOf_75 : decode cX5_overlapsOf 75 = .ok (.ifCond .eq 9, 3) := by decide +kernel
theorem dX5_overlapsOf_78 : decode cX5_overlapsOf 78 = .ok (.iconst 1, 1) := by decide +kernel
theorem dX5_overlapsOf_79 : decode cX5_overlapsOf 79 = .ok (.iload_n 3, 1) := by decide +kernel
theorem dX5_overlapsOf_80 : decode cX5_overlapsOf 80 = .ok (.ishl, 1) := by decide +kernel
theorem dX5_overlapsOf_81 : decode cX5_overlapsOf 81 = .ok (.goto 4, 3) := by decide +kernel
theorem dX5_overlapsOf_84 : decode cX5_overlapsOf 84 = .ok (.iconst 0, 1) := by decide +kernel
theorem dX5_overlapsOf_85 : decode cX5_overlapsOf 85 = .ok (.ior, 1) := by decide +kernel
theorem dX5_overlapsOf_86 : decode cX5_overlapsOf 86 = .ok (.istore_n 2, 1) := by decide +kernel
theorem dX5_overlapsOf_87 : decode cX5_overlapsOf 87 = .ok (.iinc 3 1, 3) := by decide +kernel
theorem dX5_overlapsOf_90 : decode cX5_overlapsOf 90 = .ok (.goto (-86), 3) := by decide +kernel
theorem dX5_overlapsOf_93 : decode cX5_overlapsOf 93 = .ok (.iload_n 2, 1) := by decide +kernel
theorem dX5_overlapsOf_94 : decode cX5_overlapsOf 94 = .ok (.ireturn, 1) := by decide +kernel
set_option maxRecDepth 20000 in
theorem ggX5_accept_X5_isSuggestion : GoodIn wsX5_accept wsX5_isSuggestion := goodIn_r _ [13, 14, 15, 16, 12, 17, 51, 52, 53, 54, 55, 56, 57, 58, 59, 60, 61, 62, 63, 64, 65, 66, 67, 68, 69, 70, 71] (by decide +kernel) (by decide +kernel)
set_option maxRecDepth 20000 in
theorem gX5_accept_X5_isSuggestion : GoodIn wsX5_accept (wsV RX5 120 RX5 yX5_isSuggestion wsX5_isSuggestion) := goodIn_app (goodIn_of _ (by decide +kernel)) ggX5_accept_X5_isSuggestion
set_option maxRecDepth 20000 in
theorem ggX5_accept_X5_fails : GoodIn wsX5_accept wsX5_fails := goodIn_r _ [21, 1, 51, 52, 53, 54, 55, 56, 57, 58, 59, 60, 61, 62, 63, 64, 65, 66, 67, 68, 69, 70, 71] (by decide +kernel) (by decide +kernel)
set_option maxRecDepth 20000 in
theorem gX5_accept_X5_fails : GoodIn wsX5_accept (wsV RX5 94 RX5 yX5_fails wsX5_fails) := goodIn_app (goodIn_of _ (by decide +kernel)) ggX5_accept_X5_fails
set_option maxRecDepth 20000 in
theorem ggX5_accept_X5_overlapsOf : GoodIn wsX5_accept wsX5_overlapsOf := goodIn_ca (goodIn_r _ [25, 14, 4, 2, 3, 51, 52, 53, 54, 55, 56, 57, 58, 59, 60, 61, 62, 63, 64, 65, 66, 67, 68, 69, 70, 71] (by decide +kernel) (by decide +kernel)) (goodIn_sub (fun _ h => List.mem_cons_of_mem _ (List.mem_append_right _ h)) (by decide +kernel))
set_option maxRecDepth 20000 in
theorem gX5_accept_X5_overlapsOf : GoodIn wsX5_accept (wsV RX5 123 RX5 yX5_overlapsOf wsX5_overlapsOf) := goodIn_app (goodIn_of _ (by decide +kernel)) ggX5_accept_X5_overlapsOf
set_option maxRecDepth 20000 in
theorem ggX5_accept_X5_removes : GoodIn wsX5_accept wsX5_removes := goodIn_ca (goodIn_r _ [29, 5, 30, 31, 32, 33, 14, 2, 3, 4, 7, 34, 35, 12, 36, 51, 52, 53, 54, 55, 56, 57, 58, 59, 60, 61, 62, 63, 64, 65, 66, 67, 68, 69, 70, 71] (by decide +kernel) (by decide +kernel)) (goodIn_sub (fun _ h => List.mem_cons_of_mem _ (List.mem_append_right _ h)) (by decide +kernel))
set_option maxRecDepth 20000 in
theorem gX5_accept_X5_removes : GoodIn wsX5_accept (wsV RX5 101 RX5 yX5_removes wsX5_removes) := goodIn_app (goodIn_of _ (by decide +kernel)) ggX5_accept_X5_removes
set_option maxRecDepth 20000 in
theorem ggX5_accept_X5_keeps : GoodIn wsX5_accept wsX5_keeps := goodIn_ca (goodIn_r _ [40, 41, 7, 42, 43, 44, 12, 45, 31, 32, 33, 51, 52, 53, 54, 55, 56, 57, 58, 59, 60, 61, 62, 63, 64, 65, 66, 67, 68, 69, 70, 71] (by decide +kernel) (by decide +kernel)) (goodIn_sub (fun _ h => List.mem_cons_of_mem _ (List.mem_append_right _ h)) (by decide +kernel))
set_option maxRecDepth 20000 in
theorem gX5_accept_X5_keeps : GoodIn wsX5_accept (wsV RX5 59 RX5 yX5_keeps wsX5_keeps) := goodIn_app (goodIn_of _ (by decide +kernel)) ggX5_accept_X5_keeps
set_option maxRecDepth 20000 in
theorem ggX5_accept_X5_inserts : GoodIn wsX5_accept wsX5_inserts := goodIn_ca (goodIn_r _ [49, 5, 30, 31, 32, 50, 33, 14, 2, 3, 7, 51, 52, 53, 54, 55, 56, 57, 58, 59, 60, 61, 62, 63, 64, 65, 66, 67, 68, 69, 70, 71] (by decide +kernel) (by decide +kernel)) (goodIn_sub (fun _ h => List.mem_cons_of_mem _ (List.mem_append_right _ h)) (by decide +kernel))
set_option maxRecDepth 20000 in
theorem gX5_accept_X5_inserts : GoodIn wsX5_accept (wsV RX5 97 RX5 yX5_inserts wsX5_inserts) := goodIn_app (goodIn_of _ (by decide +kernel)) ggX5_accept_X5_inserts
theorem dX5_accept_0 : decode cX5_accept 0 = .ok (.aload_n 0, 1) := by decide +kernel
theorem dX5_accept_1 : decode cX5_accept 1 = .ok (.iconst 0, 1) := by decide +kernel
theorem dX5_accept_2 : decode cX5_accept 2 = .ok (.putfield 62, 3) := by decide +kernel
theorem dX5_accept_5 : decode cX5_accept 5 = .ok (.aload_n 0, 1) := by decide +kernel
theorem dX5_accept_6 : decode cX5_accept 6 = .ok (.iload_n 1, 1) := by decide +kernel
theorem dX5_accept_7 : decode cX5_accept 7 = .ok (.invokevirtual 120, 3) := by decide +kernel
theorem dX5_accept_10 : decode cX5_accept 10 = .ok (.ifCond .ne 9, 3) := by decide +kernel
theorem dX5_accept_13 : decode cX5_accept 13 = .ok (.aload_n 0, 1) := by decide +kernel
theorem dX5_accept_14 : decode cX5_accept 14 = .ok (.iconst 1, 1) := by decide +kernel
theorem dX5_accept_15 : decode cX5_accept 15 = .ok (.invokevirtual 94, 3) := by decide +kernel
theorem dX5_accept_18 : decode cX5_accept 18 = .ok (.ireturn, 1) := by decide +kernel
theorem dX5_accept_19 : decode cX5_accept 19 = .ok (.aload_n 0, 1) := by decide +kernel
theorem dX5_accept_20 : decode cX5_accept 20 = .ok (.getfield 44, 3) := by decide +kernel
theorem dX5_accept_23 : decode cX5_accept 23 = .ok (.iload_n 1, 1) := by decide +kernel
theorem dX5_accept_24 : decode cX5_accept 24 = .ok (.iaload, 1) := by decide +kernel
theorem dX5_accept_25 : decode cX5_accept 25 = .ok (.istore_n 2, 1) := by decide +kernel
theorem dX5_accept_26 : decode cX5_accept 26 = .ok (.aload_n 0, 1) := by decide +kernel
theorem dX5_accept_27 : decode cX5_accept 27 = .ok (.getfield 47, 3) := by decide +kernel
theorem dX5_accept_30 : decode cX5_accept 30 = .ok (.iload_n 1, 1) := by decide +kernel
theorem dX5_accept_31 : decode cX5_accept 31 = .ok (.iaload, 1) := by decide +kernel
theorem dX5_accept_32 : decode cX5_accept 32 = .ok (.iload_n 2, 1) := by decide +kernel
theorem dX5_accept_33 : decode cX5_accept 33 = .ok (.isub, 1) := by decide +kernel
theorem dX5_accept_34 : decode cX5_accept 34 = .ok (.istore_n 3, 1) := by decide +kernel
theorem dX5_accept_35 : decode cX5_accept 35 = .ok (.aload_n 0, 1) := by decide +kernel
theorem dX5_accept_36 : decode cX5_accept 36 = .ok (.getfield 56, 3) := by decide +kernel
theorem dX5_accept_39 : decode cX5_accept 39 = .ok (.iload_n 1, 1) := by decide +kernel
theorem dX5_accept_40 : decode cX5_accept 40 = .ok (.iaload, 1) := by decide +kernel
theorem dX5_accept_41 : decode cX5_accept 41 = .ok (.ifCond .ne 54, 3) := by decide +kernel
theorem dX5_accept_44 : decode cX5_accept 44 = .ok (.aload_n 0, 1) := by decide +kernel
theorem dX5_accept_45 : decode cX5_accept 45 = .ok (.iload_n 1, 1) := by decide +kernel
theorem dX5_accept_46 : decode cX5_accept 46 = .ok (.invokevirtual 123, 3) := by decide +kernel
theorem dX5_accept_49 : decode cX5_accept 49 = .ok (.ifCond .ne 46, 3) := by decide +kernel
theorem dX5_accept_52 : decode cX5_accept 52 = .ok (.aload_n 0, 1) := by decide +kernel
theorem dX5_accept_53 : decode cX5_accept 53 = .ok (.getfield 66, 3) := by decide +kernel
theorem dX5_accept_56 : decode cX5_accept 56 = .ok (.iload_n 3, 1) := by decide +kernel
theorem dX5_accept_57 : decode cX5_accept 57 = .ok (.isub, 1) := by decide +kernel
theorem dX5_accept_58 : decode cX5_accept 58 = .ok (.aload_n 0, 1) := by decide +kernel
theorem dX5_accept_59 : decode cX5_accept 59 = .ok (.getfield 53, 3) := by decide +kernel
theorem dX5_accept_62 : decode cX5_accept 62 = .ok (.iload_n 1, 1) := by decide +kernel
theorem dX5_accept_63 : decode cX5_accept 63 = .ok (.iaload, 1) := by decide +kernel
theorem dX5_accept_64 : decode cX5_accept 64 = .ok (.iadd, 1) := by decide +kernel
theorem dX5_accept_65 : decode cX5_accept 65 = .ok (.bipush 60, 2) := by decide +kernel
theorem dX5_accept_67 : decode cX5_accept 67 = .ok (.if_icmp .gt 28, 3) := by decide +kernel
theorem dX5_accept_70 : decode cX5_accept 70 = .ok (.aload_n 0, 1) := by decide +kernel
theorem dX5_accept_71 : decode cX5_accept 71 = .ok (.getfield 79, 3) := by decide +kernel
theorem dX5_accept_74 : decode cX5_accept 74 = .ok (.aload_n 0, 1) := by decide +kernel
theorem dX5_accept_75 : decode cX5_accept 75 = .ok (.getfield 53, 3) := by decide +kernel
theorem dX5_accept_78 : decode cX5_accept 78 = .ok (.iload_n 1, 1) := by decide +kernel
theorem dX5_accept_79 : decode cX5_accept 79 = .ok (.iaload, 1) := by decide +kernel
theorem dX5_accept_80 : decode cX5_accept 80 = .ok (.ifCond .le 7, 3) := by decide +kernel
theorem dX5_accept_83 : decode cX5_accept 83 = .ok (.iconst 2, 1) := by decide +kernel
theorem dX5_accept_84 : decode cX5_accept 84 = .ok (.goto 4, 3) := by decide +kernel
theorem dX5_accept_87 : decode cX5_accept 87 = .ok (.iconst 1, 1) := by decide +kernel
theorem dX5_accept_88 : decode cX5_accept 88 = .ok (.iadd, 1) := by decide +kernel
theorem dX5_accept_89 : decode cX5_accept 89 = .ok (.sipush 300, 3) := by decide +kernel
theorem dX5_accept_92 : decode cX5_accept 92 = .ok (.if_icmp .le 9, 3) := by decide +kernel
theorem dX5_accept_95 : decode cX5_accept 95 = .ok (.aload_n 0, 1) := by decide +kernel
theorem dX5_accept_96 : decode cX5_accept 96 = .ok (.iconst 2, 1) := by decide +kernel
theorem dX5_accept_97 : decode cX5_accept 97 = .ok (.invokevirtual 94, 3) := by decide +kernel
theorem dX5_accept_100 : decode cX5_accept 100 = .ok (.ireturn, 1) := by decide +kernel
theorem dX5_accept_101 : decode cX5_accept 101 = .ok (.aload_n 0, 1) := by decide +kernel
theorem dX5_accept_102 : decode cX5_accept 102 = .ok (.iload_n 2, 1) := by decide +kernel
theorem dX5_accept_103 : decode cX5_accept 103 = .ok (.iload_n 3, 1) := by decide +kernel
theorem dX5_accept_104 : decode cX5_accept 104 = .ok (.iload_n 1, 1) := by decide +kernel
theorem dX5_accept_105 : decode cX5_accept 105 = .ok (.invokevirtual 101, 3) := by decide +kernel
theorem dX5_accept_108 : decode cX5_accept 108 = .ok (.istore 4, 2) := by decide +kernel
theorem dX5_accept_110 : decode cX5_accept 110 = .ok (.aload_n 0, 1) := by decide +kernel
theorem dX5_accept_111 : decode cX5_accept 111 = .ok (.invokevirtual 59, 3) := by decide +kernel
theorem dX5_accept_114 : decode cX5_accept 114 = .ok (.aload_n 0, 1) := by decide +kernel
theorem dX5_accept_115 : decode cX5_accept 115 = .ok (.getfield 56, 3) := by decide +kernel
theorem dX5_accept_118 : decode cX5_accept 118 = .ok (.iload_n 1, 1) := by decide +kernel
theorem dX5_accept_119 : decode cX5_accept 119 = .ok (.iconst 1, 1) := by decide +kernel
theorem dX5_accept_120 : decode cX5_accept 120 = .ok (.iastore, 1) := by decide +kernel
theorem dX5_accept_121 : decode cX5_accept 121 = .ok (.aload_n 0, 1) := by decide +kernel
theorem dX5_accept_122 : decode cX5_accept 122 = .ok (.getfield 53, 3) := by decide +kernel
theorem dX5_accept_125 : decode cX5_accept 125 = .ok (.iload_n 1, 1) := by decide +kernel
theorem dX5_accept_126 : decode cX5_accept 126 = .ok (.iaload, 1) := by decide +kernel
theorem dX5_accept_127 : decode cX5_accept 127 = .ok (.ifCond .le 24, 3) := by decide +kernel
theorem dX5_accept_130 : decode cX5_accept 130 = .ok (.aload_n 0, 1) := by decide +kernel
theorem dX5_accept_131 : decode cX5_accept 131 = .ok (.iload_n 2, 1) := by decide +kernel
theorem dX5_accept_132 : decode cX5_accept 132 = .ok (.aload_n 0, 1) := by decide +kernel
theorem dX5_accept_133 : decode cX5_accept 133 = .ok (.getfield 50, 3) := by decide +kernel
theorem dX5_accept_136 : decode cX5_accept 136 = .ok (.iload_n 1, 1) := by decide +kernel
theorem dX5_accept_137 : decode cX5_accept 137 = .ok (.iaload, 1) := by decide +kernel
theorem dX5_accept_138 : decode cX5_accept 138 = .ok (.aload_n 0, 1) := by decide +kernel
theorem dX5_accept_139 : decode cX5_accept 139 = .ok (.getfield 53, 3) := by decide +kernel
theorem dX5_accept_142 : decode cX5_accept 142 = .ok (.iload_n 1, 1) := by decide +kernel
theorem dX5_accept_143 : decode cX5_accept 143 = .ok (.iaload, 1) := by decide +kernel
theorem dX5_accept_144 : decode cX5_accept 144 = .ok (.invokevirtual 97, 3) := by decide +kernel
theorem dX5_accept_147 : decode cX5_accept 147 = .ok (.aload_n 0, 1) := by decide +kernel
theorem dX5_accept_148 : decode cX5_accept 148 = .ok (.invokevirtual 59, 3) := by decide +kernel
theorem dX5_accept_151 : decode cX5_accept 151 = .ok (.aload_n 0, 1) := by decide +kernel
theorem dX5_accept_152 : decode cX5_accept 152 = .ok (.getfield 66, 3) := by decide +kernel
theorem dX5_accept_155 : decode cX5_accept 155 = .ok (.ireturn, 1) := by decide +kernel
set_option maxRecDepth 20000 in
theorem ggX5_reject_X5_isSuggestion : GoodIn wsX5_reject wsX5_isSuggestion := goodIn_r _ [8, 3, 9, 10, 7, 11, 16, 17, 18, 19, 20, 21, 22, 23, 24, 25, 26, 27, 28, 29, 30, 31, 32, 33, 34, 35, 36] (by decide +kernel) (by decide +kernel)
set_option maxRecDepth 20000 in
theorem gX5_reject_X5_isSuggestion : GoodIn wsX5_reject (wsV RX5 120 RX5 yX5_isSuggestion wsX5_isSuggestion) := goodIn_app (goodIn_of _ (by decide +kernel)) ggX5_reject_X5_isSuggestion
set_option maxRecDepth 20000 in
theorem ggX5_reject_X5_fails : GoodIn wsX5_reject wsX5_fails := goodIn_r _ [15, 1, 16, 17, 18, 19, 20, 21, 22, 23, 24, 25, 26, 27, 28, 29, 30, 31, 32, 33, 34, 35, 36] (by decide +kernel) (by decide +kernel)
set_option maxRecDepth 20000 in
theorem gX5_reject_X5_fails : GoodIn wsX5_reject (wsV RX5 94 RX5 yX5_fails wsX5_fails) := goodIn_app (goodIn_of _ (by decide +kernel)) ggX5_reject_X5_fails
theorem dX5_reject_0 : decode cX5_reject 0 = .ok (.aload_n 0, 1) := by decide +kernel
theorem dX5_reject_1 : decode cX5_reject 1 = .ok (.iconst 0, 1) := by decide +kernel
theorem dX5_reject_2 : decode cX5_reject 2 = .ok (.putfield 62, 3) := by decide +kernel
theorem dX5_reject_5 : decode cX5_reject 5 = .ok (.aload_n 0, 1) := by decide +kernel
theorem dX5_reject_6 : decode cX5_reject 6 = .ok (.iload_n 1, 1) := by decide +kernel
theorem dX5_reject_7 : decode cX5_reject 7 = .ok (.invokevirtual 120, 3) := by decide +kernel
theorem dX5_reject_10 : decode cX5_reject 10 = .ok (.ifCond .ne 9, 3) := by decide +kernel
theorem dX5_reject_13 : decode cX5_reject 13 = .ok (.aload_n 0, 1) := by decide +kernel
theorem dX5_reject_14 : decode cX5_reject 14 = .ok (.iconst 1, 1) := by decide +kernel
theorem dX5_reject_15 : decode cX5_reject 15 = .ok (.invokevirtual 94, 3) := by decide +kernel
theorem dX5_reject_18 : decode cX5_reject 18 = .ok (.ireturn, 1) := by decide +kernel
theorem dX5_reject_19 : decode cX5_reject 19 = .ok (.aload_n 0, 1) := by decide +kernel
theorem dX5_reject_20 : decode cX5_reject 20 = .ok (.getfield 56, 3) := by decide +kernel
theorem dX5_reject_23 : decode cX5_reject 23 = .ok (.iload_n 1, 1) := by decide +kernel
theorem dX5_reject_24 : decode cX5_reject 24 = .ok (.iaload, 1) := by decide +kernel
theorem dX5_reject_25 : decode cX5_reject 25 = .ok (.ifCond .eq 9, 3) := by decide +kernel
theorem dX5_reject_28 : decode cX5_reject 28 = .ok (.aload_n 0, 1) := by decide +kernel
theorem dX5_reject_29 : decode cX5_reject 29 = .ok (.iconst 2, 1) := by decide +kernel
theorem dX5_reject_30 : decode cX5_reject 30 = .ok (.invokevirtual 94, 3) := by decide +kernel
theorem dX5_reject_33 : decode cX5_reject 33 = .ok (.ireturn, 1) := by decide +kernel
theorem dX5_reject_34 : decode cX5_reject 34 = .ok (.aload_n 0, 1) := by decide +kernel
theorem dX5_reject_35 : decode cX5_reject 35 = .ok (.getfield 56, 3) := by decide +kernel
theorem dX5_reject_38 : decode cX5_reject 38 = .ok (.iload_n 1, 1) := by decide +kernel
theorem dX5_reject_39 : decode cX5_reject 39 = .ok (.iconst 2, 1) := by decide +kernel
theorem dX5_reject_40 : decode cX5_reject 40 = .ok (.iastore, 1) := by decide +kernel
theorem dX5_reject_41 : decode cX5_reject 41 = .ok (.iconst 0, 1) := by decide +kernel
theorem dX5_reject_42 : decode cX5_reject 42 = .ok (.istore_n 2, 1) := by decide +kernel
theorem dX5_reject_43 : decode cX5_reject 43 = .ok (.iconst 0, 1) := by decide +kernel
theorem dX5_reject_44 : decode cX5_reject 44 = .ok (.istore_n 3, 1) := by decide +kernel
theorem dX5_reject_45 : decode cX5_reject 45 = .ok (.iload_n 3, 1) := by decide +kernel
theorem dX5_reject_46 : decode cX5_reject 46 = .ok (.aload_n 0, 1) := by decide +kernel
theorem dX5_reject_47 : decode cX5_reject 47 = .ok (.getfield 76, 3) := by decide +kernel
theorem dX5_reject_50 : decode cX5_reject 50 = .ok (.if_icmp .ge 26, 3) := by decide +kernel
theorem dX5_reject_53 : decode cX5_reject 53 = .ok (.iload_n 2, 1) := by decide +kernel
theorem dX5_reject_54 : decode cX5_reject 54 = .ok (.aload_n 0, 1) := by decide +kernel
theorem dX5_reject_55 : decode cX5_reject 55 = .ok (.getfield 56, 3) := by decide +kernel
theorem dX5_reject_58 : decode cX5_reject 58 = .ok (.iload_n 3, 1) := by decide +kernel
theorem dX5_reject_59 : decode cX5_reject 59 = .ok (.iaload, 1) := by decide +kernel
theorem dX5_reject_60 : decode cX5_reject 60 = .ok (.ifCond .ne 7, 3) := by decide +kernel
theorem dX5_reject_63 : decode cX5_reject 63 = .ok (.iconst 1, 1) := by decide +kernel
theorem dX5_reject_64 : decode cX5_reject 64 = .ok (.goto 4, 3) := by decide +kernel
theorem dX5_reject_67 : decode cX5_reject 67 = .ok (.iconst 0, 1) := by decide +kernel
theorem dX5_reject_68 : decode cX5_reject 68 = .ok (.iadd, 1) := by decide +kernel
theorem dX5_reject_69 : decode cX5_reject 69 = .ok (.istore_n 2, 1) := by decide +kernel
theorem dX5_reject_70 : decode cX5_reject 70 = .ok (.iinc 3 1, 3) := by decide +kernel
theorem dX5_reject_73 : decode cX5_reject 73 = .ok (.goto (-28), 3) := by decide +kernel
theorem dX5_reject_76 : decode cX5_reject 76 = .ok (.iload_n 2, 1) := by decide +kernel
theorem dX5_reject_77 : decode cX5_reject 77 = .ok (.ireturn, 1) := by decide +kernel
set_option maxRecDepth 20000 in
theorem ggX5_stateOf_X5_isSuggestion : GoodIn wsX5_stateOf wsX5_isSuggestion := goodIn_r _ [7, 8, 9, 10, 6, 11, 16, 17, 18, 19, 20, 21, 22, 23, 24, 25, 26, 27, 28, 29, 30, 31, 32, 33, 34, 35, 36] (by decide +kernel) (by decide +kernel)
set_option maxRecDepth 20000 in
theorem gX5_stateOf_X5_isSuggestion : GoodIn wsX5_stateOf (wsV RX5 120 RX5 yX5_isSuggestion wsX5_isSuggestion) := goodIn_app (goodIn_of _ (by decide +kernel)) ggX5_stateOf_X5_isSuggestion
set_option maxRecDepth 20000 in
theorem ggX5_stateOf_X5_fails : GoodIn wsX5_stateOf wsX5_fails := goodIn_r _ [15, 1, 16, 17, 18, 19, 20, 21, 22, 23, 24, 25, 26, 27, 28, 29, 30, 31, 32, 33, 34, 35, 36] (by decide +kernel) (by decide +kernel)
set_option maxRecDepth 20000 in
theorem gX5_stateOf_X5_fails : GoodIn wsX5_stateOf (wsV RX5 94 RX5 yX5_fails wsX5_fails) := goodIn_app (goodIn_of _ (by decide +kernel)) ggX5_stateOf_X5_fails
theorem dX5_stateOf_0 : decode cX5_stateOf 0 = .ok (.aload_n 0, 1) := by decide +kernel
theorem dX5_stateOf_1 : decode cX5_stateOf 1 = .ok (.iconst 0, 1) := by decide +kernel
theorem dX5_stateOf_2 : decode cX5_stateOf 2 = .ok (.putfield 62, 3) := by decide +kernel
theorem dX5_stateOf_5 : decode cX5_stateOf 5 = .ok (.aload_n 0, 1) := by decide +kernel
theorem dX5_stateOf_6 : decode cX5_stateOf 6 = .ok (.iload_n 1, 1) := by decide +kernel
theorem dX5_stateOf_7 : decode cX5_stateOf 7 = .ok (.invokevirtual 120, 3) := by decide +kernel
theorem dX5_stateOf_10 : decode cX5_stateOf 10 = .ok (.ifCond .eq 12, 3) := by decide +kernel
theorem dX5_stateOf_13 : decode cX5_stateOf 13 = .ok (.aload_n 0, 1) := by decide +kernel
theorem dX5_stateOf_14 : decode cX5_stateOf 14 = .ok (.getfield 56, 3) := by decide +kernel
theorem dX5_stateOf_17 : decode cX5_stateOf 17 = .ok (.iload_n 1, 1) := by decide +kernel
theorem dX5_stateOf_18 : decode cX5_stateOf 18 = .ok (.iaload, 1) := by decide +kernel
theorem dX5_stateOf_19 : decode cX5_stateOf 19 = .ok (.goto 8, 3) := by decide +kernel
theorem dX5_stateOf_22 : decode cX5_stateOf 22 = .ok (.aload_n 0, 1) := by decide +kernel
theorem dX5_stateOf_23 : decode cX5_stateOf 23 = .ok (.iconst 1, 1) := by decide +kernel
theorem dX5_stateOf_24 : decode cX5_stateOf 24 = .ok (.invokevirtual 94, 3) := by decide +kernel
theorem dX5_stateOf_27 : decode cX5_stateOf 27 = .ok (.ireturn, 1) := by decide +kernel
set_option maxRecDepth 20000 in
theorem ggX5_overlaps_X5_isSuggestion : GoodIn wsX5_overlaps wsX5_isSuggestion := goodIn_r _ [6, 7, 8, 9, 5, 10, 22, 23, 24, 25, 26, 27, 28, 29, 30, 31, 32, 33, 34, 35, 36, 37, 38, 39, 40, 41, 42] (by decide +kernel) (by decide +kernel)
set_option maxRecDepth 20000 in
theorem gX5_overlaps_X5_isSuggestion : GoodIn wsX5_overlaps (wsV RX5 120 RX5 yX5_isSuggestion wsX5_isSuggestion) := goodIn_app (goodIn_of _ (by decide +kernel)) ggX5_overlaps_X5_isSuggestion
set_option maxRecDepth 20000 in
theorem ggX5_overlaps_X5_overlapsOf : GoodIn wsX5_overlaps wsX5_overlapsOf := goodIn_ca (goodIn_r _ [14, 7, 15, 16, 17, 22, 23, 24, 25, 26, 27, 28, 29, 30, 31, 32, 33, 34, 35, 36, 37, 38, 39, 40, 41, 42] (by decide +kernel) (by decide +kernel)) (goodIn_sub (fun _ h => List.mem_cons_of_mem _ (List.mem_append_right _ h)) (by decide +kernel))
set_option maxRecDepth 20000 in
theorem gX5_overlaps_X5_overlapsOf : GoodIn wsX5_overlaps (wsV RX5 123 RX5 yX5_overlapsOf wsX5_overlapsOf) := goodIn_app (goodIn_of _ (by decide +kernel)) ggX5_overlaps_X5_overlapsOf
set_option maxRecDepth 20000 in
theorem ggX5_overlaps_X5_fails : GoodIn wsX5_overlaps wsX5_fails := goodIn_r _ [21, 1, 22, 23, 24, 25, 26, 27, 28, 29, 30, 31, 32, 33, 34, 35, 36, 37, 38, 39, 40, 41, 42] (by decide +kernel) (by decide +kernel)
set_option maxRecDepth 20000 in
theorem gX5_overlaps_X5_fails : GoodIn wsX5_overlaps (wsV RX5 94 RX5 yX5_fails wsX5_fails) := goodIn_app (goodIn_of _ (by decide +kernel)) ggX5_overlaps_X5_fails
theorem dX5_overlaps_0 : decode cX5_overlaps 0 = .ok (.aload_n 0, 1) := by decide +kernel
theorem dX5_overlaps_1 : decode cX5_overlaps 1 = .ok (.iconst 0, 1) := by decide +kernel
theorem dX5_overlaps_2 : decode cX5_overlaps 2 = .ok (.putfield 62, 3) := by decide +kernel
theorem dX5_overlaps_5 : decode cX5_overlaps 5 = .ok (.aload_n 0, 1) := by decide +kernel
theorem dX5_overlaps_6 : decode cX5_overlaps 6 = .ok (.iload_n 1, 1) := by decide +kernel
theorem dX5_overlaps_7 : decode cX5_overlaps 7 = .ok (.invokevirtual 120, 3) := by decide +kernel
theorem dX5_overlaps_10 : decode cX5_overlaps 10 = .ok (.ifCond .eq 11, 3) := by decide +kernel
theorem dX5_overlaps_13 : decode cX5_overlaps 13 = .ok (.aload_n 0, 1) := by decide +kernel
theorem dX5_overlaps_14 : decode cX5_overlaps 14 = .ok (.iload_n 1, 1) := by decide +kernel
theorem dX5_overlaps_15 : decode cX5_overlaps 15 = .ok (.invokevirtual 123, 3) := by decide +kernel
theorem dX5_overlaps_18 : decode cX5_overlaps 18 = .ok (.goto 8, 3) := by decide +kernel
theorem dX5_overlaps_21 : decode cX5_overlaps 21 = .ok (.aload_n 0, 1) := by decide +kernel
theorem dX5_overlaps_22 : decode cX5_overlaps 22 = .ok (.iconst 1, 1) := by decide +kernel
theorem dX5_overlaps_23 : decode cX5_overlaps 23 = .ok (.invokevirtual 94, 3) := by decide +kernel
theorem dX5_overlaps_26 : decode cX5_overlaps 26 = .ok (.ireturn, 1) := by decide +kernel

theorem dX0_init_0 : decode cX0_init 0 = .ok (.aload_n 0, 1) := by decide +kernel
theorem dX0_init_1 : decode cX0_init 1 = .ok (.invokespecial 3, 3) := by decide +kernel
theorem dX0_init_4 : decode cX0_init 4 = .ok (.aload_n 0, 1) := by decide +kernel
theorem dX0_init_5 : decode cX0_init 5 = .ok (.sipush 3600, 3) := by decide +kernel
theorem dX0_init_8 : decode cX0_init 8 = .ok (.newarray .int, 2) := by decide +kernel
theorem dX0_init_10 : decode cX0_init 10 = .ok (.putfield 9, 3) := by decide +kernel
theorem dX0_init_13 : decode cX0_init 13 = .ok (.return_, 1) := by decide +kernel
set_option maxRecDepth 20000 in
theorem ggX0_write_X2_asNumber : GoodIn wsX0_write wsX2_asNumber := goodIn_r _ [5, 6, 7, 8, 9, 10, 3, 11, 12, 13, 14, 15] (by decide +kernel) (by decide +kernel)
set_option maxRecDepth 20000 in
theorem gX0_write_X2_asNumber_n21 : GoodIn wsX0_write (wsX2_asNumber) := ggX0_write_X2_asNumber
theorem dX0_write_0 : decode cX0_write 0 = .ok (.iconst 0, 1) := by decide +kernel
theorem dX0_write_1 : decode cX0_write 1 = .ok (.istore_n 3, 1) := by decide +kernel
theorem dX0_write_2 : decode cX0_write 2 = .ok (.iload_n 3, 1) := by decide +kernel
theorem dX0_write_3 : decode cX0_write 3 = .ok (.bipush 12, 2) := by decide +kernel
theorem dX0_write_5 : decode cX0_write 5 = .ok (.if_icmp .ge 49, 3) := by decide +kernel
theorem dX0_write_8 : decode cX0_write 8 = .ok (.iload_n 3, 1) := by decide +kernel
theorem dX0_write_9 : decode cX0_write 9 = .ok (.aload_n 2, 1) := by decide +kernel
theorem dX0_write_10 : decode cX0_write 10 = .ok (.getfield 15, 3) := by decide +kernel
theorem dX0_write_13 : decode cX0_write 13 = .ok (.if_icmp .ge 7, 3) := by decide +kernel
theorem dX0_write_16 : decode cX0_write 16 = .ok (.iconst 1, 1) := by decide +kernel
theorem dX0_write_17 : decode cX0_write 17 = .ok (.goto 4, 3) := by decide +kernel
theorem dX0_write_20 : decode cX0_write 20 = .ok (.iconst 0, 1) := by decide +kernel
theorem dX0_write_21 : decode cX0_write 21 = .ok (.istore 4, 2) := by decide +kernel
theorem dX0_write_23 : decode cX0_write 23 = .ok (.aload_n 0, 1) := by decide +kernel
theorem dX0_write_24 : decode cX0_write 24 = .ok (.getfield 9, 3) := by decide +kernel
theorem dX0_write_27 : decode cX0_write 27 = .ok (.iload_n 1, 1) := by decide +kernel
theorem dX0_write_28 : decode cX0_write 28 = .ok (.bipush 12, 2) := by decide +kernel
theorem dX0_write_30 : decode cX0_write 30 = .ok (.imul, 1) := by decide +kernel
theorem dX0_write_31 : decode cX0_write 31 = .ok (.iload_n 3, 1) := by decide +kernel
theorem dX0_write_32 : decode cX0_write 32 = .ok (.iadd, 1) := by decide +kernel
theorem dX0_write_33 : decode cX0_write 33 = .ok (.iload 4, 2) := by decide +kernel
theorem dX0_write_35 : decode cX0_write 35 = .ok (.ifCond .eq 11, 3) := by decide +kernel
theorem dX0_write_38 : decode cX0_write 38 = .ok (.aload_n 2, 1) := by decide +kernel
theorem dX0_write_39 : decode cX0_write 39 = .ok (.iload_n 3, 1) := by decide +kernel
theorem dX0_write_40 : decode cX0_write 40 = .ok (.invokevirtual 21, 3) := by decide +kernel
theorem dX0_write_43 : decode cX0_write 43 = .ok (.goto 4, 3) := by decide +kernel
theorem dX0_write_46 : decode cX0_write 46 = .ok (.iconst (-1), 1) := by decide +kernel
theorem dX0_write_47 : decode cX0_write 47 = .ok (.iastore, 1) := by decide +kernel
theorem dX0_write_48 : decode cX0_write 48 = .ok (.iinc 3 1, 3) := by decide +kernel
theorem dX0_write_51 : decode cX0_write 51 = .ok (.goto (-49), 3) := by decide +kernel
theorem dX0_write_54 : decode cX0_write 54 = .ok (.return_, 1) := by decide +kernel
theorem dX0_rangeAt_0 : decode cX0_rangeAt 0 = .ok (.aload_n 0, 1) := by decide +kernel
theorem dX0_rangeAt_1 : decode cX0_rangeAt 1 = .ok (.getfield 9, 3) := by decide +kernel
theorem dX0_rangeAt_4 : decode cX0_rangeAt 4 = .ok (.iload_n 1, 1) := by decide +kernel
theorem dX0_rangeAt_5 : decode cX0_rangeAt 5 = .ok (.bipush 12, 2) := by decide +kernel
theorem dX0_rangeAt_7 : decode cX0_rangeAt 7 = .ok (.imul, 1) := by decide +kernel
theorem dX0_rangeAt_8 : decode cX0_rangeAt 8 = .ok (.iload_n 2, 1) := by decide +kernel
theorem dX0_rangeAt_9 : decode cX0_rangeAt 9 = .ok (.iadd, 1) := by decide +kernel
theorem dX0_rangeAt_10 : decode cX0_rangeAt 10 = .ok (.iaload, 1) := by decide +kernel
theorem dX0_rangeAt_11 : decode cX0_rangeAt 11 = .ok (.ireturn, 1) := by decide +kernel
theorem dX1_init_0 : decode cX1_init 0 = .ok (.aload_n 0, 1) := by decide +kernel
theorem dX1_init_1 : decode cX1_init 1 = .ok (.invokespecial 3, 3) := by decide +kernel
theorem dX1_init_4 : decode cX1_init 4 = .ok (.aload_n 0, 1) := by decide +kernel
theorem dX1_init_5 : decode cX1_init 5 = .ok (.sipush 720, 3) := by decide +kernel
theorem dX1_init_8 : decode cX1_init 8 = .ok (.newarray .int, 2) := by decide +kernel
theorem dX1_init_10 : decode cX1_init 10 = .ok (.putfield 9, 3) := by decide +kernel
theorem dX1_init_13 : decode cX1_init 13 = .ok (.aload_n 0, 1) := by decide +kernel
theorem dX1_init_14 : decode cX1_init 14 = .ok (.bipush 12, 2) := by decide +kernel
theorem dX1_init_16 : decode cX1_init 16 = .ok (.newarray .int, 2) := by decide +kernel
theorem dX1_init_18 : decode cX1_init 18 = .ok (.putfield 15, 3) := by decide +kernel
theorem dX1_init_21 : decode cX1_init 21 = .ok (.aload_n 0, 1) := by decide +kernel
theorem dX1_init_22 : decode cX1_init 22 = .ok (.bipush 12, 2) := by decide +kernel
theorem dX1_init_24 : decode cX1_init 24 = .ok (.newarray .int, 2) := by decide +kernel
theorem dX1_init_26 : decode cX1_init 26 = .ok (.putfield 18, 3) := by decide +kernel
theorem dX1_init_29 : decode cX1_init 29 = .ok (.aload_n 0, 1) := by decide +kernel
theorem dX1_init_30 : decode cX1_init 30 = .ok (.bipush 12, 2) := by decide +kernel
theorem dX1_init_32 : decode cX1_init 32 = .ok (.newarray .int, 2) := by decide +kernel
theorem dX1_init_34 : decode cX1_init 34 = .ok (.putfield 21, 3) := by decide +kernel
theorem dX1_init_37 : decode cX1_init 37 = .ok (.return_, 1) := by decide +kernel
set_option maxRecDepth 20000 in
theorem ggX1_keep_X3_letterBehind : GoodIn wsX1_keep wsX3_letterBehind := goodIn_r _ [12, 13, 14, 15, 16, 10, 17, 18, 23, 24, 25] (by decide +kernel) (by decide +kernel)
set_option maxRecDepth 20000 in
theorem gX1_keep_X3_letterBehind_n33 : GoodIn wsX1_keep (wsX3_letterBehind) := ggX1_keep_X3_letterBehind
theorem dX1_keep_0 : decode cX1_keep 0 = .ok (.aload_n 0, 1) := by decide +kernel
theorem dX1_keep_1 : decode cX1_keep 1 = .ok (.getfield 15, 3) := by decide +kernel
theorem dX1_keep_4 : decode cX1_keep 4 = .ok (.iload_n 1, 1) := by decide +kernel
theorem dX1_keep_5 : decode cX1_keep 5 = .ok (.iload 4, 2) := by decide +kernel
theorem dX1_keep_7 : decode cX1_keep 7 = .ok (.iload_n 3, 1) := by decide +kernel
theorem dX1_keep_8 : decode cX1_keep 8 = .ok (.isub, 1) := by decide +kernel
theorem dX1_keep_9 : decode cX1_keep 9 = .ok (.iastore, 1) := by decide +kernel
theorem dX1_keep_10 : decode cX1_keep 10 = .ok (.aload_n 2, 1) := by decide +kernel
theorem dX1_keep_11 : decode cX1_keep 11 = .ok (.getfield 24, 3) := by decide +kernel
theorem dX1_keep_14 : decode cX1_keep 14 = .ok (.iload_n 3, 1) := by decide +kernel
theorem dX1_keep_15 : decode cX1_keep 15 = .ok (.aload_n 0, 1) := by decide +kernel
theorem dX1_keep_16 : decode cX1_keep 16 = .ok (.getfield 9, 3) := by decide +kernel
theorem dX1_keep_19 : decode cX1_keep 19 = .ok (.iload_n 1, 1) := by decide +kernel
theorem dX1_keep_20 : decode cX1_keep 20 = .ok (.bipush 60, 2) := by decide +kernel
theorem dX1_keep_22 : decode cX1_keep 22 = .ok (.imul, 1) := by decide +kernel
theorem dX1_keep_23 : decode cX1_keep 23 = .ok (.iload 4, 2) := by decide +kernel
theorem dX1_keep_25 : decode cX1_keep 25 = .ok (.iload_n 3, 1) := by decide +kernel
theorem dX1_keep_26 : decode cX1_keep 26 = .ok (.isub, 1) := by decide +kernel
theorem dX1_keep_27 : decode cX1_keep 27 = .ok (.invokestatic 27, 3) := by decide +kernel
theorem dX1_keep_30 : decode cX1_keep 30 = .ok (.aload_n 0, 1) := by decide +kernel
theorem dX1_keep_31 : decode cX1_keep 31 = .ok (.getfield 18, 3) := by decide +kernel
theorem dX1_keep_34 : decode cX1_keep 34 = .ok (.iload_n 1, 1) := by decide +kernel
theorem dX1_keep_35 : decode cX1_keep 35 = .ok (.aload_n 2, 1) := by decide +kernel
theorem dX1_keep_36 : decode cX1_keep 36 = .ok (.iload_n 3, 1) := by decide +kernel
theorem dX1_keep_37 : decode cX1_keep 37 = .ok (.iconst 1, 1) := by decide +kernel
theorem dX1_keep_38 : decode cX1_keep 38 = .ok (.isub, 1) := by decide +kernel
theorem dX1_keep_39 : decode cX1_keep 39 = .ok (.invokevirtual 33, 3) := by decide +kernel
theorem dX1_keep_42 : decode cX1_keep 42 = .ok (.iastore, 1) := by decide +kernel
theorem dX1_keep_43 : decode cX1_keep 43 = .ok (.aload_n 0, 1) := by decide +kernel
theorem dX1_keep_44 : decode cX1_keep 44 = .ok (.getfield 21, 3) := by decide +kernel
theorem dX1_keep_47 : decode cX1_keep 47 = .ok (.iload_n 1, 1) := by decide +kernel
theorem dX1_keep_48 : decode cX1_keep 48 = .ok (.aload_n 2, 1) := by decide +kernel
theorem dX1_keep_49 : decode cX1_keep 49 = .ok (.iload 4, 2) := by decide +kernel
theorem dX1_keep_51 : decode cX1_keep 51 = .ok (.invokevirtual 33, 3) := by decide +kernel
theorem dX1_keep_54 : decode cX1_keep 54 = .ok (.iastore, 1) := by decide +kernel
theorem dX1_keep_55 : decode cX1_keep 55 = .ok (.return_, 1) := by decide +kernel
theorem dX1_sizeOf_0 : decode cX1_sizeOf 0 = .ok (.aload_n 0, 1) := by decide +kernel
theorem dX1_sizeOf_1 : decode cX1_sizeOf 1 = .ok (.getfield 15, 3) := by decide +kernel
theorem dX1_sizeOf_4 : decode cX1_sizeOf 4 = .ok (.iload_n 1, 1) := by decide +kernel
theorem dX1_sizeOf_5 : decode cX1_sizeOf 5 = .ok (.iaload, 1) := by decide +kernel
theorem dX1_sizeOf_6 : decode cX1_sizeOf 6 = .ok (.ireturn, 1) := by decide +kernel
set_option maxRecDepth 20000 in
theorem ggX1_bestPlace_X1_standsAt : GoodIn wsX1_bestPlace wsX1_standsAt := goodIn_r _ [6, 1, 7, 27, 28, 29, 30, 24, 25, 26] (by decide +kernel) (by decide +kernel)
set_option maxRecDepth 20000 in
theorem gX1_bestPlace_X1_standsAt : GoodIn wsX1_bestPlace (wsV RX1 41 RX1 yX1_standsAt wsX1_standsAt) := goodIn_app (goodIn_of _ (by decide +kernel)) ggX1_bestPlace_X1_standsAt
set_option maxRecDepth 20000 in
theorem ggX1_bestPlace_X1_fitAt : GoodIn wsX1_bestPlace wsX1_fitAt := goodIn_r _ [11, 1, 12, 13, 14, 15, 16, 17, 18, 19, 20, 21, 22, 23, 27, 28, 29, 30, 24, 25, 26] (by decide +kernel) (by decide +kernel)
set_option maxRecDepth 20000 in
theorem gX1_bestPlace_X1_fitAt : GoodIn wsX1_bestPlace (wsV RX1 45 RX1 yX1_fitAt wsX1_fitAt) := goodIn_app (goodIn_of _ (by decide +kernel)) ggX1_bestPlace_X1_fitAt
theorem dX1_bestPlace_0 : decode cX1_bestPlace 0 = .ok (.iconst (-1), 1) := by decide +kernel
theorem dX1_bestPlace_1 : decode cX1_bestPlace 1 = .ok (.istore_n 3, 1) := by decide +kernel
theorem dX1_bestPlace_2 : decode cX1_bestPlace 2 = .ok (.iconst 0, 1) := by decide +kernel
theorem dX1_bestPlace_3 : decode cX1_bestPlace 3 = .ok (.istore 4, 2) := by decide +kernel
theorem dX1_bestPlace_5 : decode cX1_bestPlace 5 = .ok (.iconst 0, 1) := by decide +kernel
theorem dX1_bestPlace_6 : decode cX1_bestPlace 6 = .ok (.istore 5, 2) := by decide +kernel
theorem dX1_bestPlace_8 : decode cX1_bestPlace 8 = .ok (.iload 5, 2) := by decide +kernel
theorem dX1_bestPlace_10 : decode cX1_bestPlace 10 = .ok (.aload_n 2, 1) := by decide +kernel
theorem dX1_bestPlace_11 : decode cX1_bestPlace 11 = .ok (.getfield 37, 3) := by decide +kernel
theorem dX1_bestPlace_14 : decode cX1_bestPlace 14 = .ok (.aload_n 0, 1) := by decide +kernel
theorem dX1_bestPlace_15 : decode cX1_bestPlace 15 = .ok (.getfield 15, 3) := by decide +kernel
theorem dX1_bestPlace_18 : decode cX1_bestPlace 18 = .ok (.iload_n 1, 1) := by decide +kernel
theorem dX1_bestPlace_19 : decode cX1_bestPlace 19 = .ok (.iaload, 1) := by decide +kernel
theorem dX1_bestPlace_20 : decode cX1_bestPlace 20 = .ok (.isub, 1) := by decide +kernel
theorem dX1_bestPlace_21 : decode cX1_bestPlace 21 = .ok (.if_icmp .gt 49, 3) := by decide +kernel
theorem dX1_bestPlace_24 : decode cX1_bestPlace 24 = .ok (.aload_n 0, 1) := by decide +kernel
theorem dX1_bestPlace_25 : decode cX1_bestPlace 25 = .ok (.iload_n 1, 1) := by decide +kernel
theorem dX1_bestPlace_26 : decode cX1_bestPlace 26 = .ok (.aload_n 2, 1) := by decide +kernel
theorem dX1_bestPlace_27 : decode cX1_bestPlace 27 = .ok (.iload 5, 2) := by decide +kernel
theorem dX1_bestPlace_29 : decode cX1_bestPlace 29 = .ok (.invokevirtual 41, 3) := by decide +kernel
theorem dX1_bestPlace_32 : decode cX1_bestPlace 32 = .ok (.ifCond .eq 32, 3) := by decide +kernel
theorem dX1_bestPlace_35 : decode cX1_bestPlace 35 = .ok (.aload_n 0, 1) := by decide +kernel
theorem dX1_bestPlace_36 : decode cX1_bestPlace 36 = .ok (.iload_n 1, 1) := by decide +kernel
theorem dX1_bestPlace_37 : decode cX1_bestPlace 37 = .ok (.aload_n 2, 1) := by decide +kernel
theorem dX1_bestPlace_38 : decode cX1_bestPlace 38 = .ok (.iload 5, 2) := by decide +kernel
theorem dX1_bestPlace_40 : decode cX1_bestPlace 40 = .ok (.invokevirtual 45, 3) := by decide +kernel
theorem dX1_bestPlace_43 : decode cX1_bestPlace 43 = .ok (.istore 6, 2) := by decide +kernel
theorem dX1_bestPlace_45 : decode cX1_bestPlace 45 = .ok (.iload_n 3, 1) := by decide +kernel
theorem dX1_bestPlace_46 : decode cX1_bestPlace 46 = .ok (.iconst (-1), 1) := by decide +kernel
theorem dX1_bestPlace_47 : decode cX1_bestPlace 47 = .ok (.if_icmp .eq 10, 3) := by decide +kernel
theorem dX1_bestPlace_50 : decode cX1_bestPlace 50 = .ok (.iload 6, 2) := by decide +kernel
theorem dX1_bestPlace_52 : decode cX1_bestPlace 52 = .ok (.iload 4, 2) := by decide +kernel
theorem dX1_bestPlace_54 : decode cX1_bestPlace 54 = .ok (.if_icmp .le 10, 3) := by decide +kernel
theorem dX1_bestPlace_57 : decode cX1_bestPlace 57 = .ok (.iload 5, 2) := by decide +kernel
theorem dX1_bestPlace_59 : decode cX1_bestPlace 59 = .ok (.istore_n 3, 1) := by decide +kernel
theorem dX1_bestPlace_60 : decode cX1_bestPlace 60 = .ok (.iload 6, 2) := by decide +kernel
theorem dX1_bestPlace_62 : decode cX1_bestPlace 62 = .ok (.istore 4, 2) := by decide +kernel
theorem dX1_bestPlace_64 : decode cX1_bestPlace 64 = .ok (.iinc 5 1, 3) := by decide +kernel
theorem dX1_bestPlace_67 : decode cX1_bestPlace 67 = .ok (.goto (-59), 3) := by decide +kernel
theorem dX1_bestPlace_70 : decode cX1_bestPlace 70 = .ok (.iload_n 3, 1) := by decide +kernel
theorem dX1_bestPlace_71 : decode cX1_bestPlace 71 = .ok (.ireturn, 1) := by decide +kernel
theorem dX1_standsAt_0 : decode cX1_standsAt 0 = .ok (.iconst 0, 1) := by decide +kernel
theorem dX1_standsAt_1 : decode cX1_standsAt 1 = .ok (.istore 4, 2) := by decide +kernel
theorem dX1_standsAt_3 : decode cX1_standsAt 3 = .ok (.iload 4, 2) := by decide +kernel
theorem dX1_standsAt_5 : decode cX1_standsAt 5 = .ok (.aload_n 0, 1) := by decide +kernel
theorem dX1_standsAt_6 : decode cX1_standsAt 6 = .ok (.getfield 15, 3) := by decide +kernel
theorem dX1_standsAt_9 : decode cX1_standsAt 9 = .ok (.iload_n 1, 1) := by decide +kernel
theorem dX1_standsAt_10 : decode cX1_standsAt 10 = .ok (.iaload, 1) := by decide +kernel
theorem dX1_standsAt_11 : decode cX1_standsAt 11 = .ok (.if_icmp .ge 35, 3) := by decide +kernel
theorem dX1_standsAt_14 : decode cX1_standsAt 14 = .ok (.aload_n 0, 1) := by decide +kernel
theorem dX1_standsAt_15 : decode cX1_standsAt 15 = .ok (.getfield 9, 3) := by decide +kernel
theorem dX1_standsAt_18 : decode cX1_standsAt 18 = .ok (.iload_n 1, 1) := by decide +kernel
theorem dX1_standsAt_19 : decode cX1_standsAt 19 = .ok (.bipush 60, 2) := by decide +kernel
theorem dX1_standsAt_21 : decode cX1_standsAt 21 = .ok (.imul, 1) := by decide +kernel
theorem dX1_standsAt_22 : decode cX1_standsAt 22 = .ok (.iload 4, 2) := by decide +kernel
theorem dX1_standsAt_24 : decode cX1_standsAt 24 = .ok (.iadd, 1) := by decide +kernel
theorem dX1_standsAt_25 : decode cX1_standsAt 25 = .ok (.iaload, 1) := by decide +kernel
theorem dX1_standsAt_26 : decode cX1_standsAt 26 = .ok (.aload_n 2, 1) := by decide +kernel
theorem dX1_standsAt_27 : decode cX1_standsAt 27 = .ok (.getfield 24, 3) := by decide +kernel
theorem dX1_standsAt_30 : decode cX1_standsAt 30 = .ok (.iload_n 3, 1) := by decide +kernel
theorem dX1_standsAt_31 : decode cX1_standsAt 31 = .ok (.iload 4, 2) := by decide +kernel
theorem dX1_standsAt_33 : decode cX1_standsAt 33 = .ok (.iadd, 1) := by decide +kernel
theorem dX1_standsAt_34 : decode cX1_standsAt 34 = .ok (.iaload, 1) := by decide +kernel
theorem dX1_standsAt_35 : decode cX1_standsAt 35 = .ok (.if_icmp .eq 5, 3) := by decide +kernel
theorem dX1_standsAt_38 : decode cX1_standsAt 38 = .ok (.iconst 0, 1) := by decide +kernel
theorem dX1_standsAt_39 : decode cX1_standsAt 39 = .ok (.ireturn, 1) := by decide +kernel
theorem dX1_standsAt_40 : decode cX1_standsAt 40 = .ok (.iinc 4 1, 3) := by decide +kernel
theorem dX1_standsAt_43 : decode cX1_standsAt 43 = .ok (.goto (-40), 3) := by decide +kernel
theorem dX1_standsAt_46 : decode cX1_standsAt 46 = .ok (.iconst 1, 1) := by decide +kernel
theorem dX1_standsAt_47 : decode cX1_standsAt 47 = .ok (.ireturn, 1) := by decide +kernel
set_option maxRecDepth 20000 in
theorem ggX1_fitAt_X3_letterBehind : GoodIn wsX1_fitAt wsX3_letterBehind := goodIn_r _ [7, 8, 9, 10, 11, 5, 12, 13, 18, 19, 20] (by decide +kernel) (by decide +kernel)
set_option maxRecDepth 20000 in
theorem gX1_fitAt_X3_letterBehind_n33 : GoodIn wsX1_fitAt (wsX3_letterBehind) := ggX1_fitAt_X3_letterBehind
theorem dX1_fitAt_0 : decode cX1_fitAt 0 = .ok (.aload_n 2, 1) := by decide +kernel
theorem dX1_fitAt_1 : decode cX1_fitAt 1 = .ok (.iload_n 3, 1) := by decide +kernel
theorem dX1_fitAt_2 : decode cX1_fitAt 2 = .ok (.iconst 1, 1) := by decide +kernel
theorem dX1_fitAt_3 : decode cX1_fitAt 3 = .ok (.isub, 1) := by decide +kernel
theorem dX1_fitAt_4 : decode cX1_fitAt 4 = .ok (.invokevirtual 33, 3) := by decide +kernel
theorem dX1_fitAt_7 : decode cX1_fitAt 7 = .ok (.istore 4, 2) := by decide +kernel
theorem dX1_fitAt_9 : decode cX1_fitAt 9 = .ok (.aload_n 2, 1) := by decide +kernel
theorem dX1_fitAt_10 : decode cX1_fitAt 10 = .ok (.iload_n 3, 1) := by decide +kernel
theorem dX1_fitAt_11 : decode cX1_fitAt 11 = .ok (.aload_n 0, 1) := by decide +kernel
theorem dX1_fitAt_12 : decode cX1_fitAt 12 = .ok (.getfield 15, 3) := by decide +kernel
theorem dX1_fitAt_15 : decode cX1_fitAt 15 = .ok (.iload_n 1, 1) := by decide +kernel
theorem dX1_fitAt_16 : decode cX1_fitAt 16 = .ok (.iaload, 1) := by decide +kernel
theorem dX1_fitAt_17 : decode cX1_fitAt 17 = .ok (.iadd, 1) := by decide +kernel
theorem dX1_fitAt_18 : decode cX1_fitAt 18 = .ok (.invokevirtual 33, 3) := by decide +kernel
theorem dX1_fitAt_21 : decode cX1_fitAt 21 = .ok (.istore 5, 2) := by decide +kernel
theorem dX1_fitAt_23 : decode cX1_fitAt 23 = .ok (.iload 4, 2) := by decide +kernel
theorem dX1_fitAt_25 : decode cX1_fitAt 25 = .ok (.aload_n 0, 1) := by decide +kernel
theorem dX1_fitAt_26 : decode cX1_fitAt 26 = .ok (.getfield 18, 3) := by decide +kernel
theorem dX1_fitAt_29 : decode cX1_fitAt 29 = .ok (.iload_n 1, 1) := by decide +kernel
theorem dX1_fitAt_30 : decode cX1_fitAt 30 = .ok (.iaload, 1) := by decide +kernel
theorem dX1_fitAt_31 : decode cX1_fitAt 31 = .ok (.if_icmp .ne 7, 3) := by decide +kernel
theorem dX1_fitAt_34 : decode cX1_fitAt 34 = .ok (.iconst 1, 1) := by decide +kernel
theorem dX1_fitAt_35 : decode cX1_fitAt 35 = .ok (.goto 4, 3) := by decide +kernel
theorem dX1_fitAt_38 : decode cX1_fitAt 38 = .ok (.iconst 0, 1) := by decide +kernel
theorem dX1_fitAt_39 : decode cX1_fitAt 39 = .ok (.iload 5, 2) := by decide +kernel
theorem dX1_fitAt_41 : decode cX1_fitAt 41 = .ok (.aload_n 0, 1) := by decide +kernel
theorem dX1_fitAt_42 : decode cX1_fitAt 42 = .ok (.getfield 21, 3) := by decide +kernel
theorem dX1_fitAt_45 : decode cX1_fitAt 45 = .ok (.iload_n 1, 1) := by decide +kernel
theorem dX1_fitAt_46 : decode cX1_fitAt 46 = .ok (.iaload, 1) := by decide +kernel
theorem dX1_fitAt_47 : decode cX1_fitAt 47 = .ok (.if_icmp .ne 7, 3) := by decide +kernel
theorem dX1_fitAt_50 : decode cX1_fitAt 50 = .ok (.iconst 1, 1) := by decide +kernel
theorem dX1_fitAt_51 : decode cX1_fitAt 51 = .ok (.goto 4, 3) := by decide +kernel
theorem dX1_fitAt_54 : decode cX1_fitAt 54 = .ok (.iconst 0, 1) := by decide +kernel
theorem dX1_fitAt_55 : decode cX1_fitAt 55 = .ok (.iadd, 1) := by decide +kernel
theorem dX1_fitAt_56 : decode cX1_fitAt 56 = .ok (.ireturn, 1) := by decide +kernel
theorem dX2_init_0 : decode cX2_init 0 = .ok (.aload_n 0, 1) := by decide +kernel
theorem dX2_init_1 : decode cX2_init 1 = .ok (.invokespecial 3, 3) := by decide +kernel
theorem dX2_init_4 : decode cX2_init 4 = .ok (.aload_n 0, 1) := by decide +kernel
theorem dX2_init_5 : decode cX2_init 5 = .ok (.bipush 12, 2) := by decide +kernel
theorem dX2_init_7 : decode cX2_init 7 = .ok (.newarray .int, 2) := by decide +kernel
theorem dX2_init_9 : decode cX2_init 9 = .ok (.putfield 9, 3) := by decide +kernel
theorem dX2_init_12 : decode cX2_init 12 = .ok (.aload_n 0, 1) := by decide +kernel
theorem dX2_init_13 : decode cX2_init 13 = .ok (.bipush 12, 2) := by decide +kernel
theorem dX2_init_15 : decode cX2_init 15 = .ok (.newarray .int, 2) := by decide +kernel
theorem dX2_init_17 : decode cX2_init 17 = .ok (.putfield 15, 3) := by decide +kernel
theorem dX2_init_20 : decode cX2_init 20 = .ok (.aload_n 0, 1) := by decide +kernel
theorem dX2_init_21 : decode cX2_init 21 = .ok (.bipush 12, 2) := by decide +kernel
theorem dX2_init_23 : decode cX2_init 23 = .ok (.newarray .int, 2) := by decide +kernel
theorem dX2_init_25 : decode cX2_init 25 = .ok (.putfield 18, 3) := by decide +kernel
theorem dX2_init_28 : decode cX2_init 28 = .ok (.aload_n 0, 1) := by decide +kernel
theorem dX2_init_29 : decode cX2_init 29 = .ok (.iconst 0, 1) := by decide +kernel
theorem dX2_init_30 : decode cX2_init 30 = .ok (.putfield 21, 3) := by decide +kernel
theorem dX2_init_33 : decode cX2_init 33 = .ok (.return_, 1) := by decide +kernel
theorem dX2_add_0 : decode cX2_add 0 = .ok (.aload_n 0, 1) := by decide +kernel
theorem dX2_add_1 : decode cX2_add 1 = .ok (.getfield 21, 3) := by decide +kernel
theorem dX2_add_4 : decode cX2_add 4 = .ok (.istore 4, 2) := by decide +kernel
theorem dX2_add_6 : decode cX2_add 6 = .ok (.aload_n 0, 1) := by decide +kernel
theorem dX2_add_7 : decode cX2_add 7 = .ok (.getfield 9, 3) := by decide +kernel
theorem dX2_add_10 : decode cX2_add 10 = .ok (.iload 4, 2) := by decide +kernel
theorem dX2_add_12 : decode cX2_add 12 = .ok (.iload_n 1, 1) := by decide +kernel
theorem dX2_add_13 : decode cX2_add 13 = .ok (.iastore, 1) := by decide +kernel
theorem dX2_add_14 : decode cX2_add 14 = .ok (.aload_n 0, 1) := by decide +kernel
theorem dX2_add_15 : decode cX2_add 15 = .ok (.getfield 15, 3) := by decide +kernel
theorem dX2_add_18 : decode cX2_add 18 = .ok (.iload 4, 2) := by decide +kernel
theorem dX2_add_20 : decode cX2_add 20 = .ok (.iload_n 2, 1) := by decide +kernel
theorem dX2_add_21 : decode cX2_add 21 = .ok (.iastore, 1) := by decide +kernel
theorem dX2_add_22 : decode cX2_add 22 = .ok (.aload_n 0, 1) := by decide +kernel
theorem dX2_add_23 : decode cX2_add 23 = .ok (.getfield 18, 3) := by decide +kernel
theorem dX2_add_26 : decode cX2_add 26 = .ok (.iload 4, 2) := by decide +kernel
theorem dX2_add_28 : decode cX2_add 28 = .ok (.iload_n 3, 1) := by decide +kernel
theorem dX2_add_29 : decode cX2_add 29 = .ok (.iastore, 1) := by decide +kernel
theorem dX2_add_30 : decode cX2_add 30 = .ok (.aload_n 0, 1) := by decide +kernel
theorem dX2_add_31 : decode cX2_add 31 = .ok (.dup, 1) := by decide +kernel
theorem dX2_add_32 : decode cX2_add 32 = .ok (.getfield 21, 3) := by decide +kernel
theorem dX2_add_35 : decode cX2_add 35 = .ok (.iconst 1, 1) := by decide +kernel
theorem dX2_add_36 : decode cX2_add 36 = .ok (.iadd, 1) := by decide +kernel
theorem dX2_add_37 : decode cX2_add 37 = .ok (.putfield 21, 3) := by decide +kernel
theorem dX2_add_40 : decode cX2_add 40 = .ok (.iload 4, 2) := by decide +kernel
theorem dX2_add_42 : decode cX2_add 42 = .ok (.ireturn, 1) := by decide +kernel
theorem dX2_bringBack_0 : decode cX2_bringBack 0 = .ok (.aload_n 0, 1) := by decide +kernel
theorem dX2_bringBack_1 : decode cX2_bringBack 1 = .ok (.getfield 9, 3) := by decide +kernel
theorem dX2_bringBack_4 : decode cX2_bringBack 4 = .ok (.iload_n 1, 1) := by decide +kernel
theorem dX2_bringBack_5 : decode cX2_bringBack 5 = .ok (.iload_n 2, 1) := by decide +kernel
theorem dX2_bringBack_6 : decode cX2_bringBack 6 = .ok (.iastore, 1) := by decide +kernel
theorem dX2_bringBack_7 : decode cX2_bringBack 7 = .ok (.aload_n 0, 1) := by decide +kernel
theorem dX2_bringBack_8 : decode cX2_bringBack 8 = .ok (.getfield 15, 3) := by decide +kernel
theorem dX2_bringBack_11 : decode cX2_bringBack 11 = .ok (.iload_n 1, 1) := by decide +kernel
theorem dX2_bringBack_12 : decode cX2_bringBack 12 = .ok (.iload_n 3, 1) := by decide +kernel
theorem dX2_bringBack_13 : decode cX2_bringBack 13 = .ok (.iastore, 1) := by decide +kernel
theorem dX2_bringBack_14 : decode cX2_bringBack 14 = .ok (.return_, 1) := by decide +kernel
theorem dX2_isGone_0 : decode cX2_isGone 0 = .ok (.aload_n 0, 1) := by decide +kernel
theorem dX2_isGone_1 : decode cX2_isGone 1 = .ok (.getfield 9, 3) := by decide +kernel
theorem dX2_isGone_4 : decode cX2_isGone 4 = .ok (.iload_n 1, 1) := by decide +kernel
theorem dX2_isGone_5 : decode cX2_isGone 5 = .ok (.iaload, 1) := by decide +kernel
theorem dX2_isGone_6 : decode cX2_isGone 6 = .ok (.iconst (-1), 1) := by decide +kernel
theorem dX2_isGone_7 : decode cX2_isGone 7 = .ok (.if_icmp .ne 7, 3) := by decide +kernel
theorem dX2_isGone_10 : decode cX2_isGone 10 = .ok (.iconst 1, 1) := by decide +kernel
theorem dX2_isGone_11 : decode cX2_isGone 11 = .ok (.goto 4, 3) := by decide +kernel
theorem dX2_isGone_14 : decode cX2_isGone 14 = .ok (.iconst 0, 1) := by decide +kernel
theorem dX2_isGone_15 : decode cX2_isGone 15 = .ok (.ireturn, 1) := by decide +kernel
set_option maxRecDepth 20000 in
theorem ggX2_asNumber_X2_isGone : GoodIn wsX2_asNumber wsX2_isGone := goodIn_r _ [7, 1, 8, 9, 10, 11] (by decide +kernel) (by decide +kernel)
set_option maxRecDepth 20000 in
theorem gX2_asNumber_X2_isGone : GoodIn wsX2_asNumber (wsV RX2 25 RX2 yX2_isGone wsX2_isGone) := goodIn_app (goodIn_of _ (by decide +kernel)) ggX2_asNumber_X2_isGone
theorem dX2_asNumber_0 : decode cX2_asNumber 0 = .ok (.aload_n 0, 1) := by decide +kernel
theorem dX2_asNumber_1 : decode cX2_asNumber 1 = .ok (.iload_n 1, 1) := by decide +kernel
theorem dX2_asNumber_2 : decode cX2_asNumber 2 = .ok (.invokevirtual 25, 3) := by decide +kernel
theorem dX2_asNumber_5 : decode cX2_asNumber 5 = .ok (.ifCond .eq 7, 3) := by decide +kernel
theorem dX2_asNumber_8 : decode cX2_asNumber 8 = .ok (.iconst (-1), 1) := by decide +kernel
theorem dX2_asNumber_9 : decode cX2_asNumber 9 = .ok (.goto 19, 3) := by decide +kernel
theorem dX2_asNumber_12 : decode cX2_asNumber 12 = .ok (.bipush 100, 2) := by decide +kernel
theorem dX2_asNumber_14 : decode cX2_asNumber 14 = .ok (.aload_n 0, 1) := by decide +kernel
theorem dX2_asNumber_15 : decode cX2_asNumber 15 = .ok (.getfield 9, 3) := by decide +kernel
theorem dX2_asNumber_18 : decode cX2_asNumber 18 = .ok (.iload_n 1, 1) := by decide +kernel
theorem dX2_asNumber_19 : decode cX2_asNumber 19 = .ok (.iaload, 1) := by decide +kernel
theorem dX2_asNumber_20 : decode cX2_asNumber 20 = .ok (.imul, 1) := by decide +kernel
theorem dX2_asNumber_21 : decode cX2_asNumber 21 = .ok (.aload_n 0, 1) := by decide +kernel
theorem dX2_asNumber_22 : decode cX2_asNumber 22 = .ok (.getfield 15, 3) := by decide +kernel
theorem dX2_asNumber_25 : decode cX2_asNumber 25 = .ok (.iload_n 1, 1) := by decide +kernel
theorem dX2_asNumber_26 : decode cX2_asNumber 26 = .ok (.iaload, 1) := by decide +kernel
theorem dX2_asNumber_27 : decode cX2_asNumber 27 = .ok (.iadd, 1) := by decide +kernel
theorem dX2_asNumber_28 : decode cX2_asNumber 28 = .ok (.ireturn, 1) := by decide +kernel
set_option maxRecDepth 20000 in
theorem ggX2_covering_X4_bit : GoodIn wsX2_covering wsX4_bit := goodIn_r _ [6] (by decide +kernel) (by decide +kernel)
set_option maxRecDepth 20000 in
theorem gX2_covering_X4_bit_n29 : GoodIn wsX2_covering (wsX4_bit) := ggX2_covering_X4_bit
theorem dX2_covering_0 : decode cX2_covering 0 = .ok (.iconst 0, 1) := by decide +kernel
theorem dX2_covering_1 : decode cX2_covering 1 = .ok (.istore_n 2, 1) := by decide +kernel
theorem dX2_covering_2 : decode cX2_covering 2 = .ok (.iconst 0, 1) := by decide +kernel
theorem dX2_covering_3 : decode cX2_covering 3 = .ok (.istore_n 3, 1) := by decide +kernel
theorem dX2_covering_4 : decode cX2_covering 4 = .ok (.iload_n 3, 1) := by decide +kernel
theorem dX2_covering_5 : decode cX2_covering 5 = .ok (.aload_n 0, 1) := by decide +kernel
theorem dX2_covering_6 : decode cX2_covering 6 = .ok (.getfield 21, 3) := by decide +kernel
theorem dX2_covering_9 : decode cX2_covering 9 = .ok (.if_icmp .ge 36, 3) := by decide +kernel
theorem dX2_covering_12 : decode cX2_covering 12 = .ok (.aload_n 0, 1) := by decide +kernel
theorem dX2_covering_13 : decode cX2_covering 13 = .ok (.getfield 9, 3) := by decide +kernel
theorem dX2_covering_16 : decode cX2_covering 16 = .ok (.iload_n 3, 1) := by decide +kernel
theorem dX2_covering_17 : decode cX2_covering 17 = .ok (.iaload, 1) := by decide +kernel
theorem dX2_covering_18 : decode cX2_covering 18 = .ok (.iload_n 1, 1) := by decide +kernel
theorem dX2_covering_19 : decode cX2_covering 19 = .ok (.if_icmp .gt 20, 3) := by decide +kernel
theorem dX2_covering_22 : decode cX2_covering 22 = .ok (.iload_n 1, 1) := by decide +kernel
theorem dX2_covering_23 : decode cX2_covering 23 = .ok (.aload_n 0, 1) := by decide +kernel
theorem dX2_covering_24 : decode cX2_covering 24 = .ok (.getfield 15, 3) := by decide +kernel
theorem dX2_covering_27 : decode cX2_covering 27 = .ok (.iload_n 3, 1) := by decide +kernel
theorem dX2_covering_28 : decode cX2_covering 28 = .ok (.iaload, 1) := by decide +kernel
theorem dX2_covering_29 : decode cX2_covering 29 = .ok (.if_icmp .ge 10, 3) := by decide +kernel
theorem dX2_covering_32 : decode cX2_covering 32 = .ok (.iload_n 2, 1) := by decide +kernel
theorem dX2_covering_33 : decode cX2_covering 33 = .ok (.iload_n 3, 1) := by decide +kernel
theorem dX2_covering_34 : decode cX2_covering 34 = .ok (.invokestatic 29, 3) := by decide +kernel
theorem dX2_covering_37 : decode cX2_covering 37 = .ok (.ior, 1) := by decide +kernel
theorem dX2_covering_38 : decode cX2_covering 38 = .ok (.istore_n 2, 1) := by decide +kernel
theorem dX2_covering_39 : decode cX2_covering 39 = .ok (.iinc 3 1, 3) := by decide +kernel
theorem dX2_covering_42 : decode cX2_covering 42 = .ok (.goto (-38), 3) := by decide +kernel
theorem dX2_covering_45 : decode cX2_covering 45 = .ok (.iload_n 2, 1) := by decide +kernel
theorem dX2_covering_46 : decode cX2_covering 46 = .ok (.ireturn, 1) := by decide +kernel
theorem dX2_share_0 : decode cX2_share 0 = .ok (.aload_n 0, 1) := by decide +kernel
theorem dX2_share_1 : decode cX2_share 1 = .ok (.getfield 9, 3) := by decide +kernel
theorem dX2_share_4 : decode cX2_share 4 = .ok (.iload_n 1, 1) := by decide +kernel
theorem dX2_share_5 : decode cX2_share 5 = .ok (.iaload, 1) := by decide +kernel
theorem dX2_share_6 : decode cX2_share 6 = .ok (.aload_n 0, 1) := by decide +kernel
theorem dX2_share_7 : decode cX2_share 7 = .ok (.getfield 9, 3) := by decide +kernel
theorem dX2_share_10 : decode cX2_share 10 = .ok (.iload_n 2, 1) := by decide +kernel
theorem dX2_share_11 : decode cX2_share 11 = .ok (.iaload, 1) := by decide +kernel
theorem dX2_share_12 : decode cX2_share 12 = .ok (.invokestatic 33, 3) := by decide +kernel
theorem dX2_share_15 : decode cX2_share 15 = .ok (.aload_n 0, 1) := by decide +kernel
theorem dX2_share_16 : decode cX2_share 16 = .ok (.getfield 15, 3) := by decide +kernel
theorem dX2_share_19 : decode cX2_share 19 = .ok (.iload_n 1, 1) := by decide +kernel
theorem dX2_share_20 : decode cX2_share 20 = .ok (.iaload, 1) := by decide +kernel
theorem dX2_share_21 : decode cX2_share 21 = .ok (.aload_n 0, 1) := by decide +kernel
theorem dX2_share_22 : decode cX2_share 22 = .ok (.getfield 15, 3) := by decide +kernel
theorem dX2_share_25 : decode cX2_share 25 = .ok (.iload_n 2, 1) := by decide +kernel
theorem dX2_share_26 : decode cX2_share 26 = .ok (.iaload, 1) := by decide +kernel
theorem dX2_share_27 : decode cX2_share 27 = .ok (.invokestatic 39, 3) := by decide +kernel
theorem dX2_share_30 : decode cX2_share 30 = .ok (.if_icmp .ge 7, 3) := by decide +kernel
theorem dX2_share_33 : decode cX2_share 33 = .ok (.iconst 1, 1) := by decide +kernel
theorem dX2_share_34 : decode cX2_share 34 = .ok (.goto 4, 3) := by decide +kernel
theorem dX2_share_37 : decode cX2_share 37 = .ok (.iconst 0, 1) := by decide +kernel
theorem dX2_share_38 : decode cX2_share 38 = .ok (.ireturn, 1) := by decide +kernel
set_option maxRecDepth 20000 in
theorem ggX2_moveByInsertion_X2_isGone : GoodIn wsX2_moveByInsertion wsX2_isGone := goodIn_r _ [9, 3, 13, 14, 15, 16] (by decide +kernel) (by decide +kernel)
set_option maxRecDepth 20000 in
theorem gX2_moveByInsertion_X2_isGone : GoodIn wsX2_moveByInsertion (wsV RX2 25 RX2 yX2_isGone wsX2_isGone) := goodIn_app (goodIn_of _ (by decide +kernel)) ggX2_moveByInsertion_X2_isGone
set_option maxRecDepth 20000 in
theorem ggX2_moveByInsertion_X2_behindInsertion : GoodIn wsX2_moveByInsertion wsX2_behindInsertion := goodIn_r _ [12] (by decide +kernel) (by decide +kernel)
set_option maxRecDepth 20000 in
theorem gX2_moveByInsertion_X2_behindInsertion : GoodIn wsX2_moveByInsertion (va_wsS RX2 42 yX2_behindInsertion wsX2_behindInsertion) := goodIn_app (goodIn_of _ (by decide +kernel)) ggX2_moveByInsertion_X2_behindInsertion
theorem dX2_moveByInsertion_0 : decode cX2_moveByInsertion 0 = .ok (.iconst 0, 1) := by decide +kernel
theorem dX2_moveByInsertion_1 : decode cX2_moveByInsertion 1 = .ok (.istore_n 3, 1) := by decide +kernel
theorem dX2_moveByInsertion_2 : decode cX2_moveByInsertion 2 = .ok (.iload_n 3, 1) := by decide +kernel
theorem dX2_moveByInsertion_3 : decode cX2_moveByInsertion 3 = .ok (.aload_n 0, 1) := by decide +kernel
theorem dX2_moveByInsertion_4 : decode cX2_moveByInsertion 4 = .ok (.getfield 21, 3) := by decide +kernel
theorem dX2_moveByInsertion_7 : decode cX2_moveByInsertion 7 = .ok (.if_icmp .ge 91, 3) := by decide +kernel
theorem dX2_moveByInsertion_10 : decode cX2_moveByInsertion 10 = .ok (.aload_n 0, 1) := by decide +kernel
theorem dX2_moveByInsertion_11 : decode cX2_moveByInsertion 11 = .ok (.iload_n 3, 1) := by decide +kernel
theorem dX2_moveByInsertion_12 : decode cX2_moveByInsertion 12 = .ok (.invokevirtual 25, 3) := by decide +kernel
theorem dX2_moveByInsertion_15 : decode cX2_moveByInsertion 15 = .ok (.ifCond .ne 77, 3) := by decide +kernel
theorem dX2_moveByInsertion_18 : decode cX2_moveByInsertion 18 = .ok (.aload_n 0, 1) := by decide +kernel
theorem dX2_moveByInsertion_19 : decode cX2_moveByInsertion 19 = .ok (.getfield 18, 3) := by decide +kernel
theorem dX2_moveByInsertion_22 : decode cX2_moveByInsertion 22 = .ok (.iload_n 3, 1) := by decide +kernel
theorem dX2_moveByInsertion_23 : decode cX2_moveByInsertion 23 = .ok (.iaload, 1) := by decide +kernel
theorem dX2_moveByInsertion_24 : decode cX2_moveByInsertion 24 = .ok (.iconst 1, 1) := by decide +kernel
theorem dX2_moveByInsertion_25 : decode cX2_moveByInsertion 25 = .ok (.iand, 1) := by decide +kernel
theorem dX2_moveByInsertion_26 : decode cX2_moveByInsertion 26 = .ok (.ifCond .eq 7, 3) := by decide +kernel
theorem dX2_moveByInsertion_29 : decode cX2_moveByInsertion 29 = .ok (.iconst 1, 1) := by decide +kernel
theorem dX2_moveByInsertion_30 : decode cX2_moveByInsertion 30 = .ok (.goto 4, 3) := by decide +kernel
theorem dX2_moveByInsertion_33 : decode cX2_moveByInsertion 33 = .ok (.iconst 0, 1) := by decide +kernel
theorem dX2_moveByInsertion_34 : decode cX2_moveByInsertion 34 = .ok (.istore 4, 2) := by decide +kernel
theorem dX2_moveByInsertion_36 : decode cX2_moveByInsertion 36 = .ok (.aload_n 0, 1) := by decide +kernel
theorem dX2_moveByInsertion_37 : decode cX2_moveByInsertion 37 = .ok (.getfield 18, 3) := by decide +kernel
theorem dX2_moveByInsertion_40 : decode cX2_moveByInsertion 40 = .ok (.iload_n 3, 1) := by decide +kernel
theorem dX2_moveByInsertion_41 : decode cX2_moveByInsertion 41 = .ok (.iaload, 1) := by decide +kernel
theorem dX2_moveByInsertion_42 : decode cX2_moveByInsertion 42 = .ok (.iconst 2, 1) := by decide +kernel
theorem dX2_moveByInsertion_43 : decode cX2_moveByInsertion 43 = .ok (.iand, 1) := by decide +kernel
theorem dX2_moveByInsertion_44 : decode cX2_moveByInsertion 44 = .ok (.ifCond .ne 7, 3) := by decide +kernel
theorem dX2_moveByInsertion_47 : decode cX2_moveByInsertion 47 = .ok (.iconst 1, 1) := by decide +kernel
theorem dX2_moveByInsertion_48 : decode cX2_moveByInsertion 48 = .ok (.goto 4, 3) := by decide +kernel
theorem dX2_moveByInsertion_51 : decode cX2_moveByInsertion 51 = .ok (.iconst 0, 1) := by decide +kernel
theorem dX2_moveByInsertion_52 : decode cX2_moveByInsertion 52 = .ok (.istore 5, 2) := by decide +kernel
theorem dX2_moveByInsertion_54 : decode cX2_moveByInsertion 54 = .ok (.aload_n 0, 1) := by decide +kernel
theorem dX2_moveByInsertion_55 : decode cX2_moveByInsertion 55 = .ok (.getfield 9, 3) := by decide +kernel
theorem dX2_moveByInsertion_58 : decode cX2_moveByInsertion 58 = .ok (.iload_n 3, 1) := by decide +kernel
theorem dX2_moveByInsertion_59 : decode cX2_moveByInsertion 59 = .ok (.aload_n 0, 1) := by decide +kernel
theorem dX2_moveByInsertion_60 : decode cX2_moveByInsertion 60 = .ok (.getfield 9, 3) := by decide +kernel
theorem dX2_moveByInsertion_63 : decode cX2_moveByInsertion 63 = .ok (.iload_n 3, 1) := by decide +kernel
theorem dX2_moveByInsertion_64 : decode cX2_moveByInsertion 64 = .ok (.iaload, 1) := by decide +kernel
theorem dX2_moveByInsertion_65 : decode cX2_moveByInsertion 65 = .ok (.iload_n 1, 1) := by decide +kernel
theorem dX2_moveByInsertion_66 : decode cX2_moveByInsertion 66 = .ok (.iload_n 2, 1) := by decide +kernel
theorem dX2_moveByInsertion_67 : decode cX2_moveByInsertion 67 = .ok (.iload 4, 2) := by decide +kernel
theorem dX2_moveByInsertion_69 : decode cX2_moveByInsertion 69 = .ok (.invokestatic 42, 3) := by decide +kernel
theorem dX2_moveByInsertion_72 : decode cX2_moveByInsertion 72 = .ok (.iastore, 1) := by decide +kernel
theorem dX2_moveByInsertion_73 : decode cX2_moveByInsertion 73 = .ok (.aload_n 0, 1) := by decide +kernel
theorem dX2_moveByInsertion_74 : decode cX2_moveByInsertion 74 = .ok (.getfield 15, 3) := by decide +kernel
theorem dX2_moveByInsertion_77 : decode cX2_moveByInsertion 77 = .ok (.iload_n 3, 1) := by decide +kernel
theorem dX2_moveByInsertion_78 : decode cX2_moveByInsertion 78 = .ok (.aload_n 0, 1) := by decide +kernel
theorem dX2_moveByInsertion_79 : decode cX2_moveByInsertion 79 = .ok (.getfield 15, 3) := by decide +kernel
theorem dX2_moveByInsertion_82 : decode cX2_moveByInsertion 82 = .ok (.iload_n 3, 1) := by decide +kernel
theorem dX2_moveByInsertion_83 : decode cX2_moveByInsertion 83 = .ok (.iaload, 1) := by decide +kernel
theorem dX2_moveByInsertion_84 : decode cX2_moveByInsertion 84 = .ok (.iload_n 1, 1) := by decide +kernel
theorem dX2_moveByInsertion_85 : decode cX2_moveByInsertion 85 = .ok (.iload_n 2, 1) := by decide +kernel
theorem dX2_moveByInsertion_86 : decode cX2_moveByInsertion 86 = .ok (.iload 5, 2) := by decide +kernel
theorem dX2_moveByInsertion_88 : decode cX2_moveByInsertion 88 = .ok (.invokestatic 42, 3) := by decide +kernel
theorem dX2_moveByInsertion_91 : decode cX2_moveByInsertion 91 = .ok (.iastore, 1) := by decide +kernel
theorem dX2_moveByInsertion_92 : decode cX2_moveByInsertion 92 = .ok (.iinc 3 1, 3) := by decide +kernel
theorem dX2_moveByInsertion_95 : decode cX2_moveByInsertion 95 = .ok (.goto (-93), 3) := by decide +kernel
theorem dX2_moveByInsertion_98 : decode cX2_moveByInsertion 98 = .ok (.return_, 1) := by decide +kernel
theorem dX2_behindInsertion_0 : decode cX2_behindInsertion 0 = .ok (.iload_n 0, 1) := by decide +kernel
theorem dX2_behindInsertion_1 : decode cX2_behindInsertion 1 = .ok (.iload_n 1, 1) := by decide +kernel
theorem dX2_behindInsertion_2 : decode cX2_behindInsertion 2 = .ok (.if_icmp .gt 12, 3) := by decide +kernel
theorem dX2_behindInsertion_5 : decode cX2_behindInsertion 5 = .ok (.iload_n 0, 1) := by decide +kernel
theorem dX2_behindInsertion_6 : decode cX2_behindInsertion 6 = .ok (.iload_n 1, 1) := by decide +kernel
theorem dX2_behindInsertion_7 : decode cX2_behindInsertion 7 = .ok (.if_icmp .ne 11, 3) := by decide +kernel
theorem dX2_behindInsertion_10 : decode cX2_behindInsertion 10 = .ok (.iload_n 3, 1) := by decide +kernel
theorem dX2_behindInsertion_11 : decode cX2_behindInsertion 11 = .ok (.ifCond .ne 7, 3) := by decide +kernel
theorem dX2_behindInsertion_14 : decode cX2_behindInsertion 14 = .ok (.iconst 1, 1) := by decide +kernel
theorem dX2_behindInsertion_15 : decode cX2_behindInsertion 15 = .ok (.goto 4, 3) := by decide +kernel
theorem dX2_behindInsertion_18 : decode cX2_behindInsertion 18 = .ok (.iconst 0, 1) := by decide +kernel
theorem dX2_behindInsertion_19 : decode cX2_behindInsertion 19 = .ok (.istore 4, 2) := by decide +kernel
theorem dX2_behindInsertion_21 : decode cX2_behindInsertion 21 = .ok (.iload 4, 2) := by decide +kernel
theorem dX2_behindInsertion_23 : decode cX2_behindInsertion 23 = .ok (.ifCond .eq 9, 3) := by decide +kernel
theorem dX2_behindInsertion_26 : decode cX2_behindInsertion 26 = .ok (.iload_n 0, 1) := by decide +kernel
theorem dX2_behindInsertion_27 : decode cX2_behindInsertion 27 = .ok (.iload_n 2, 1) := by decide +kernel
theorem dX2_behindInsertion_28 : decode cX2_behindInsertion 28 = .ok (.iadd, 1) := by decide +kernel
theorem dX2_behindInsertion_29 : decode cX2_behindInsertion 29 = .ok (.goto 4, 3) := by decide +kernel
theorem dX2_behindInsertion_32 : decode cX2_behindInsertion 32 = .ok (.iload_n 0, 1) := by decide +kernel
theorem dX2_behindInsertion_33 : decode cX2_behindInsertion 33 = .ok (.ireturn, 1) := by decide +kernel
set_option maxRecDepth 20000 in
theorem ggX2_moveByRemoval_X2_isGone : GoodIn wsX2_moveByRemoval wsX2_isGone := goodIn_r _ [8, 2, 19, 20, 21, 22] (by decide +kernel) (by decide +kernel)
set_option maxRecDepth 20000 in
theorem gX2_moveByRemoval_X2_isGone : GoodIn wsX2_moveByRemoval (wsV RX2 25 RX2 yX2_isGone wsX2_isGone) := goodIn_app (goodIn_of _ (by decide +kernel)) ggX2_moveByRemoval_X2_isGone
set_option maxRecDepth 20000 in
theorem ggX2_moveByRemoval_X2_behindRemoval : GoodIn wsX2_moveByRemoval wsX2_behindRemoval := goodIn_r _ [11, 12, 13, 14, 15] (by decide +kernel) (by decide +kernel)
set_option maxRecDepth 20000 in
theorem gX2_moveByRemoval_X2_behindRemoval : GoodIn wsX2_moveByRemoval (va_wsS RX2 46 yX2_behindRemoval wsX2_behindRemoval) := goodIn_app (goodIn_of _ (by decide +kernel)) ggX2_moveByRemoval_X2_behindRemoval
set_option maxRecDepth 20000 in
theorem ggX2_moveByRemoval_X4_bit : GoodIn wsX2_moveByRemoval wsX4_bit := goodIn_r _ [18] (by decide +kernel) (by decide +kernel)
set_option maxRecDepth 20000 in
theorem gX2_moveByRemoval_X4_bit_n29 : GoodIn wsX2_moveByRemoval (wsX4_bit) := ggX2_moveByRemoval_X4_bit
theorem dX2_moveByRemoval_0 : decode cX2_moveByRemoval 0 = .ok (.iconst 0, 1) := by decide +kernel
theorem dX2_moveByRemoval_1 : decode cX2_moveByRemoval 1 = .ok (.istore_n 3, 1) := by decide +kernel
theorem dX2_moveByRemoval_2 : decode cX2_moveByRemoval 2 = .ok (.iconst 0, 1) := by decide +kernel
theorem dX2_moveByRemoval_3 : decode cX2_moveByRemoval 3 = .ok (.istore 4, 2) := by decide +kernel
theorem dX2_moveByRemoval_5 : decode cX2_moveByRemoval 5 = .ok (.iload 4, 2) := by decide +kernel
theorem dX2_moveByRemoval_7 : decode cX2_moveByRemoval 7 = .ok (.aload_n 0, 1) := by decide +kernel
theorem dX2_moveByRemoval_8 : decode cX2_moveByRemoval 8 = .ok (.getfield 21, 3) := by decide +kernel
theorem dX2_moveByRemoval_11 : decode cX2_moveByRemoval 11 = .ok (.if_icmp .ge 97, 3) := by decide +kernel
theorem dX2_moveByRemoval_14 : decode cX2_moveByRemoval 14 = .ok (.aload_n 0, 1) := by decide +kernel
theorem dX2_moveByRemoval_15 : decode cX2_moveByRemoval 15 = .ok (.iload 4, 2) := by decide +kernel
theorem dX2_moveByRemoval_17 : decode cX2_moveByRemoval 17 = .ok (.invokevirtual 25, 3) := by decide +kernel
theorem dX2_moveByRemoval_20 : decode cX2_moveByRemoval 20 = .ok (.ifCond .ne 82, 3) := by decide +kernel
theorem dX2_moveByRemoval_23 : decode cX2_moveByRemoval 23 = .ok (.aload_n 0, 1) := by decide +kernel
theorem dX2_moveByRemoval_24 : decode cX2_moveByRemoval 24 = .ok (.getfield 9, 3) := by decide +kernel
theorem dX2_moveByRemoval_27 : decode cX2_moveByRemoval 27 = .ok (.iload 4, 2) := by decide +kernel
theorem dX2_moveByRemoval_29 : decode cX2_moveByRemoval 29 = .ok (.aload_n 0, 1) := by decide +kernel
theorem dX2_moveByRemoval_30 : decode cX2_moveByRemoval 30 = .ok (.getfield 9, 3) := by decide +kernel
theorem dX2_moveByRemoval_33 : decode cX2_moveByRemoval 33 = .ok (.iload 4, 2) := by decide +kernel
theorem dX2_moveByRemoval_35 : decode cX2_moveByRemoval 35 = .ok (.iaload, 1) := by decide +kernel
theorem dX2_moveByRemoval_36 : decode cX2_moveByRemoval 36 = .ok (.iload_n 1, 1) := by decide +kernel
theorem dX2_moveByRemoval_37 : decode cX2_moveByRemoval 37 = .ok (.iload_n 2, 1) := by decide +kernel
theorem dX2_moveByRemoval_38 : decode cX2_moveByRemoval 38 = .ok (.invokestatic 46, 3) := by decide +kernel
theorem dX2_moveByRemoval_41 : decode cX2_moveByRemoval 41 = .ok (.iastore, 1) := by decide +kernel
theorem dX2_moveByRemoval_42 : decode cX2_moveByRemoval 42 = .ok (.aload_n 0, 1) := by decide +kernel
theorem dX2_moveByRemoval_43 : decode cX2_moveByRemoval 43 = .ok (.getfield 15, 3) := by decide +kernel
theorem dX2_moveByRemoval_46 : decode cX2_moveByRemoval 46 = .ok (.iload 4, 2) := by decide +kernel
theorem dX2_moveByRemoval_48 : decode cX2_moveByRemoval 48 = .ok (.aload_n 0, 1) := by decide +kernel
theorem dX2_moveByRemoval_49 : decode cX2_moveByRemoval 49 = .ok (.getfield 15, 3) := by decide +kernel
theorem dX2_moveByRemoval_52 : decode cX2_moveByRemoval 52 = .ok (.iload 4, 2) := by decide +kernel
theorem dX2_moveByRemoval_54 : decode cX2_moveByRemoval 54 = .ok (.iaload, 1) := by decide +kernel
theorem dX2_moveByRemoval_55 : decode cX2_moveByRemoval 55 = .ok (.iload_n 1, 1) := by decide +kernel
theorem dX2_moveByRemoval_56 : decode cX2_moveByRemoval 56 = .ok (.iload_n 2, 1) := by decide +kernel
theorem dX2_moveByRemoval_57 : decode cX2_moveByRemoval 57 = .ok (.invokestatic 46, 3) := by decide +kernel
theorem dX2_moveByRemoval_60 : decode cX2_moveByRemoval 60 = .ok (.iastore, 1) := by decide +kernel
theorem dX2_moveByRemoval_61 : decode cX2_moveByRemoval 61 = .ok (.aload_n 0, 1) := by decide +kernel
theorem dX2_moveByRemoval_62 : decode cX2_moveByRemoval 62 = .ok (.getfield 9, 3) := by decide +kernel
theorem dX2_moveByRemoval_65 : decode cX2_moveByRemoval 65 = .ok (.iload 4, 2) := by decide +kernel
theorem dX2_moveByRemoval_67 : decode cX2_moveByRemoval 67 = .ok (.iaload, 1) := by decide +kernel
theorem dX2_moveByRemoval_68 : decode cX2_moveByRemoval 68 = .ok (.aload_n 0, 1) := by decide +kernel
theorem dX2_moveByRemoval_69 : decode cX2_moveByRemoval 69 = .ok (.getfield 15, 3) := by decide +kernel
theorem dX2_moveByRemoval_72 : decode cX2_moveByRemoval 72 = .ok (.iload 4, 2) := by decide +kernel
theorem dX2_moveByRemoval_74 : decode cX2_moveByRemoval 74 = .ok (.iaload, 1) := by decide +kernel
theorem dX2_moveByRemoval_75 : decode cX2_moveByRemoval 75 = .ok (.if_icmp .ne 27, 3) := by decide +kernel
theorem dX2_moveByRemoval_78 : decode cX2_moveByRemoval 78 = .ok (.aload_n 0, 1) := by decide +kernel
theorem dX2_moveByRemoval_79 : decode cX2_moveByRemoval 79 = .ok (.getfield 9, 3) := by decide +kernel
theorem dX2_moveByRemoval_82 : decode cX2_moveByRemoval 82 = .ok (.iload 4, 2) := by decide +kernel
theorem dX2_moveByRemoval_84 : decode cX2_moveByRemoval 84 = .ok (.iconst (-1), 1) := by decide +kernel
theorem dX2_moveByRemoval_85 : decode cX2_moveByRemoval 85 = .ok (.iastore, 1) := by decide +kernel
theorem dX2_moveByRemoval_86 : decode cX2_moveByRemoval 86 = .ok (.aload_n 0, 1) := by decide +kernel
theorem dX2_moveByRemoval_87 : decode cX2_moveByRemoval 87 = .ok (.getfield 15, 3) := by decide +kernel
theorem dX2_moveByRemoval_90 : decode cX2_moveByRemoval 90 = .ok (.iload 4, 2) := by decide +kernel
theorem dX2_moveByRemoval_92 : decode cX2_moveByRemoval 92 = .ok (.iconst (-1), 1) := by decide +kernel
theorem dX2_moveByRemoval_93 : decode cX2_moveByRemoval 93 = .ok (.iastore, 1) := by decide +kernel
theorem dX2_moveByRemoval_94 : decode cX2_moveByRemoval 94 = .ok (.iload_n 3, 1) := by decide +kernel
theorem dX2_moveByRemoval_95 : decode cX2_moveByRemoval 95 = .ok (.iload 4, 2) := by decide +kernel
theorem dX2_moveByRemoval_97 : decode cX2_moveByRemoval 97 = .ok (.invokestatic 29, 3) := by decide +kernel
theorem dX2_moveByRemoval_100 : decode cX2_moveByRemoval 100 = .ok (.ior, 1) := by decide +kernel
theorem dX2_moveByRemoval_101 : decode cX2_moveByRemoval 101 = .ok (.istore_n 3, 1) := by decide +kernel
theorem dX2_moveByRemoval_102 : decode cX2_moveByRemoval 102 = .ok (.iinc 4 1, 3) := by decide +kernel
theorem dX2_moveByRemoval_105 : decode cX2_moveByRemoval 105 = .ok (.goto (-100), 3) := by decide +kernel
theorem dX2_moveByRemoval_108 : decode cX2_moveByRemoval 108 = .ok (.iload_n 3, 1) := by decide +kernel
theorem dX2_moveByRemoval_109 : decode cX2_moveByRemoval 109 = .ok (.ireturn, 1) := by decide +kernel
theorem dX2_behindRemoval_0 : decode cX2_behindRemoval 0 = .ok (.iload_n 0, 1) := by decide +kernel
theorem dX2_behindRemoval_1 : decode cX2_behindRemoval 1 = .ok (.iload_n 1, 1) := by decide +kernel
theorem dX2_behindRemoval_2 : decode cX2_behindRemoval 2 = .ok (.if_icmp .le 13, 3) := by decide +kernel
theorem dX2_behindRemoval_5 : decode cX2_behindRemoval 5 = .ok (.iload_n 1, 1) := by decide +kernel
theorem dX2_behindRemoval_6 : decode cX2_behindRemoval 6 = .ok (.iload_n 0, 1) := by decide +kernel
theorem dX2_behindRemoval_7 : decode cX2_behindRemoval 7 = .ok (.iload_n 2, 1) := by decide +kernel
theorem dX2_behindRemoval_8 : decode cX2_behindRemoval 8 = .ok (.isub, 1) := by decide +kernel
theorem dX2_behindRemoval_9 : decode cX2_behindRemoval 9 = .ok (.invokestatic 33, 3) := by decide +kernel
theorem dX2_behindRemoval_12 : decode cX2_behindRemoval 12 = .ok (.goto 4, 3) := by decide +kernel
theorem dX2_behindRemoval_15 : decode cX2_behindRemoval 15 = .ok (.iload_n 0, 1) := by decide +kernel
theorem dX2_behindRemoval_16 : decode cX2_behindRemoval 16 = .ok (.ireturn, 1) := by decide +kernel
theorem dX3_init_0 : decode cX3_init 0 = .ok (.aload_n 0, 1) := by decide +kernel
theorem dX3_init_1 : decode cX3_init 1 = .ok (.invokespecial 3, 3) := by decide +kernel
theorem dX3_init_4 : decode cX3_init 4 = .ok (.aload_n 0, 1) := by decide +kernel
theorem dX3_init_5 : decode cX3_init 5 = .ok (.bipush 60, 2) := by decide +kernel
theorem dX3_init_7 : decode cX3_init 7 = .ok (.newarray .int, 2) := by decide +kernel
theorem dX3_init_9 : decode cX3_init 9 = .ok (.putfield 9, 3) := by decide +kernel
theorem dX3_init_12 : decode cX3_init 12 = .ok (.aload_n 0, 1) := by decide +kernel
theorem dX3_init_13 : decode cX3_init 13 = .ok (.bipush 60, 2) := by decide +kernel
theorem dX3_init_15 : decode cX3_init 15 = .ok (.newarray .int, 2) := by decide +kernel
theorem dX3_init_17 : decode cX3_init 17 = .ok (.putfield 15, 3) := by decide +kernel
theorem dX3_init_20 : decode cX3_init 20 = .ok (.aload_n 0, 1) := by decide +kernel
theorem dX3_init_21 : decode cX3_init 21 = .ok (.iconst 0, 1) := by decide +kernel
theorem dX3_init_22 : decode cX3_init 22 = .ok (.putfield 18, 3) := by decide +kernel
theorem dX3_init_25 : decode cX3_init 25 = .ok (.return_, 1) := by decide +kernel
theorem dX3_hasLetterBehind_0 : decode cX3_hasLetterBehind 0 = .ok (.iload_n 1, 1) := by decide +kernel
theorem dX3_hasLetterBehind_1 : decode cX3_hasLetterBehind 1 = .ok (.ifCond .lt 15, 3) := by decide +kernel
theorem dX3_hasLetterBehind_4 : decode cX3_hasLetterBehind 4 = .ok (.iload_n 1, 1) := by decide +kernel
theorem dX3_hasLetterBehind_5 : decode cX3_hasLetterBehind 5 = .ok (.aload_n 0, 1) := by decide +kernel
theorem dX3_hasLetterBehind_6 : decode cX3_hasLetterBehind 6 = .ok (.getfield 18, 3) := by decide +kernel
theorem dX3_hasLetterBehind_9 : decode cX3_hasLetterBehind 9 = .ok (.if_icmp .ge 7, 3) := by decide +kernel
theorem dX3_hasLetterBehind_12 : decode cX3_hasLetterBehind 12 = .ok (.iconst 1, 1) := by decide +kernel
theorem dX3_hasLetterBehind_13 : decode cX3_hasLetterBehind 13 = .ok (.goto 4, 3) := by decide +kernel
theorem dX3_hasLetterBehind_16 : decode cX3_hasLetterBehind 16 = .ok (.iconst 0, 1) := by decide +kernel
theorem dX3_hasLetterBehind_17 : decode cX3_hasLetterBehind 17 = .ok (.ireturn, 1) := by decide +kernel
set_option maxRecDepth 20000 in
theorem ggX3_letterBehind_X3_hasLetterBehind : GoodIn wsX3_letterBehind wsX3_hasLetterBehind := goodIn_r _ [6, 7, 8, 9, 10] (by decide +kernel) (by decide +kernel)
set_option maxRecDepth 20000 in
theorem gX3_letterBehind_X3_hasLetterBehind : GoodIn wsX3_letterBehind (wsV RX3 22 RX3 yX3_hasLetterBehind wsX3_hasLetterBehind) := goodIn_app (goodIn_of _ (by decide +kernel)) ggX3_letterBehind_X3_hasLetterBehind
theorem dX3_letterBehind_0 : decode cX3_letterBehind 0 = .ok (.aload_n 0, 1) := by decide +kernel
theorem dX3_letterBehind_1 : decode cX3_letterBehind 1 = .ok (.iload_n 1, 1) := by decide +kernel
theorem dX3_letterBehind_2 : decode cX3_letterBehind 2 = .ok (.invokevirtual 22, 3) := by decide +kernel
theorem dX3_letterBehind_5 : decode cX3_letterBehind 5 = .ok (.ifCond .eq 12, 3) := by decide +kernel
theorem dX3_letterBehind_8 : decode cX3_letterBehind 8 = .ok (.aload_n 0, 1) := by decide +kernel
theorem dX3_letterBehind_9 : decode cX3_letterBehind 9 = .ok (.getfield 9, 3) := by decide +kernel
theorem dX3_letterBehind_12 : decode cX3_letterBehind 12 = .ok (.iload_n 1, 1) := by decide +kernel
theorem dX3_letterBehind_13 : decode cX3_letterBehind 13 = .ok (.iaload, 1) := by decide +kernel
theorem dX3_letterBehind_14 : decode cX3_letterBehind 14 = .ok (.goto 4, 3) := by decide +kernel
theorem dX3_letterBehind_17 : decode cX3_letterBehind 17 = .ok (.iconst (-1), 1) := by decide +kernel
theorem dX3_letterBehind_18 : decode cX3_letterBehind 18 = .ok (.ireturn, 1) := by decide +kernel
set_option maxRecDepth 20000 in
theorem ggX3_marksBehind_X3_hasLetterBehind : GoodIn wsX3_marksBehind wsX3_hasLetterBehind := goodIn_r _ [6, 7, 8, 9, 10] (by decide +kernel) (by decide +kernel)
set_option maxRecDepth 20000 in
theorem gX3_marksBehind_X3_hasLetterBehind : GoodIn wsX3_marksBehind (wsV RX3 22 RX3 yX3_hasLetterBehind wsX3_hasLetterBehind) := goodIn_app (goodIn_of _ (by decide +kernel)) ggX3_marksBehind_X3_hasLetterBehind
theorem dX3_marksBehind_0 : decode cX3_marksBehind 0 = .ok (.aload_n 0, 1) := by decide +kernel
theorem dX3_marksBehind_1 : decode cX3_marksBehind 1 = .ok (.iload_n 1, 1) := by decide +kernel
theorem dX3_marksBehind_2 : decode cX3_marksBehind 2 = .ok (.invokevirtual 22, 3) := by decide +kernel
theorem dX3_marksBehind_5 : decode cX3_marksBehind 5 = .ok (.ifCond .eq 12, 3) := by decide +kernel
theorem dX3_marksBehind_8 : decode cX3_marksBehind 8 = .ok (.aload_n 0, 1) := by decide +kernel
theorem dX3_marksBehind_9 : decode cX3_marksBehind 9 = .ok (.getfield 15, 3) := by decide +kernel
theorem dX3_marksBehind_12 : decode cX3_marksBehind 12 = .ok (.iload_n 1, 1) := by decide +kernel
theorem dX3_marksBehind_13 : decode cX3_marksBehind 13 = .ok (.iaload, 1) := by decide +kernel
theorem dX3_marksBehind_14 : decode cX3_marksBehind 14 = .ok (.goto 4, 3) := by decide +kernel
theorem dX3_marksBehind_17 : decode cX3_marksBehind 17 = .ok (.iconst 0, 1) := by decide +kernel
theorem dX3_marksBehind_18 : decode cX3_marksBehind 18 = .ok (.ireturn, 1) := by decide +kernel
set_option maxRecDepth 20000 in
theorem ggX3_putIn_X3_moveTail : GoodIn wsX3_putIn wsX3_moveTail := goodIn_r _ [7, 8, 1, 9, 10, 11, 12, 2, 20, 21, 22] (by decide +kernel) (by decide +kernel)
set_option maxRecDepth 20000 in
theorem gX3_putIn_X3_moveTail : GoodIn wsX3_putIn (wsV RX3 26 RX3 yX3_moveTail wsX3_moveTail) := goodIn_app (goodIn_of _ (by decide +kernel)) ggX3_putIn_X3_moveTail
set_option maxRecDepth 20000 in
theorem ggX3_putIn_J7_fill_fda19 : GoodIn wsX3_putIn wsJ7_fill_fda19 := goodIn_r _ [16, 17, 18, 15, 19] (by decide +kernel) (by decide +kernel)
set_option maxRecDepth 20000 in
theorem gX3_putIn_J7_fill_fda19 : GoodIn wsX3_putIn (va_wsS RX3 30 yJ7_fill_fda19 wsJ7_fill_fda19) := goodIn_app (goodIn_of _ (by decide +kernel)) ggX3_putIn_J7_fill_fda19
theorem dX3_putIn_0 : decode cX3_putIn 0 = .ok (.aload_n 0, 1) := by decide +kernel
theorem dX3_putIn_1 : decode cX3_putIn 1 = .ok (.iload_n 1, 1) := by decide +kernel
theorem dX3_putIn_2 : decode cX3_putIn 2 = .ok (.iload_n 1, 1) := by decide +kernel
theorem dX3_putIn_3 : decode cX3_putIn 3 = .ok (.iload_n 3, 1) := by decide +kernel
theorem dX3_putIn_4 : decode cX3_putIn 4 = .ok (.iadd, 1) := by decide +kernel
theorem dX3_putIn_5 : decode cX3_putIn 5 = .ok (.invokevirtual 26, 3) := by decide +kernel
theorem dX3_putIn_8 : decode cX3_putIn 8 = .ok (.aload_n 0, 1) := by decide +kernel
theorem dX3_putIn_9 : decode cX3_putIn 9 = .ok (.getfield 9, 3) := by decide +kernel
theorem dX3_putIn_12 : decode cX3_putIn 12 = .ok (.iload_n 1, 1) := by decide +kernel
theorem dX3_putIn_13 : decode cX3_putIn 13 = .ok (.iload_n 1, 1) := by decide +kernel
theorem dX3_putIn_14 : decode cX3_putIn 14 = .ok (.iload_n 3, 1) := by decide +kernel
theorem dX3_putIn_15 : decode cX3_putIn 15 = .ok (.iadd, 1) := by decide +kernel
theorem dX3_putIn_16 : decode cX3_putIn 16 = .ok (.iload_n 2, 1) := by decide +kernel
theorem dX3_putIn_17 : decode cX3_putIn 17 = .ok (.invokestatic 30, 3) := by decide +kernel
theorem dX3_putIn_20 : decode cX3_putIn 20 = .ok (.aload_n 0, 1) := by decide +kernel
theorem dX3_putIn_21 : decode cX3_putIn 21 = .ok (.getfield 15, 3) := by decide +kernel
theorem dX3_putIn_24 : decode cX3_putIn 24 = .ok (.iload_n 1, 1) := by decide +kernel
theorem dX3_putIn_25 : decode cX3_putIn 25 = .ok (.iload_n 1, 1) := by decide +kernel
theorem dX3_putIn_26 : decode cX3_putIn 26 = .ok (.iload_n 3, 1) := by decide +kernel
theorem dX3_putIn_27 : decode cX3_putIn 27 = .ok (.iadd, 1) := by decide +kernel
theorem dX3_putIn_28 : decode cX3_putIn 28 = .ok (.iconst 0, 1) := by decide +kernel
theorem dX3_putIn_29 : decode cX3_putIn 29 = .ok (.invokestatic 30, 3) := by decide +kernel
theorem dX3_putIn_32 : decode cX3_putIn 32 = .ok (.return_, 1) := by decide +kernel
set_option maxRecDepth 20000 in
theorem ggX3_takeOut_X3_moveTail : GoodIn wsX3_takeOut wsX3_moveTail := goodIn_r _ [5, 6, 7, 8, 9, 10, 11, 12, 13, 14, 15] (by decide +kernel) (by decide +kernel)
set_option maxRecDepth 20000 in
theorem gX3_takeOut_X3_moveTail : GoodIn wsX3_takeOut (wsV RX3 26 RX3 yX3_moveTail wsX3_moveTail) := goodIn_app (goodIn_of _ (by decide +kernel)) ggX3_takeOut_X3_moveTail
theorem dX3_takeOut_0 : decode cX3_takeOut 0 = .ok (.aload_n 0, 1) := by decide +kernel
theorem dX3_takeOut_1 : decode cX3_takeOut 1 = .ok (.iload_n 1, 1) := by decide +kernel
theorem dX3_takeOut_2 : decode cX3_takeOut 2 = .ok (.iload_n 2, 1) := by decide +kernel
theorem dX3_takeOut_3 : decode cX3_takeOut 3 = .ok (.iadd, 1) := by decide +kernel
theorem dX3_takeOut_4 : decode cX3_takeOut 4 = .ok (.iload_n 1, 1) := by decide +kernel
theorem dX3_takeOut_5 : decode cX3_takeOut 5 = .ok (.invokevirtual 26, 3) := by decide +kernel
theorem dX3_takeOut_8 : decode cX3_takeOut 8 = .ok (.return_, 1) := by decide +kernel
theorem dX3_moveTail_0 : decode cX3_moveTail 0 = .ok (.aload_n 0, 1) := by decide +kernel
theorem dX3_moveTail_1 : decode cX3_moveTail 1 = .ok (.getfield 18, 3) := by decide +kernel
theorem dX3_moveTail_4 : decode cX3_moveTail 4 = .ok (.iload_n 1, 1) := by decide +kernel
theorem dX3_moveTail_5 : decode cX3_moveTail 5 = .ok (.isub, 1) := by decide +kernel
theorem dX3_moveTail_6 : decode cX3_moveTail 6 = .ok (.istore_n 3, 1) := by decide +kernel
theorem dX3_moveTail_7 : decode cX3_moveTail 7 = .ok (.aload_n 0, 1) := by decide +kernel
theorem dX3_moveTail_8 : decode cX3_moveTail 8 = .ok (.getfield 9, 3) := by decide +kernel
theorem dX3_moveTail_11 : decode cX3_moveTail 11 = .ok (.iload_n 1, 1) := by decide +kernel
theorem dX3_moveTail_12 : decode cX3_moveTail 12 = .ok (.aload_n 0, 1) := by decide +kernel
theorem dX3_moveTail_13 : decode cX3_moveTail 13 = .ok (.getfield 9, 3) := by decide +kernel
theorem dX3_moveTail_16 : decode cX3_moveTail 16 = .ok (.iload_n 2, 1) := by decide +kernel
theorem dX3_moveTail_17 : decode cX3_moveTail 17 = .ok (.iload_n 3, 1) := by decide +kernel
theorem dX3_moveTail_18 : decode cX3_moveTail 18 = .ok (.invokestatic 36, 3) := by decide +kernel
theorem dX3_moveTail_21 : decode cX3_moveTail 21 = .ok (.aload_n 0, 1) := by decide +kernel
theorem dX3_moveTail_22 : decode cX3_moveTail 22 = .ok (.getfield 15, 3) := by decide +kernel
theorem dX3_moveTail_25 : decode cX3_moveTail 25 = .ok (.iload_n 1, 1) := by decide +kernel
theorem dX3_moveTail_26 : decode cX3_moveTail 26 = .ok (.aload_n 0, 1) := by decide +kernel
theorem dX3_moveTail_27 : decode cX3_moveTail 27 = .ok (.getfield 15, 3) := by decide +kernel
theorem dX3_moveTail_30 : decode cX3_moveTail 30 = .ok (.iload_n 2, 1) := by decide +kernel
theorem dX3_moveTail_31 : decode cX3_moveTail 31 = .ok (.iload_n 3, 1) := by decide +kernel
theorem dX3_moveTail_32 : decode cX3_moveTail 32 = .ok (.invokestatic 36, 3) := by decide +kernel
theorem dX3_moveTail_35 : decode cX3_moveTail 35 = .ok (.aload_n 0, 1) := by decide +kernel
theorem dX3_moveTail_36 : decode cX3_moveTail 36 = .ok (.iload_n 2, 1) := by decide +kernel
theorem dX3_moveTail_37 : decode cX3_moveTail 37 = .ok (.iload_n 3, 1) := by decide +kernel
theorem dX3_moveTail_38 : decode cX3_moveTail 38 = .ok (.iadd, 1) := by decide +kernel
theorem dX3_moveTail_39 : decode cX3_moveTail 39 = .ok (.putfield 18, 3) := by decide +kernel
theorem dX3_moveTail_42 : decode cX3_moveTail 42 = .ok (.return_, 1) := by decide +kernel
theorem dX3_mark_0 : decode cX3_mark 0 = .ok (.iload_n 1, 1) := by decide +kernel
theorem dX3_mark_1 : decode cX3_mark 1 = .ok (.istore 4, 2) := by decide +kernel
theorem dX3_mark_3 : decode cX3_mark 3 = .ok (.iload 4, 2) := by decide +kernel
theorem dX3_mark_5 : decode cX3_mark 5 = .ok (.iload_n 2, 1) := by decide +kernel
theorem dX3_mark_6 : decode cX3_mark 6 = .ok (.if_icmp .ge 20, 3) := by decide +kernel
theorem dX3_mark_9 : decode cX3_mark 9 = .ok (.aload_n 0, 1) := by decide +kernel
theorem dX3_mark_10 : decode cX3_mark 10 = .ok (.getfield 15, 3) := by decide +kernel
theorem dX3_mark_13 : decode cX3_mark 13 = .ok (.iload 4, 2) := by decide +kernel
theorem dX3_mark_15 : decode cX3_mark 15 = .ok (.dup2, 1) := by decide +kernel
theorem dX3_mark_16 : decode cX3_mark 16 = .ok (.iaload, 1) := by decide +kernel
theorem dX3_mark_17 : decode cX3_mark 17 = .ok (.iload_n 3, 1) := by decide +kernel
theorem dX3_mark_18 : decode cX3_mark 18 = .ok (.ior, 1) := by decide +kernel
theorem dX3_mark_19 : decode cX3_mark 19 = .ok (.iastore, 1) := by decide +kernel
theorem dX3_mark_20 : decode cX3_mark 20 = .ok (.iinc 4 1, 3) := by decide +kernel
theorem dX3_mark_23 : decode cX3_mark 23 = .ok (.goto (-20), 3) := by decide +kernel
theorem dX3_mark_26 : decode cX3_mark 26 = .ok (.return_, 1) := by decide +kernel

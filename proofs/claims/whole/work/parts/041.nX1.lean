theorem dX1_init_0 : decode cX1_init 0 = .ok (.aload_n 0, 1) := by decide +kernel
theorem dX1_init_1 : decode cX1_init 1 = .ok (.invokespecial 3, 3) := by decide +kernel
theorem dX1_init_4 : decode cX1_init 4 = .ok (.aload_n 0, 1) := by decide +kernel
theorem dX1_init_5 : decode cX1_init 5 = .ok (.sipush 600, 3) := by decide +kernel
theorem dX1_init_8 : decode cX1_init 8 = .ok (.newarray .int, 2) := by decide +kernel
theorem dX1_init_10 : decode cX1_init 10 = .ok (.putfield 9, 3) := by decide +kernel
theorem dX1_init_13 : decode cX1_init 13 = .ok (.aload_n 0, 1) := by decide +kernel
theorem dX1_init_14 : decode cX1_init 14 = .ok (.sipush 600, 3) := by decide +kernel
theorem dX1_init_17 : decode cX1_init 17 = .ok (.newarray .int, 2) := by decide +kernel
theorem dX1_init_19 : decode cX1_init 19 = .ok (.putfield 15, 3) := by decide +kernel
theorem dX1_init_22 : decode cX1_init 22 = .ok (.return_, 1) := by decide +kernel
theorem dX1_isWithin_0 : decode cX1_isWithin 0 = .ok (.iload_n 1, 1) := by decide +kernel
theorem dX1_isWithin_1 : decode cX1_isWithin 1 = .ok (.ifCond .lt 15, 3) := by decide +kernel
theorem dX1_isWithin_4 : decode cX1_isWithin 4 = .ok (.iload_n 1, 1) := by decide +kernel
theorem dX1_isWithin_5 : decode cX1_isWithin 5 = .ok (.aload_n 0, 1) := by decide +kernel
theorem dX1_isWithin_6 : decode cX1_isWithin 6 = .ok (.getfield 18, 3) := by decide +kernel
theorem dX1_isWithin_9 : decode cX1_isWithin 9 = .ok (.if_icmp .ge 7, 3) := by decide +kernel
theorem dX1_isWithin_12 : decode cX1_isWithin 12 = .ok (.iconst 1, 1) := by decide +kernel
theorem dX1_isWithin_13 : decode cX1_isWithin 13 = .ok (.goto 4, 3) := by decide +kernel
theorem dX1_isWithin_16 : decode cX1_isWithin 16 = .ok (.iconst 0, 1) := by decide +kernel
theorem dX1_isWithin_17 : decode cX1_isWithin 17 = .ok (.ireturn, 1) := by decide +kernel
set_option maxRecDepth 20000 in
theorem ggX1_hasAt_X1_isWithin : GoodIn wsX1_hasAt wsX1_isWithin := goodIn_r _ [6, 7, 8, 9, 10] (by decide +kernel) (by decide +kernel)
set_option maxRecDepth 20000 in
theorem gX1_hasAt_X1_isWithin : GoodIn wsX1_hasAt (wsV RX1 22 RX1 yX1_isWithin wsX1_isWithin) := goodIn_app (goodIn_of _ (by decide +kernel)) ggX1_hasAt_X1_isWithin
theorem dX1_hasAt_0 : decode cX1_hasAt 0 = .ok (.aload_n 0, 1) := by decide +kernel
theorem dX1_hasAt_1 : decode cX1_hasAt 1 = .ok (.iload_n 1, 1) := by decide +kernel
theorem dX1_hasAt_2 : decode cX1_hasAt 2 = .ok (.invokevirtual 22, 3) := by decide +kernel
theorem dX1_hasAt_5 : decode cX1_hasAt 5 = .ok (.ifCond .eq 17, 3) := by decide +kernel
theorem dX1_hasAt_8 : decode cX1_hasAt 8 = .ok (.aload_n 0, 1) := by decide +kernel
theorem dX1_hasAt_9 : decode cX1_hasAt 9 = .ok (.getfield 9, 3) := by decide +kernel
theorem dX1_hasAt_12 : decode cX1_hasAt 12 = .ok (.iload_n 1, 1) := by decide +kernel
theorem dX1_hasAt_13 : decode cX1_hasAt 13 = .ok (.iaload, 1) := by decide +kernel
theorem dX1_hasAt_14 : decode cX1_hasAt 14 = .ok (.iload_n 2, 1) := by decide +kernel
theorem dX1_hasAt_15 : decode cX1_hasAt 15 = .ok (.if_icmp .ne 7, 3) := by decide +kernel
theorem dX1_hasAt_18 : decode cX1_hasAt 18 = .ok (.iconst 1, 1) := by decide +kernel
theorem dX1_hasAt_19 : decode cX1_hasAt 19 = .ok (.goto 4, 3) := by decide +kernel
theorem dX1_hasAt_22 : decode cX1_hasAt 22 = .ok (.iconst 0, 1) := by decide +kernel
theorem dX1_hasAt_23 : decode cX1_hasAt 23 = .ok (.ireturn, 1) := by decide +kernel
theorem dX1_countBelow_0 : decode cX1_countBelow 0 = .ok (.iconst 0, 1) := by decide +kernel
theorem dX1_countBelow_1 : decode cX1_countBelow 1 = .ok (.istore_n 2, 1) := by decide +kernel
theorem dX1_countBelow_2 : decode cX1_countBelow 2 = .ok (.iload_n 2, 1) := by decide +kernel
theorem dX1_countBelow_3 : decode cX1_countBelow 3 = .ok (.aload_n 0, 1) := by decide +kernel
theorem dX1_countBelow_4 : decode cX1_countBelow 4 = .ok (.getfield 18, 3) := by decide +kernel
theorem dX1_countBelow_7 : decode cX1_countBelow 7 = .ok (.if_icmp .ge 19, 3) := by decide +kernel
theorem dX1_countBelow_10 : decode cX1_countBelow 10 = .ok (.aload_n 0, 1) := by decide +kernel
theorem dX1_countBelow_11 : decode cX1_countBelow 11 = .ok (.getfield 9, 3) := by decide +kernel
theorem dX1_countBelow_14 : decode cX1_countBelow 14 = .ok (.iload_n 2, 1) := by decide +kernel
theorem dX1_countBelow_15 : decode cX1_countBelow 15 = .ok (.iaload, 1) := by decide +kernel
theorem dX1_countBelow_16 : decode cX1_countBelow 16 = .ok (.iload_n 1, 1) := by decide +kernel
theorem dX1_countBelow_17 : decode cX1_countBelow 17 = .ok (.if_icmp .ge 9, 3) := by decide +kernel
theorem dX1_countBelow_20 : decode cX1_countBelow 20 = .ok (.iinc 2 1, 3) := by decide +kernel
theorem dX1_countBelow_23 : decode cX1_countBelow 23 = .ok (.goto (-21), 3) := by decide +kernel
theorem dX1_countBelow_26 : decode cX1_countBelow 26 = .ok (.iload_n 2, 1) := by decide +kernel
theorem dX1_countBelow_27 : decode cX1_countBelow 27 = .ok (.ireturn, 1) := by decide +kernel
set_option maxRecDepth 20000 in
theorem ggX1_countNotAbove_X1_countBelow : GoodIn wsX1_countNotAbove wsX1_countBelow := goodIn_r _ [5, 6, 7, 16, 17, 18] (by decide +kernel) (by decide +kernel)
set_option maxRecDepth 20000 in
theorem gX1_countNotAbove_X1_countBelow : GoodIn wsX1_countNotAbove (wsV RX1 26 RX1 yX1_countBelow wsX1_countBelow) := goodIn_app (goodIn_of _ (by decide +kernel)) ggX1_countNotAbove_X1_countBelow
set_option maxRecDepth 20000 in
theorem ggX1_countNotAbove_X1_hasAt : GoodIn wsX1_countNotAbove wsX1_hasAt := goodIn_r _ [11, 7, 12, 13, 14, 4, 15, 6, 16, 17, 18] (by decide +kernel) (by decide +kernel)
set_option maxRecDepth 20000 in
theorem gX1_countNotAbove_X1_hasAt : GoodIn wsX1_countNotAbove (wsV RX1 30 RX1 yX1_hasAt wsX1_hasAt) := goodIn_app (goodIn_of _ (by decide +kernel)) ggX1_countNotAbove_X1_hasAt
theorem dX1_countNotAbove_0 : decode cX1_countNotAbove 0 = .ok (.aload_n 0, 1) := by decide +kernel
theorem dX1_countNotAbove_1 : decode cX1_countNotAbove 1 = .ok (.iload_n 1, 1) := by decide +kernel
theorem dX1_countNotAbove_2 : decode cX1_countNotAbove 2 = .ok (.invokevirtual 26, 3) := by decide +kernel
theorem dX1_countNotAbove_5 : decode cX1_countNotAbove 5 = .ok (.istore_n 2, 1) := by decide +kernel
theorem dX1_countNotAbove_6 : decode cX1_countNotAbove 6 = .ok (.aload_n 0, 1) := by decide +kernel
theorem dX1_countNotAbove_7 : decode cX1_countNotAbove 7 = .ok (.iload_n 2, 1) := by decide +kernel
theorem dX1_countNotAbove_8 : decode cX1_countNotAbove 8 = .ok (.iload_n 1, 1) := by decide +kernel
theorem dX1_countNotAbove_9 : decode cX1_countNotAbove 9 = .ok (.invokevirtual 30, 3) := by decide +kernel
theorem dX1_countNotAbove_12 : decode cX1_countNotAbove 12 = .ok (.ifCond .eq 9, 3) := by decide +kernel
theorem dX1_countNotAbove_15 : decode cX1_countNotAbove 15 = .ok (.iload_n 2, 1) := by decide +kernel
theorem dX1_countNotAbove_16 : decode cX1_countNotAbove 16 = .ok (.iconst 1, 1) := by decide +kernel
theorem dX1_countNotAbove_17 : decode cX1_countNotAbove 17 = .ok (.iadd, 1) := by decide +kernel
theorem dX1_countNotAbove_18 : decode cX1_countNotAbove 18 = .ok (.goto 4, 3) := by decide +kernel
theorem dX1_countNotAbove_21 : decode cX1_countNotAbove 21 = .ok (.iload_n 2, 1) := by decide +kernel
theorem dX1_countNotAbove_22 : decode cX1_countNotAbove 22 = .ok (.ireturn, 1) := by decide +kernel
set_option maxRecDepth 20000 in
theorem ggX1_nearest_X1_countBelow : GoodIn wsX1_nearest wsX1_countBelow := goodIn_r _ [5, 6, 7, 20, 21, 22] (by decide +kernel) (by decide +kernel)
set_option maxRecDepth 20000 in
theorem gX1_nearest_X1_countBelow : GoodIn wsX1_nearest (wsV RX1 26 RX1 yX1_countBelow wsX1_countBelow) := goodIn_app (goodIn_of _ (by decide +kernel)) ggX1_nearest_X1_countBelow
set_option maxRecDepth 20000 in
theorem ggX1_nearest_X1_countNotAbove : GoodIn wsX1_nearest wsX1_countNotAbove := goodIn_r _ [11, 1, 2, 3, 4, 5, 6, 7, 12, 13, 14, 15, 16, 17, 18, 19, 20, 21, 22] (by decide +kernel) (by decide +kernel)
set_option maxRecDepth 20000 in
theorem gX1_nearest_X1_countNotAbove : GoodIn wsX1_nearest (wsV RX1 34 RX1 yX1_countNotAbove wsX1_countNotAbove) := goodIn_app (goodIn_of _ (by decide +kernel)) ggX1_nearest_X1_countNotAbove
theorem dX1_nearest_0 : decode cX1_nearest 0 = .ok (.iload_n 2, 1) := by decide +kernel
theorem dX1_nearest_1 : decode cX1_nearest 1 = .ok (.ifCond .eq 11, 3) := by decide +kernel
theorem dX1_nearest_4 : decode cX1_nearest 4 = .ok (.aload_n 0, 1) := by decide +kernel
theorem dX1_nearest_5 : decode cX1_nearest 5 = .ok (.iload_n 1, 1) := by decide +kernel
theorem dX1_nearest_6 : decode cX1_nearest 6 = .ok (.invokevirtual 26, 3) := by decide +kernel
theorem dX1_nearest_9 : decode cX1_nearest 9 = .ok (.goto 10, 3) := by decide +kernel
theorem dX1_nearest_12 : decode cX1_nearest 12 = .ok (.aload_n 0, 1) := by decide +kernel
theorem dX1_nearest_13 : decode cX1_nearest 13 = .ok (.iload_n 1, 1) := by decide +kernel
theorem dX1_nearest_14 : decode cX1_nearest 14 = .ok (.invokevirtual 34, 3) := by decide +kernel
theorem dX1_nearest_17 : decode cX1_nearest 17 = .ok (.iconst 1, 1) := by decide +kernel
theorem dX1_nearest_18 : decode cX1_nearest 18 = .ok (.isub, 1) := by decide +kernel
theorem dX1_nearest_19 : decode cX1_nearest 19 = .ok (.ireturn, 1) := by decide +kernel
theorem dX1_insertAt_0 : decode cX1_insertAt 0 = .ok (.aload_n 0, 1) := by decide +kernel
theorem dX1_insertAt_1 : decode cX1_insertAt 1 = .ok (.getfield 9, 3) := by decide +kernel
theorem dX1_insertAt_4 : decode cX1_insertAt 4 = .ok (.iload_n 1, 1) := by decide +kernel
theorem dX1_insertAt_5 : decode cX1_insertAt 5 = .ok (.aload_n 0, 1) := by decide +kernel
theorem dX1_insertAt_6 : decode cX1_insertAt 6 = .ok (.getfield 9, 3) := by decide +kernel
theorem dX1_insertAt_9 : decode cX1_insertAt 9 = .ok (.iload_n 1, 1) := by decide +kernel
theorem dX1_insertAt_10 : decode cX1_insertAt 10 = .ok (.iconst 1, 1) := by decide +kernel
theorem dX1_insertAt_11 : decode cX1_insertAt 11 = .ok (.iadd, 1) := by decide +kernel
theorem dX1_insertAt_12 : decode cX1_insertAt 12 = .ok (.aload_n 0, 1) := by decide +kernel
theorem dX1_insertAt_13 : decode cX1_insertAt 13 = .ok (.getfield 18, 3) := by decide +kernel
theorem dX1_insertAt_16 : decode cX1_insertAt 16 = .ok (.iload_n 1, 1) := by decide +kernel
theorem dX1_insertAt_17 : decode cX1_insertAt 17 = .ok (.isub, 1) := by decide +kernel
theorem dX1_insertAt_18 : decode cX1_insertAt 18 = .ok (.invokestatic 37, 3) := by decide +kernel
theorem dX1_insertAt_21 : decode cX1_insertAt 21 = .ok (.aload_n 0, 1) := by decide +kernel
theorem dX1_insertAt_22 : decode cX1_insertAt 22 = .ok (.getfield 15, 3) := by decide +kernel
theorem dX1_insertAt_25 : decode cX1_insertAt 25 = .ok (.iload_n 1, 1) := by decide +kernel
theorem dX1_insertAt_26 : decode cX1_insertAt 26 = .ok (.aload_n 0, 1) := by decide +kernel
theorem dX1_insertAt_27 : decode cX1_insertAt 27 = .ok (.getfield 15, 3) := by decide +kernel
theorem dX1_insertAt_30 : decode cX1_insertAt 30 = .ok (.iload_n 1, 1) := by decide +kernel
theorem dX1_insertAt_31 : decode cX1_insertAt 31 = .ok (.iconst 1, 1) := by decide +kernel
theorem dX1_insertAt_32 : decode cX1_insertAt 32 = .ok (.iadd, 1) := by decide +kernel
theorem dX1_insertAt_33 : decode cX1_insertAt 33 = .ok (.aload_n 0, 1) := by decide +kernel
theorem dX1_insertAt_34 : decode cX1_insertAt 34 = .ok (.getfield 18, 3) := by decide +kernel
theorem dX1_insertAt_37 : decode cX1_insertAt 37 = .ok (.iload_n 1, 1) := by decide +kernel
theorem dX1_insertAt_38 : decode cX1_insertAt 38 = .ok (.isub, 1) := by decide +kernel
theorem dX1_insertAt_39 : decode cX1_insertAt 39 = .ok (.invokestatic 37, 3) := by decide +kernel
theorem dX1_insertAt_42 : decode cX1_insertAt 42 = .ok (.aload_n 0, 1) := by decide +kernel
theorem dX1_insertAt_43 : decode cX1_insertAt 43 = .ok (.getfield 9, 3) := by decide +kernel
theorem dX1_insertAt_46 : decode cX1_insertAt 46 = .ok (.iload_n 1, 1) := by decide +kernel
theorem dX1_insertAt_47 : decode cX1_insertAt 47 = .ok (.iload_n 2, 1) := by decide +kernel
theorem dX1_insertAt_48 : decode cX1_insertAt 48 = .ok (.iastore, 1) := by decide +kernel
theorem dX1_insertAt_49 : decode cX1_insertAt 49 = .ok (.aload_n 0, 1) := by decide +kernel
theorem dX1_insertAt_50 : decode cX1_insertAt 50 = .ok (.getfield 15, 3) := by decide +kernel
theorem dX1_insertAt_53 : decode cX1_insertAt 53 = .ok (.iload_n 1, 1) := by decide +kernel
theorem dX1_insertAt_54 : decode cX1_insertAt 54 = .ok (.iload_n 3, 1) := by decide +kernel
theorem dX1_insertAt_55 : decode cX1_insertAt 55 = .ok (.iastore, 1) := by decide +kernel
theorem dX1_insertAt_56 : decode cX1_insertAt 56 = .ok (.aload_n 0, 1) := by decide +kernel
theorem dX1_insertAt_57 : decode cX1_insertAt 57 = .ok (.dup, 1) := by decide +kernel
theorem dX1_insertAt_58 : decode cX1_insertAt 58 = .ok (.getfield 18, 3) := by decide +kernel
theorem dX1_insertAt_61 : decode cX1_insertAt 61 = .ok (.iconst 1, 1) := by decide +kernel
theorem dX1_insertAt_62 : decode cX1_insertAt 62 = .ok (.iadd, 1) := by decide +kernel
theorem dX1_insertAt_63 : decode cX1_insertAt 63 = .ok (.putfield 18, 3) := by decide +kernel
theorem dX1_insertAt_66 : decode cX1_insertAt 66 = .ok (.return_, 1) := by decide +kernel
theorem dX1_dropBetween_0 : decode cX1_dropBetween 0 = .ok (.aload_n 0, 1) := by decide +kernel
theorem dX1_dropBetween_1 : decode cX1_dropBetween 1 = .ok (.getfield 9, 3) := by decide +kernel
theorem dX1_dropBetween_4 : decode cX1_dropBetween 4 = .ok (.iload_n 2, 1) := by decide +kernel
theorem dX1_dropBetween_5 : decode cX1_dropBetween 5 = .ok (.aload_n 0, 1) := by decide +kernel
theorem dX1_dropBetween_6 : decode cX1_dropBetween 6 = .ok (.getfield 9, 3) := by decide +kernel
theorem dX1_dropBetween_9 : decode cX1_dropBetween 9 = .ok (.iload_n 1, 1) := by decide +kernel
theorem dX1_dropBetween_10 : decode cX1_dropBetween 10 = .ok (.aload_n 0, 1) := by decide +kernel
theorem dX1_dropBetween_11 : decode cX1_dropBetween 11 = .ok (.getfield 18, 3) := by decide +kernel
theorem dX1_dropBetween_14 : decode cX1_dropBetween 14 = .ok (.iload_n 2, 1) := by decide +kernel
theorem dX1_dropBetween_15 : decode cX1_dropBetween 15 = .ok (.isub, 1) := by decide +kernel
theorem dX1_dropBetween_16 : decode cX1_dropBetween 16 = .ok (.invokestatic 37, 3) := by decide +kernel
theorem dX1_dropBetween_19 : decode cX1_dropBetween 19 = .ok (.aload_n 0, 1) := by decide +kernel
theorem dX1_dropBetween_20 : decode cX1_dropBetween 20 = .ok (.getfield 15, 3) := by decide +kernel
theorem dX1_dropBetween_23 : decode cX1_dropBetween 23 = .ok (.iload_n 2, 1) := by decide +kernel
theorem dX1_dropBetween_24 : decode cX1_dropBetween 24 = .ok (.aload_n 0, 1) := by decide +kernel
theorem dX1_dropBetween_25 : decode cX1_dropBetween 25 = .ok (.getfield 15, 3) := by decide +kernel
theorem dX1_dropBetween_28 : decode cX1_dropBetween 28 = .ok (.iload_n 1, 1) := by decide +kernel
theorem dX1_dropBetween_29 : decode cX1_dropBetween 29 = .ok (.aload_n 0, 1) := by decide +kernel
theorem dX1_dropBetween_30 : decode cX1_dropBetween 30 = .ok (.getfield 18, 3) := by decide +kernel
theorem dX1_dropBetween_33 : decode cX1_dropBetween 33 = .ok (.iload_n 2, 1) := by decide +kernel
theorem dX1_dropBetween_34 : decode cX1_dropBetween 34 = .ok (.isub, 1) := by decide +kernel
theorem dX1_dropBetween_35 : decode cX1_dropBetween 35 = .ok (.invokestatic 37, 3) := by decide +kernel
theorem dX1_dropBetween_38 : decode cX1_dropBetween 38 = .ok (.aload_n 0, 1) := by decide +kernel
theorem dX1_dropBetween_39 : decode cX1_dropBetween 39 = .ok (.dup, 1) := by decide +kernel
theorem dX1_dropBetween_40 : decode cX1_dropBetween 40 = .ok (.getfield 18, 3) := by decide +kernel
theorem dX1_dropBetween_43 : decode cX1_dropBetween 43 = .ok (.iload_n 2, 1) := by decide +kernel
theorem dX1_dropBetween_44 : decode cX1_dropBetween 44 = .ok (.iload_n 1, 1) := by decide +kernel
theorem dX1_dropBetween_45 : decode cX1_dropBetween 45 = .ok (.isub, 1) := by decide +kernel
theorem dX1_dropBetween_46 : decode cX1_dropBetween 46 = .ok (.isub, 1) := by decide +kernel
theorem dX1_dropBetween_47 : decode cX1_dropBetween 47 = .ok (.putfield 18, 3) := by decide +kernel
theorem dX1_dropBetween_50 : decode cX1_dropBetween 50 = .ok (.return_, 1) := by decide +kernel
theorem dX1_fill_0 : decode cX1_fill 0 = .ok (.iconst 0, 1) := by decide +kernel
theorem dX1_fill_1 : decode cX1_fill 1 = .ok (.istore 6, 2) := by decide +kernel
theorem dX1_fill_3 : decode cX1_fill 3 = .ok (.iload 6, 2) := by decide +kernel
theorem dX1_fill_5 : decode cX1_fill 5 = .ok (.iload_n 3, 1) := by decide +kernel
theorem dX1_fill_6 : decode cX1_fill 6 = .ok (.if_icmp .ge 41, 3) := by decide +kernel
theorem dX1_fill_9 : decode cX1_fill 9 = .ok (.iload_n 1, 1) := by decide +kernel
theorem dX1_fill_10 : decode cX1_fill 10 = .ok (.iload_n 2, 1) := by decide +kernel
theorem dX1_fill_11 : decode cX1_fill 11 = .ok (.iload 6, 2) := by decide +kernel
theorem dX1_fill_13 : decode cX1_fill 13 = .ok (.imul, 1) := by decide +kernel
theorem dX1_fill_14 : decode cX1_fill 14 = .ok (.iadd, 1) := by decide +kernel
theorem dX1_fill_15 : decode cX1_fill 15 = .ok (.istore 7, 2) := by decide +kernel
theorem dX1_fill_17 : decode cX1_fill 17 = .ok (.aload_n 0, 1) := by decide +kernel
theorem dX1_fill_18 : decode cX1_fill 18 = .ok (.getfield 9, 3) := by decide +kernel
theorem dX1_fill_21 : decode cX1_fill 21 = .ok (.iload 6, 2) := by decide +kernel
theorem dX1_fill_23 : decode cX1_fill 23 = .ok (.iload 7, 2) := by decide +kernel
theorem dX1_fill_25 : decode cX1_fill 25 = .ok (.iastore, 1) := by decide +kernel
theorem dX1_fill_26 : decode cX1_fill 26 = .ok (.aload_n 0, 1) := by decide +kernel
theorem dX1_fill_27 : decode cX1_fill 27 = .ok (.getfield 15, 3) := by decide +kernel
theorem dX1_fill_30 : decode cX1_fill 30 = .ok (.iload 6, 2) := by decide +kernel
theorem dX1_fill_32 : decode cX1_fill 32 = .ok (.iload 4, 2) := by decide +kernel
theorem dX1_fill_34 : decode cX1_fill 34 = .ok (.iload 7, 2) := by decide +kernel
theorem dX1_fill_36 : decode cX1_fill 36 = .ok (.imul, 1) := by decide +kernel
theorem dX1_fill_37 : decode cX1_fill 37 = .ok (.iload 5, 2) := by decide +kernel
theorem dX1_fill_39 : decode cX1_fill 39 = .ok (.iadd, 1) := by decide +kernel
theorem dX1_fill_40 : decode cX1_fill 40 = .ok (.iastore, 1) := by decide +kernel
theorem dX1_fill_41 : decode cX1_fill 41 = .ok (.iinc 6 1, 3) := by decide +kernel
theorem dX1_fill_44 : decode cX1_fill 44 = .ok (.goto (-41), 3) := by decide +kernel
theorem dX1_fill_47 : decode cX1_fill 47 = .ok (.aload_n 0, 1) := by decide +kernel
theorem dX1_fill_48 : decode cX1_fill 48 = .ok (.iload_n 3, 1) := by decide +kernel
theorem dX1_fill_49 : decode cX1_fill 49 = .ok (.putfield 18, 3) := by decide +kernel
theorem dX1_fill_52 : decode cX1_fill 52 = .ok (.return_, 1) := by decide +kernel
theorem dX1_copyFrom_0 : decode cX1_copyFrom 0 = .ok (.aload_n 1, 1) := by decide +kernel
theorem dX1_copyFrom_1 : decode cX1_copyFrom 1 = .ok (.getfield 9, 3) := by decide +kernel
theorem dX1_copyFrom_4 : decode cX1_copyFrom 4 = .ok (.iconst 0, 1) := by decide +kernel
theorem dX1_copyFrom_5 : decode cX1_copyFrom 5 = .ok (.aload_n 0, 1) := by decide +kernel
theorem dX1_copyFrom_6 : decode cX1_copyFrom 6 = .ok (.getfield 9, 3) := by decide +kernel
theorem dX1_copyFrom_9 : decode cX1_copyFrom 9 = .ok (.iconst 0, 1) := by decide +kernel
theorem dX1_copyFrom_10 : decode cX1_copyFrom 10 = .ok (.aload_n 1, 1) := by decide +kernel
theorem dX1_copyFrom_11 : decode cX1_copyFrom 11 = .ok (.getfield 18, 3) := by decide +kernel
theorem dX1_copyFrom_14 : decode cX1_copyFrom 14 = .ok (.invokestatic 37, 3) := by decide +kernel
theorem dX1_copyFrom_17 : decode cX1_copyFrom 17 = .ok (.aload_n 1, 1) := by decide +kernel
theorem dX1_copyFrom_18 : decode cX1_copyFrom 18 = .ok (.getfield 15, 3) := by decide +kernel
theorem dX1_copyFrom_21 : decode cX1_copyFrom 21 = .ok (.iconst 0, 1) := by decide +kernel
theorem dX1_copyFrom_22 : decode cX1_copyFrom 22 = .ok (.aload_n 0, 1) := by decide +kernel
theorem dX1_copyFrom_23 : decode cX1_copyFrom 23 = .ok (.getfield 15, 3) := by decide +kernel
theorem dX1_copyFrom_26 : decode cX1_copyFrom 26 = .ok (.iconst 0, 1) := by decide +kernel
theorem dX1_copyFrom_27 : decode cX1_copyFrom 27 = .ok (.aload_n 1, 1) := by decide +kernel
theorem dX1_copyFrom_28 : decode cX1_copyFrom 28 = .ok (.getfield 18, 3) := by decide +kernel
theorem dX1_copyFrom_31 : decode cX1_copyFrom 31 = .ok (.invokestatic 37, 3) := by decide +kernel
theorem dX1_copyFrom_34 : decode cX1_copyFrom 34 = .ok (.aload_n 0, 1) := by decide +kernel
theorem dX1_copyFrom_35 : decode cX1_copyFrom 35 = .ok (.aload_n 1, 1) := by decide +kernel
theorem dX1_copyFrom_36 : decode cX1_copyFrom 36 = .ok (.getfield 18, 3) := by decide +kernel
theorem dX1_copyFrom_39 : decode cX1_copyFrom 39 = .ok (.putfield 18, 3) := by decide +kernel
theorem dX1_copyFrom_42 : decode cX1_copyFrom 42 = .ok (.return_, 1) := by decide +kernel
set_option maxRecDepth 20000 in
theorem ggX1_countShared_X1_hasAt : GoodIn wsX1_countShared wsX1_hasAt := goodIn_r _ [8, 2, 9, 10, 11, 7, 12, 1, 13, 14, 15] (by decide +kernel) (by decide +kernel)
set_option maxRecDepth 20000 in
theorem gX1_countShared_X1_hasAt : GoodIn wsX1_countShared (wsV RX1 30 RX1 yX1_hasAt wsX1_hasAt) := goodIn_app (goodIn_of _ (by decide +kernel)) ggX1_countShared_X1_hasAt
theorem dX1_countShared_0 : decode cX1_countShared 0 = .ok (.iconst 0, 1) := by decide +kernel
theorem dX1_countShared_1 : decode cX1_countShared 1 = .ok (.istore_n 3, 1) := by decide +kernel
theorem dX1_countShared_2 : decode cX1_countShared 2 = .ok (.iconst 0, 1) := by decide +kernel
theorem dX1_countShared_3 : decode cX1_countShared 3 = .ok (.istore 4, 2) := by decide +kernel
theorem dX1_countShared_5 : decode cX1_countShared 5 = .ok (.iconst 0, 1) := by decide +kernel
theorem dX1_countShared_6 : decode cX1_countShared 6 = .ok (.istore 5, 2) := by decide +kernel
theorem dX1_countShared_8 : decode cX1_countShared 8 = .ok (.iload 5, 2) := by decide +kernel
theorem dX1_countShared_10 : decode cX1_countShared 10 = .ok (.aload_n 0, 1) := by decide +kernel
theorem dX1_countShared_11 : decode cX1_countShared 11 = .ok (.getfield 18, 3) := by decide +kernel
theorem dX1_countShared_14 : decode cX1_countShared 14 = .ok (.if_icmp .ge 81, 3) := by decide +kernel
theorem dX1_countShared_17 : decode cX1_countShared 17 = .ok (.iload 4, 2) := by decide +kernel
theorem dX1_countShared_19 : decode cX1_countShared 19 = .ok (.aload_n 1, 1) := by decide +kernel
theorem dX1_countShared_20 : decode cX1_countShared 20 = .ok (.getfield 18, 3) := by decide +kernel
theorem dX1_countShared_23 : decode cX1_countShared 23 = .ok (.if_icmp .ge 26, 3) := by decide +kernel
theorem dX1_countShared_26 : decode cX1_countShared 26 = .ok (.aload_n 1, 1) := by decide +kernel
theorem dX1_countShared_27 : decode cX1_countShared 27 = .ok (.getfield 9, 3) := by decide +kernel
theorem dX1_countShared_30 : decode cX1_countShared 30 = .ok (.iload 4, 2) := by decide +kernel
theorem dX1_countShared_32 : decode cX1_countShared 32 = .ok (.iaload, 1) := by decide +kernel
theorem dX1_countShared_33 : decode cX1_countShared 33 = .ok (.aload_n 0, 1) := by decide +kernel
theorem dX1_countShared_34 : decode cX1_countShared 34 = .ok (.getfield 9, 3) := by decide +kernel
theorem dX1_countShared_37 : decode cX1_countShared 37 = .ok (.iload 5, 2) := by decide +kernel
theorem dX1_countShared_39 : decode cX1_countShared 39 = .ok (.iaload, 1) := by decide +kernel
theorem dX1_countShared_40 : decode cX1_countShared 40 = .ok (.if_icmp .ge 9, 3) := by decide +kernel
theorem dX1_countShared_43 : decode cX1_countShared 43 = .ok (.iinc 4 1, 3) := by decide +kernel
theorem dX1_countShared_46 : decode cX1_countShared 46 = .ok (.goto (-29), 3) := by decide +kernel
theorem dX1_countShared_49 : decode cX1_countShared 49 = .ok (.aload_n 1, 1) := by decide +kernel
theorem dX1_countShared_50 : decode cX1_countShared 50 = .ok (.iload 4, 2) := by decide +kernel
theorem dX1_countShared_52 : decode cX1_countShared 52 = .ok (.aload_n 0, 1) := by decide +kernel
theorem dX1_countShared_53 : decode cX1_countShared 53 = .ok (.getfield 9, 3) := by decide +kernel
theorem dX1_countShared_56 : decode cX1_countShared 56 = .ok (.iload 5, 2) := by decide +kernel
theorem dX1_countShared_58 : decode cX1_countShared 58 = .ok (.iaload, 1) := by decide +kernel
theorem dX1_countShared_59 : decode cX1_countShared 59 = .ok (.invokevirtual 30, 3) := by decide +kernel
theorem dX1_countShared_62 : decode cX1_countShared 62 = .ok (.ifCond .eq 27, 3) := by decide +kernel
theorem dX1_countShared_65 : decode cX1_countShared 65 = .ok (.iload_n 2, 1) := by decide +kernel
theorem dX1_countShared_66 : decode cX1_countShared 66 = .ok (.ifCond .eq 20, 3) := by decide +kernel
theorem dX1_countShared_69 : decode cX1_countShared 69 = .ok (.aload_n 1, 1) := by decide +kernel
theorem dX1_countShared_70 : decode cX1_countShared 70 = .ok (.getfield 15, 3) := by decide +kernel
theorem dX1_countShared_73 : decode cX1_countShared 73 = .ok (.iload 4, 2) := by decide +kernel
theorem dX1_countShared_75 : decode cX1_countShared 75 = .ok (.iaload, 1) := by decide +kernel
theorem dX1_countShared_76 : decode cX1_countShared 76 = .ok (.aload_n 0, 1) := by decide +kernel
theorem dX1_countShared_77 : decode cX1_countShared 77 = .ok (.getfield 15, 3) := by decide +kernel
theorem dX1_countShared_80 : decode cX1_countShared 80 = .ok (.iload 5, 2) := by decide +kernel
theorem dX1_countShared_82 : decode cX1_countShared 82 = .ok (.iaload, 1) := by decide +kernel
theorem dX1_countShared_83 : decode cX1_countShared 83 = .ok (.if_icmp .ne 6, 3) := by decide +kernel
theorem dX1_countShared_86 : decode cX1_countShared 86 = .ok (.iinc 3 1, 3) := by decide +kernel
theorem dX1_countShared_89 : decode cX1_countShared 89 = .ok (.iinc 5 1, 3) := by decide +kernel
theorem dX1_countShared_92 : decode cX1_countShared 92 = .ok (.goto (-84), 3) := by decide +kernel
theorem dX1_countShared_95 : decode cX1_countShared 95 = .ok (.iload_n 3, 1) := by decide +kernel
theorem dX1_countShared_96 : decode cX1_countShared 96 = .ok (.ireturn, 1) := by decide +kernel
theorem dX1_countAlikeAtStart_0 : decode cX1_countAlikeAtStart 0 = .ok (.aload_n 0, 1) := by decide +kernel
theorem dX1_countAlikeAtStart_1 : decode cX1_countAlikeAtStart 1 = .ok (.getfield 18, 3) := by decide +kernel
theorem dX1_countAlikeAtStart_4 : decode cX1_countAlikeAtStart 4 = .ok (.aload_n 1, 1) := by decide +kernel
theorem dX1_countAlikeAtStart_5 : decode cX1_countAlikeAtStart 5 = .ok (.getfield 18, 3) := by decide +kernel
theorem dX1_countAlikeAtStart_8 : decode cX1_countAlikeAtStart 8 = .ok (.invokestatic 43, 3) := by decide +kernel
theorem dX1_countAlikeAtStart_11 : decode cX1_countAlikeAtStart 11 = .ok (.istore_n 2, 1) := by decide +kernel
theorem dX1_countAlikeAtStart_12 : decode cX1_countAlikeAtStart 12 = .ok (.iconst 0, 1) := by decide +kernel
theorem dX1_countAlikeAtStart_13 : decode cX1_countAlikeAtStart 13 = .ok (.istore_n 3, 1) := by decide +kernel
theorem dX1_countAlikeAtStart_14 : decode cX1_countAlikeAtStart 14 = .ok (.iload_n 3, 1) := by decide +kernel
theorem dX1_countAlikeAtStart_15 : decode cX1_countAlikeAtStart 15 = .ok (.iload_n 2, 1) := by decide +kernel
theorem dX1_countAlikeAtStart_16 : decode cX1_countAlikeAtStart 16 = .ok (.if_icmp .ge 39, 3) := by decide +kernel
theorem dX1_countAlikeAtStart_19 : decode cX1_countAlikeAtStart 19 = .ok (.aload_n 0, 1) := by decide +kernel
theorem dX1_countAlikeAtStart_20 : decode cX1_countAlikeAtStart 20 = .ok (.getfield 9, 3) := by decide +kernel
theorem dX1_countAlikeAtStart_23 : decode cX1_countAlikeAtStart 23 = .ok (.iload_n 3, 1) := by decide +kernel
theorem dX1_countAlikeAtStart_24 : decode cX1_countAlikeAtStart 24 = .ok (.iaload, 1) := by decide +kernel
theorem dX1_countAlikeAtStart_25 : decode cX1_countAlikeAtStart 25 = .ok (.aload_n 1, 1) := by decide +kernel
theorem dX1_countAlikeAtStart_26 : decode cX1_countAlikeAtStart 26 = .ok (.getfield 9, 3) := by decide +kernel
theorem dX1_countAlikeAtStart_29 : decode cX1_countAlikeAtStart 29 = .ok (.iload_n 3, 1) := by decide +kernel
theorem dX1_countAlikeAtStart_30 : decode cX1_countAlikeAtStart 30 = .ok (.iaload, 1) := by decide +kernel
theorem dX1_countAlikeAtStart_31 : decode cX1_countAlikeAtStart 31 = .ok (.if_icmp .ne 24, 3) := by decide +kernel
theorem dX1_countAlikeAtStart_34 : decode cX1_countAlikeAtStart 34 = .ok (.aload_n 0, 1) := by decide +kernel
theorem dX1_countAlikeAtStart_35 : decode cX1_countAlikeAtStart 35 = .ok (.getfield 15, 3) := by decide +kernel
theorem dX1_countAlikeAtStart_38 : decode cX1_countAlikeAtStart 38 = .ok (.iload_n 3, 1) := by decide +kernel
theorem dX1_countAlikeAtStart_39 : decode cX1_countAlikeAtStart 39 = .ok (.iaload, 1) := by decide +kernel
theorem dX1_countAlikeAtStart_40 : decode cX1_countAlikeAtStart 40 = .ok (.aload_n 1, 1) := by decide +kernel
theorem dX1_countAlikeAtStart_41 : decode cX1_countAlikeAtStart 41 = .ok (.getfield 15, 3) := by decide +kernel
theorem dX1_countAlikeAtStart_44 : decode cX1_countAlikeAtStart 44 = .ok (.iload_n 3, 1) := by decide +kernel
theorem dX1_countAlikeAtStart_45 : decode cX1_countAlikeAtStart 45 = .ok (.iaload, 1) := by decide +kernel
theorem dX1_countAlikeAtStart_46 : decode cX1_countAlikeAtStart 46 = .ok (.if_icmp .ne 9, 3) := by decide +kernel
theorem dX1_countAlikeAtStart_49 : decode cX1_countAlikeAtStart 49 = .ok (.iinc 3 1, 3) := by decide +kernel
theorem dX1_countAlikeAtStart_52 : decode cX1_countAlikeAtStart 52 = .ok (.goto (-38), 3) := by decide +kernel
theorem dX1_countAlikeAtStart_55 : decode cX1_countAlikeAtStart 55 = .ok (.iload_n 3, 1) := by decide +kernel
theorem dX1_countAlikeAtStart_56 : decode cX1_countAlikeAtStart 56 = .ok (.ireturn, 1) := by decide +kernel
set_option maxRecDepth 20000 in
theorem ggX1_takeOver_X1_hasAt : GoodIn wsX1_takeOver wsX1_hasAt := goodIn_r _ [8, 2, 9, 10, 11, 7, 12, 1, 13, 14, 15] (by decide +kernel) (by decide +kernel)
set_option maxRecDepth 20000 in
theorem gX1_takeOver_X1_hasAt : GoodIn wsX1_takeOver (wsV RX1 30 RX1 yX1_hasAt wsX1_hasAt) := goodIn_app (goodIn_of _ (by decide +kernel)) ggX1_takeOver_X1_hasAt
theorem dX1_takeOver_0 : decode cX1_takeOver 0 = .ok (.aload_n 0, 1) := by decide +kernel
theorem dX1_takeOver_1 : decode cX1_takeOver 1 = .ok (.getfield 18, 3) := by decide +kernel
theorem dX1_takeOver_4 : decode cX1_takeOver 4 = .ok (.iconst 1, 1) := by decide +kernel
theorem dX1_takeOver_5 : decode cX1_takeOver 5 = .ok (.isub, 1) := by decide +kernel
theorem dX1_takeOver_6 : decode cX1_takeOver 6 = .ok (.istore_n 3, 1) := by decide +kernel
theorem dX1_takeOver_7 : decode cX1_takeOver 7 = .ok (.iload_n 3, 1) := by decide +kernel
theorem dX1_takeOver_8 : decode cX1_takeOver 8 = .ok (.iload_n 2, 1) := by decide +kernel
theorem dX1_takeOver_9 : decode cX1_takeOver 9 = .ok (.iadd, 1) := by decide +kernel
theorem dX1_takeOver_10 : decode cX1_takeOver 10 = .ok (.istore 4, 2) := by decide +kernel
theorem dX1_takeOver_12 : decode cX1_takeOver 12 = .ok (.aload_n 1, 1) := by decide +kernel
theorem dX1_takeOver_13 : decode cX1_takeOver 13 = .ok (.getfield 18, 3) := by decide +kernel
theorem dX1_takeOver_16 : decode cX1_takeOver 16 = .ok (.iconst 1, 1) := by decide +kernel
theorem dX1_takeOver_17 : decode cX1_takeOver 17 = .ok (.isub, 1) := by decide +kernel
theorem dX1_takeOver_18 : decode cX1_takeOver 18 = .ok (.istore 5, 2) := by decide +kernel
theorem dX1_takeOver_20 : decode cX1_takeOver 20 = .ok (.iload 5, 2) := by decide +kernel
theorem dX1_takeOver_22 : decode cX1_takeOver 22 = .ok (.ifCond .lt 104, 3) := by decide +kernel
theorem dX1_takeOver_25 : decode cX1_takeOver 25 = .ok (.aload_n 1, 1) := by decide +kernel
theorem dX1_takeOver_26 : decode cX1_takeOver 26 = .ok (.getfield 9, 3) := by decide +kernel
theorem dX1_takeOver_29 : decode cX1_takeOver 29 = .ok (.iload 5, 2) := by decide +kernel
theorem dX1_takeOver_31 : decode cX1_takeOver 31 = .ok (.iaload, 1) := by decide +kernel
theorem dX1_takeOver_32 : decode cX1_takeOver 32 = .ok (.istore 6, 2) := by decide +kernel
theorem dX1_takeOver_34 : decode cX1_takeOver 34 = .ok (.iload_n 3, 1) := by decide +kernel
theorem dX1_takeOver_35 : decode cX1_takeOver 35 = .ok (.ifCond .lt 49, 3) := by decide +kernel
theorem dX1_takeOver_38 : decode cX1_takeOver 38 = .ok (.aload_n 0, 1) := by decide +kernel
theorem dX1_takeOver_39 : decode cX1_takeOver 39 = .ok (.getfield 9, 3) := by decide +kernel
theorem dX1_takeOver_42 : decode cX1_takeOver 42 = .ok (.iload_n 3, 1) := by decide +kernel
theorem dX1_takeOver_43 : decode cX1_takeOver 43 = .ok (.iaload, 1) := by decide +kernel
theorem dX1_takeOver_44 : decode cX1_takeOver 44 = .ok (.iload 6, 2) := by decide +kernel
theorem dX1_takeOver_46 : decode cX1_takeOver 46 = .ok (.if_icmp .le 38, 3) := by decide +kernel
theorem dX1_takeOver_49 : decode cX1_takeOver 49 = .ok (.aload_n 0, 1) := by decide +kernel
theorem dX1_takeOver_50 : decode cX1_takeOver 50 = .ok (.getfield 9, 3) := by decide +kernel
theorem dX1_takeOver_53 : decode cX1_takeOver 53 = .ok (.iload 4, 2) := by decide +kernel
theorem dX1_takeOver_55 : decode cX1_takeOver 55 = .ok (.aload_n 0, 1) := by decide +kernel
theorem dX1_takeOver_56 : decode cX1_takeOver 56 = .ok (.getfield 9, 3) := by decide +kernel
theorem dX1_takeOver_59 : decode cX1_takeOver 59 = .ok (.iload_n 3, 1) := by decide +kernel
theorem dX1_takeOver_60 : decode cX1_takeOver 60 = .ok (.iaload, 1) := by decide +kernel
theorem dX1_takeOver_61 : decode cX1_takeOver 61 = .ok (.iastore, 1) := by decide +kernel
theorem dX1_takeOver_62 : decode cX1_takeOver 62 = .ok (.aload_n 0, 1) := by decide +kernel
theorem dX1_takeOver_63 : decode cX1_takeOver 63 = .ok (.getfield 15, 3) := by decide +kernel
theorem dX1_takeOver_66 : decode cX1_takeOver 66 = .ok (.iload 4, 2) := by decide +kernel
theorem dX1_takeOver_68 : decode cX1_takeOver 68 = .ok (.aload_n 0, 1) := by decide +kernel
theorem dX1_takeOver_69 : decode cX1_takeOver 69 = .ok (.getfield 15, 3) := by decide +kernel
theorem dX1_takeOver_72 : decode cX1_takeOver 72 = .ok (.iload_n 3, 1) := by decide +kernel
theorem dX1_takeOver_73 : decode cX1_takeOver 73 = .ok (.iaload, 1) := by decide +kernel
theorem dX1_takeOver_74 : decode cX1_takeOver 74 = .ok (.iastore, 1) := by decide +kernel
theorem dX1_takeOver_75 : decode cX1_takeOver 75 = .ok (.iinc 3 (-1), 3) := by decide +kernel
theorem dX1_takeOver_78 : decode cX1_takeOver 78 = .ok (.iinc 4 (-1), 3) := by decide +kernel
theorem dX1_takeOver_81 : decode cX1_takeOver 81 = .ok (.goto (-47), 3) := by decide +kernel
theorem dX1_takeOver_84 : decode cX1_takeOver 84 = .ok (.aload_n 0, 1) := by decide +kernel
theorem dX1_takeOver_85 : decode cX1_takeOver 85 = .ok (.iload_n 3, 1) := by decide +kernel
theorem dX1_takeOver_86 : decode cX1_takeOver 86 = .ok (.iload 6, 2) := by decide +kernel
theorem dX1_takeOver_88 : decode cX1_takeOver 88 = .ok (.invokevirtual 30, 3) := by decide +kernel
theorem dX1_takeOver_91 : decode cX1_takeOver 91 = .ok (.ifCond .ne 29, 3) := by decide +kernel
theorem dX1_takeOver_94 : decode cX1_takeOver 94 = .ok (.aload_n 0, 1) := by decide +kernel
theorem dX1_takeOver_95 : decode cX1_takeOver 95 = .ok (.getfield 9, 3) := by decide +kernel
theorem dX1_takeOver_98 : decode cX1_takeOver 98 = .ok (.iload 4, 2) := by decide +kernel
theorem dX1_takeOver_100 : decode cX1_takeOver 100 = .ok (.iload 6, 2) := by decide +kernel
theorem dX1_takeOver_102 : decode cX1_takeOver 102 = .ok (.iastore, 1) := by decide +kernel
theorem dX1_takeOver_103 : decode cX1_takeOver 103 = .ok (.aload_n 0, 1) := by decide +kernel
theorem dX1_takeOver_104 : decode cX1_takeOver 104 = .ok (.getfield 15, 3) := by decide +kernel
theorem dX1_takeOver_107 : decode cX1_takeOver 107 = .ok (.iload 4, 2) := by decide +kernel
theorem dX1_takeOver_109 : decode cX1_takeOver 109 = .ok (.aload_n 1, 1) := by decide +kernel
theorem dX1_takeOver_110 : decode cX1_takeOver 110 = .ok (.getfield 15, 3) := by decide +kernel
theorem dX1_takeOver_113 : decode cX1_takeOver 113 = .ok (.iload 5, 2) := by decide +kernel
theorem dX1_takeOver_115 : decode cX1_takeOver 115 = .ok (.iaload, 1) := by decide +kernel
theorem dX1_takeOver_116 : decode cX1_takeOver 116 = .ok (.iastore, 1) := by decide +kernel
theorem dX1_takeOver_117 : decode cX1_takeOver 117 = .ok (.iinc 4 (-1), 3) := by decide +kernel
theorem dX1_takeOver_120 : decode cX1_takeOver 120 = .ok (.iinc 5 (-1), 3) := by decide +kernel
theorem dX1_takeOver_123 : decode cX1_takeOver 123 = .ok (.goto (-103), 3) := by decide +kernel
theorem dX1_takeOver_126 : decode cX1_takeOver 126 = .ok (.aload_n 0, 1) := by decide +kernel
theorem dX1_takeOver_127 : decode cX1_takeOver 127 = .ok (.dup, 1) := by decide +kernel
theorem dX1_takeOver_128 : decode cX1_takeOver 128 = .ok (.getfield 18, 3) := by decide +kernel
theorem dX1_takeOver_131 : decode cX1_takeOver 131 = .ok (.iload_n 2, 1) := by decide +kernel
theorem dX1_takeOver_132 : decode cX1_takeOver 132 = .ok (.iadd, 1) := by decide +kernel
theorem dX1_takeOver_133 : decode cX1_takeOver 133 = .ok (.putfield 18, 3) := by decide +kernel
theorem dX1_takeOver_136 : decode cX1_takeOver 136 = .ok (.return_, 1) := by decide +kernel
theorem dX1_countWrong_0 : decode cX1_countWrong 0 = .ok (.iload_n 1, 1) := by decide +kernel
theorem dX1_countWrong_1 : decode cX1_countWrong 1 = .ok (.ifCond .ne 16, 3) := by decide +kernel
theorem dX1_countWrong_4 : decode cX1_countWrong 4 = .ok (.aload_n 0, 1) := by decide +kernel
theorem dX1_countWrong_5 : decode cX1_countWrong 5 = .ok (.getfield 18, 3) := by decide +kernel
theorem dX1_countWrong_8 : decode cX1_countWrong 8 = .ok (.ifCond .ne 7, 3) := by decide +kernel
theorem dX1_countWrong_11 : decode cX1_countWrong 11 = .ok (.iconst 0, 1) := by decide +kernel
theorem dX1_countWrong_12 : decode cX1_countWrong 12 = .ok (.goto 4, 3) := by decide +kernel
theorem dX1_countWrong_15 : decode cX1_countWrong 15 = .ok (.iconst 1, 1) := by decide +kernel
theorem dX1_countWrong_16 : decode cX1_countWrong 16 = .ok (.ireturn, 1) := by decide +kernel
theorem dX1_countWrong_17 : decode cX1_countWrong 17 = .ok (.aload_n 0, 1) := by decide +kernel
theorem dX1_countWrong_18 : decode cX1_countWrong 18 = .ok (.getfield 18, 3) := by decide +kernel
theorem dX1_countWrong_21 : decode cX1_countWrong 21 = .ok (.ifCond .lt 13, 3) := by decide +kernel
theorem dX1_countWrong_24 : decode cX1_countWrong 24 = .ok (.aload_n 0, 1) := by decide +kernel
theorem dX1_countWrong_25 : decode cX1_countWrong 25 = .ok (.getfield 18, 3) := by decide +kernel
theorem dX1_countWrong_28 : decode cX1_countWrong 28 = .ok (.sipush 600, 3) := by decide +kernel
theorem dX1_countWrong_31 : decode cX1_countWrong 31 = .ok (.if_icmp .le 5, 3) := by decide +kernel
theorem dX1_countWrong_34 : decode cX1_countWrong 34 = .ok (.iconst 1, 1) := by decide +kernel
theorem dX1_countWrong_35 : decode cX1_countWrong 35 = .ok (.ireturn, 1) := by decide +kernel
theorem dX1_countWrong_36 : decode cX1_countWrong 36 = .ok (.iconst 0, 1) := by decide +kernel
theorem dX1_countWrong_37 : decode cX1_countWrong 37 = .ok (.istore_n 2, 1) := by decide +kernel
theorem dX1_countWrong_38 : decode cX1_countWrong 38 = .ok (.iconst 1, 1) := by decide +kernel
theorem dX1_countWrong_39 : decode cX1_countWrong 39 = .ok (.istore_n 3, 1) := by decide +kernel
theorem dX1_countWrong_40 : decode cX1_countWrong 40 = .ok (.iload_n 3, 1) := by decide +kernel
theorem dX1_countWrong_41 : decode cX1_countWrong 41 = .ok (.aload_n 0, 1) := by decide +kernel
theorem dX1_countWrong_42 : decode cX1_countWrong 42 = .ok (.getfield 18, 3) := by decide +kernel
theorem dX1_countWrong_45 : decode cX1_countWrong 45 = .ok (.if_icmp .ge 29, 3) := by decide +kernel
theorem dX1_countWrong_48 : decode cX1_countWrong 48 = .ok (.aload_n 0, 1) := by decide +kernel
theorem dX1_countWrong_49 : decode cX1_countWrong 49 = .ok (.getfield 9, 3) := by decide +kernel
theorem dX1_countWrong_52 : decode cX1_countWrong 52 = .ok (.iload_n 3, 1) := by decide +kernel
theorem dX1_countWrong_53 : decode cX1_countWrong 53 = .ok (.iconst 1, 1) := by decide +kernel
theorem dX1_countWrong_54 : decode cX1_countWrong 54 = .ok (.isub, 1) := by decide +kernel
theorem dX1_countWrong_55 : decode cX1_countWrong 55 = .ok (.iaload, 1) := by decide +kernel
theorem dX1_countWrong_56 : decode cX1_countWrong 56 = .ok (.aload_n 0, 1) := by decide +kernel
theorem dX1_countWrong_57 : decode cX1_countWrong 57 = .ok (.getfield 9, 3) := by decide +kernel
theorem dX1_countWrong_60 : decode cX1_countWrong 60 = .ok (.iload_n 3, 1) := by decide +kernel
theorem dX1_countWrong_61 : decode cX1_countWrong 61 = .ok (.iaload, 1) := by decide +kernel
theorem dX1_countWrong_62 : decode cX1_countWrong 62 = .ok (.if_icmp .lt 6, 3) := by decide +kernel
theorem dX1_countWrong_65 : decode cX1_countWrong 65 = .ok (.iinc 2 1, 3) := by decide +kernel
theorem dX1_countWrong_68 : decode cX1_countWrong 68 = .ok (.iinc 3 1, 3) := by decide +kernel
theorem dX1_countWrong_71 : decode cX1_countWrong 71 = .ok (.goto (-31), 3) := by decide +kernel
theorem dX1_countWrong_74 : decode cX1_countWrong 74 = .ok (.iload_n 2, 1) := by decide +kernel
theorem dX1_countWrong_75 : decode cX1_countWrong 75 = .ok (.ireturn, 1) := by decide +kernel

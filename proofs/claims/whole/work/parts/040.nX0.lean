set_option maxRecDepth 20000 in
theorem ggX0_init_X1_init : GoodIn wsX0_init wsX1_init := goodIn_r _ [9, 10, 2, 3, 11, 12, 13, 14, 15, 16] (by decide +kernel) (by decide +kernel)
set_option maxRecDepth 20000 in
theorem gX0_init_X1_init_n9 : GoodIn wsX0_init (wsX1_init) := ggX0_init_X1_init
theorem dX0_init_0 : decode cX0_init 0 = .ok (.aload_n 0, 1) := by decide +kernel
theorem dX0_init_1 : decode cX0_init 1 = .ok (.invokespecial 1, 3) := by decide +kernel
theorem dX0_init_4 : decode cX0_init 4 = .ok (.aload_n 0, 1) := by decide +kernel
theorem dX0_init_5 : decode cX0_init 5 = .ok (.new 7, 3) := by decide +kernel
theorem dX0_init_8 : decode cX0_init 8 = .ok (.dup, 1) := by decide +kernel
theorem dX0_init_9 : decode cX0_init 9 = .ok (.invokespecial 9, 3) := by decide +kernel
theorem dX0_init_12 : decode cX0_init 12 = .ok (.putfield 10, 3) := by decide +kernel
theorem dX0_init_15 : decode cX0_init 15 = .ok (.return_, 1) := by decide +kernel
set_option maxRecDepth 20000 in
theorem ggX0_start_X1_copyFrom : GoodIn wsX0_start wsX1_copyFrom := goodIn_r _ [8, 9, 10, 11, 12, 13, 14, 15, 39, 40, 41] (by decide +kernel) (by decide +kernel)
set_option maxRecDepth 20000 in
theorem gX0_start_X1_copyFrom : GoodIn wsX0_start (wsV RX0 16 RX1 yX1_copyFrom wsX1_copyFrom) := goodIn_app (goodIn_of _ (by decide +kernel)) ggX0_start_X1_copyFrom
set_option maxRecDepth 20000 in
theorem ggX0_start_X1_nearest : GoodIn wsX0_start wsX1_nearest := goodIn_r _ [19, 20, 21, 22, 7, 23, 10, 9, 24, 25, 26, 27, 28, 29, 30, 31, 32, 33, 34, 35, 39, 40, 41] (by decide +kernel) (by decide +kernel)
set_option maxRecDepth 20000 in
theorem gX0_start_X1_nearest : GoodIn wsX0_start (wsV RX0 24 RX1 yX1_nearest wsX1_nearest) := goodIn_app (goodIn_of _ (by decide +kernel)) ggX0_start_X1_nearest
theorem dX0_start_0 : decode cX0_start 0 = .ok (.aload_n 0, 1) := by decide +kernel
theorem dX0_start_1 : decode cX0_start 1 = .ok (.getfield 10, 3) := by decide +kernel
theorem dX0_start_4 : decode cX0_start 4 = .ok (.aload_n 1, 1) := by decide +kernel
theorem dX0_start_5 : decode cX0_start 5 = .ok (.invokevirtual 16, 3) := by decide +kernel
theorem dX0_start_8 : decode cX0_start 8 = .ok (.aload_n 0, 1) := by decide +kernel
theorem dX0_start_9 : decode cX0_start 9 = .ok (.iload_n 3, 1) := by decide +kernel
theorem dX0_start_10 : decode cX0_start 10 = .ok (.putfield 20, 3) := by decide +kernel
theorem dX0_start_13 : decode cX0_start 13 = .ok (.aload_n 0, 1) := by decide +kernel
theorem dX0_start_14 : decode cX0_start 14 = .ok (.aload_n 0, 1) := by decide +kernel
theorem dX0_start_15 : decode cX0_start 15 = .ok (.getfield 10, 3) := by decide +kernel
theorem dX0_start_18 : decode cX0_start 18 = .ok (.iload_n 2, 1) := by decide +kernel
theorem dX0_start_19 : decode cX0_start 19 = .ok (.iload_n 3, 1) := by decide +kernel
theorem dX0_start_20 : decode cX0_start 20 = .ok (.ifCond .ne 7, 3) := by decide +kernel
theorem dX0_start_23 : decode cX0_start 23 = .ok (.iconst 1, 1) := by decide +kernel
theorem dX0_start_24 : decode cX0_start 24 = .ok (.goto 4, 3) := by decide +kernel
theorem dX0_start_27 : decode cX0_start 27 = .ok (.iconst 0, 1) := by decide +kernel
theorem dX0_start_28 : decode cX0_start 28 = .ok (.invokevirtual 24, 3) := by decide +kernel
theorem dX0_start_31 : decode cX0_start 31 = .ok (.putfield 28, 3) := by decide +kernel
theorem dX0_start_34 : decode cX0_start 34 = .ok (.return_, 1) := by decide +kernel
theorem dX0_stop_0 : decode cX0_stop 0 = .ok (.aload_n 0, 1) := by decide +kernel
theorem dX0_stop_1 : decode cX0_stop 1 = .ok (.getfield 10, 3) := by decide +kernel
theorem dX0_stop_4 : decode cX0_stop 4 = .ok (.iconst 0, 1) := by decide +kernel
theorem dX0_stop_5 : decode cX0_stop 5 = .ok (.putfield 32, 3) := by decide +kernel
theorem dX0_stop_8 : decode cX0_stop 8 = .ok (.aload_n 0, 1) := by decide +kernel
theorem dX0_stop_9 : decode cX0_stop 9 = .ok (.iconst 0, 1) := by decide +kernel
theorem dX0_stop_10 : decode cX0_stop 10 = .ok (.putfield 28, 3) := by decide +kernel
theorem dX0_stop_13 : decode cX0_stop 13 = .ok (.return_, 1) := by decide +kernel
theorem dX0_countLeft_0 : decode cX0_countLeft 0 = .ok (.aload_n 0, 1) := by decide +kernel
theorem dX0_countLeft_1 : decode cX0_countLeft 1 = .ok (.getfield 20, 3) := by decide +kernel
theorem dX0_countLeft_4 : decode cX0_countLeft 4 = .ok (.ifCond .eq 12, 3) := by decide +kernel
theorem dX0_countLeft_7 : decode cX0_countLeft 7 = .ok (.aload_n 0, 1) := by decide +kernel
theorem dX0_countLeft_8 : decode cX0_countLeft 8 = .ok (.getfield 28, 3) := by decide +kernel
theorem dX0_countLeft_11 : decode cX0_countLeft 11 = .ok (.iconst 1, 1) := by decide +kernel
theorem dX0_countLeft_12 : decode cX0_countLeft 12 = .ok (.iadd, 1) := by decide +kernel
theorem dX0_countLeft_13 : decode cX0_countLeft 13 = .ok (.goto 15, 3) := by decide +kernel
theorem dX0_countLeft_16 : decode cX0_countLeft 16 = .ok (.aload_n 0, 1) := by decide +kernel
theorem dX0_countLeft_17 : decode cX0_countLeft 17 = .ok (.getfield 10, 3) := by decide +kernel
theorem dX0_countLeft_20 : decode cX0_countLeft 20 = .ok (.getfield 32, 3) := by decide +kernel
theorem dX0_countLeft_23 : decode cX0_countLeft 23 = .ok (.aload_n 0, 1) := by decide +kernel
theorem dX0_countLeft_24 : decode cX0_countLeft 24 = .ok (.getfield 28, 3) := by decide +kernel
theorem dX0_countLeft_27 : decode cX0_countLeft 27 = .ok (.isub, 1) := by decide +kernel
theorem dX0_countLeft_28 : decode cX0_countLeft 28 = .ok (.ireturn, 1) := by decide +kernel
theorem dX0_goOver_0 : decode cX0_goOver 0 = .ok (.aload_n 0, 1) := by decide +kernel
theorem dX0_goOver_1 : decode cX0_goOver 1 = .ok (.dup, 1) := by decide +kernel
theorem dX0_goOver_2 : decode cX0_goOver 2 = .ok (.getfield 28, 3) := by decide +kernel
theorem dX0_goOver_5 : decode cX0_goOver 5 = .ok (.aload_n 0, 1) := by decide +kernel
theorem dX0_goOver_6 : decode cX0_goOver 6 = .ok (.getfield 20, 3) := by decide +kernel
theorem dX0_goOver_9 : decode cX0_goOver 9 = .ok (.ifCond .eq 8, 3) := by decide +kernel
theorem dX0_goOver_12 : decode cX0_goOver 12 = .ok (.iload_n 1, 1) := by decide +kernel
theorem dX0_goOver_13 : decode cX0_goOver 13 = .ok (.ineg, 1) := by decide +kernel
theorem dX0_goOver_14 : decode cX0_goOver 14 = .ok (.goto 4, 3) := by decide +kernel
theorem dX0_goOver_17 : decode cX0_goOver 17 = .ok (.iload_n 1, 1) := by decide +kernel
theorem dX0_goOver_18 : decode cX0_goOver 18 = .ok (.iadd, 1) := by decide +kernel
theorem dX0_goOver_19 : decode cX0_goOver 19 = .ok (.putfield 28, 3) := by decide +kernel
theorem dX0_goOver_22 : decode cX0_goOver 22 = .ok (.return_, 1) := by decide +kernel
set_option maxRecDepth 20000 in
theorem ggX0_countWrong_X1_countWrong : GoodIn wsX0_countWrong wsX1_countWrong := goodIn_r _ [8, 9, 10, 14, 15, 16] (by decide +kernel) (by decide +kernel)
set_option maxRecDepth 20000 in
theorem gX0_countWrong_X1_countWrong : GoodIn wsX0_countWrong (wsV RX0 35 RX1 yX1_countWrong wsX1_countWrong) := goodIn_app (goodIn_of _ (by decide +kernel)) ggX0_countWrong_X1_countWrong
theorem dX0_countWrong_0 : decode cX0_countWrong 0 = .ok (.aload_n 0, 1) := by decide +kernel
theorem dX0_countWrong_1 : decode cX0_countWrong 1 = .ok (.getfield 28, 3) := by decide +kernel
theorem dX0_countWrong_4 : decode cX0_countWrong 4 = .ok (.iconst (-1), 1) := by decide +kernel
theorem dX0_countWrong_5 : decode cX0_countWrong 5 = .ok (.if_icmp .lt 17, 3) := by decide +kernel
theorem dX0_countWrong_8 : decode cX0_countWrong 8 = .ok (.aload_n 0, 1) := by decide +kernel
theorem dX0_countWrong_9 : decode cX0_countWrong 9 = .ok (.getfield 28, 3) := by decide +kernel
theorem dX0_countWrong_12 : decode cX0_countWrong 12 = .ok (.aload_n 0, 1) := by decide +kernel
theorem dX0_countWrong_13 : decode cX0_countWrong 13 = .ok (.getfield 10, 3) := by decide +kernel
theorem dX0_countWrong_16 : decode cX0_countWrong 16 = .ok (.getfield 32, 3) := by decide +kernel
theorem dX0_countWrong_19 : decode cX0_countWrong 19 = .ok (.if_icmp .le 7, 3) := by decide +kernel
theorem dX0_countWrong_22 : decode cX0_countWrong 22 = .ok (.iconst 1, 1) := by decide +kernel
theorem dX0_countWrong_23 : decode cX0_countWrong 23 = .ok (.goto 4, 3) := by decide +kernel
theorem dX0_countWrong_26 : decode cX0_countWrong 26 = .ok (.iconst 0, 1) := by decide +kernel
theorem dX0_countWrong_27 : decode cX0_countWrong 27 = .ok (.istore_n 2, 1) := by decide +kernel
theorem dX0_countWrong_28 : decode cX0_countWrong 28 = .ok (.aload_n 0, 1) := by decide +kernel
theorem dX0_countWrong_29 : decode cX0_countWrong 29 = .ok (.getfield 10, 3) := by decide +kernel
theorem dX0_countWrong_32 : decode cX0_countWrong 32 = .ok (.iload_n 1, 1) := by decide +kernel
theorem dX0_countWrong_33 : decode cX0_countWrong 33 = .ok (.invokevirtual 35, 3) := by decide +kernel
theorem dX0_countWrong_36 : decode cX0_countWrong 36 = .ok (.iload_n 2, 1) := by decide +kernel
theorem dX0_countWrong_37 : decode cX0_countWrong 37 = .ok (.ifCond .eq 7, 3) := by decide +kernel
theorem dX0_countWrong_40 : decode cX0_countWrong 40 = .ok (.iconst 1, 1) := by decide +kernel
theorem dX0_countWrong_41 : decode cX0_countWrong 41 = .ok (.goto 4, 3) := by decide +kernel
theorem dX0_countWrong_44 : decode cX0_countWrong 44 = .ok (.iconst 0, 1) := by decide +kernel
theorem dX0_countWrong_45 : decode cX0_countWrong 45 = .ok (.iadd, 1) := by decide +kernel
theorem dX0_countWrong_46 : decode cX0_countWrong 46 = .ok (.ireturn, 1) := by decide +kernel

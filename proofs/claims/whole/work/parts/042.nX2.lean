set_option maxRecDepth 20000 in
theorem ggX2_init_X1_init : GoodIn wsX2_init wsX1_init := goodIn_r _ [17, 18, 2, 3, 19, 20, 21, 27, 28, 29] (by decide +kernel) (by decide +kernel)
set_option maxRecDepth 20000 in
theorem gX2_init_X1_init_n9 : GoodIn wsX2_init (wsX1_init) := ggX2_init_X1_init
set_option maxRecDepth 20000 in
theorem ggX2_init_X0_init : GoodIn wsX2_init wsX0_init := goodIn_r _ [23, 24, 2, 3, 25, 5, 6, 26, 16, 17, 18, 19, 20, 21, 27, 28, 29, 35, 36, 37] (by decide +kernel) (by decide +kernel)
set_option maxRecDepth 20000 in
theorem gX2_init_X0_init_n33 : GoodIn wsX2_init (wsX0_init) := ggX2_init_X0_init
theorem dX2_init_0 : decode cX2_init 0 = .ok (.aload_n 0, 1) := by decide +kernel
theorem dX2_init_1 : decode cX2_init 1 = .ok (.invokespecial 1, 3) := by decide +kernel
theorem dX2_init_4 : decode cX2_init 4 = .ok (.aload_n 0, 1) := by decide +kernel
theorem dX2_init_5 : decode cX2_init 5 = .ok (.new 7, 3) := by decide +kernel
theorem dX2_init_8 : decode cX2_init 8 = .ok (.dup, 1) := by decide +kernel
theorem dX2_init_9 : decode cX2_init 9 = .ok (.invokespecial 9, 3) := by decide +kernel
theorem dX2_init_12 : decode cX2_init 12 = .ok (.putfield 10, 3) := by decide +kernel
theorem dX2_init_15 : decode cX2_init 15 = .ok (.aload_n 0, 1) := by decide +kernel
theorem dX2_init_16 : decode cX2_init 16 = .ok (.bipush 13, 2) := by decide +kernel
theorem dX2_init_18 : decode cX2_init 18 = .ok (.anewarray 7, 3) := by decide +kernel
theorem dX2_init_21 : decode cX2_init 21 = .ok (.putfield 16, 3) := by decide +kernel
theorem dX2_init_24 : decode cX2_init 24 = .ok (.aload_n 0, 1) := by decide +kernel
theorem dX2_init_25 : decode cX2_init 25 = .ok (.aload_n 0, 1) := by decide +kernel
theorem dX2_init_26 : decode cX2_init 26 = .ok (.getfield 16, 3) := by decide +kernel
theorem dX2_init_29 : decode cX2_init 29 = .ok (.arraylength, 1) := by decide +kernel
theorem dX2_init_30 : decode cX2_init 30 = .ok (.newarray .boolean, 2) := by decide +kernel
theorem dX2_init_32 : decode cX2_init 32 = .ok (.putfield 20, 3) := by decide +kernel
theorem dX2_init_35 : decode cX2_init 35 = .ok (.aload_n 0, 1) := by decide +kernel
theorem dX2_init_36 : decode cX2_init 36 = .ok (.getfield 16, 3) := by decide +kernel
theorem dX2_init_39 : decode cX2_init 39 = .ok (.iconst 0, 1) := by decide +kernel
theorem dX2_init_40 : decode cX2_init 40 = .ok (.aload_n 0, 1) := by decide +kernel
theorem dX2_init_41 : decode cX2_init 41 = .ok (.getfield 10, 3) := by decide +kernel
theorem dX2_init_44 : decode cX2_init 44 = .ok (.aastore, 1) := by decide +kernel
theorem dX2_init_45 : decode cX2_init 45 = .ok (.aload_n 0, 1) := by decide +kernel
theorem dX2_init_46 : decode cX2_init 46 = .ok (.getfield 20, 3) := by decide +kernel
theorem dX2_init_49 : decode cX2_init 49 = .ok (.iconst 0, 1) := by decide +kernel
theorem dX2_init_50 : decode cX2_init 50 = .ok (.iconst 1, 1) := by decide +kernel
theorem dX2_init_51 : decode cX2_init 51 = .ok (.bastore, 1) := by decide +kernel
theorem dX2_init_52 : decode cX2_init 52 = .ok (.iconst 1, 1) := by decide +kernel
theorem dX2_init_53 : decode cX2_init 53 = .ok (.istore_n 1, 1) := by decide +kernel
theorem dX2_init_54 : decode cX2_init 54 = .ok (.iload_n 1, 1) := by decide +kernel
theorem dX2_init_55 : decode cX2_init 55 = .ok (.aload_n 0, 1) := by decide +kernel
theorem dX2_init_56 : decode cX2_init 56 = .ok (.getfield 16, 3) := by decide +kernel
theorem dX2_init_59 : decode cX2_init 59 = .ok (.arraylength, 1) := by decide +kernel
theorem dX2_init_60 : decode cX2_init 60 = .ok (.if_icmp .ge 22, 3) := by decide +kernel
theorem dX2_init_63 : decode cX2_init 63 = .ok (.aload_n 0, 1) := by decide +kernel
theorem dX2_init_64 : decode cX2_init 64 = .ok (.getfield 16, 3) := by decide +kernel
theorem dX2_init_67 : decode cX2_init 67 = .ok (.iload_n 1, 1) := by decide +kernel
theorem dX2_init_68 : decode cX2_init 68 = .ok (.new 7, 3) := by decide +kernel
theorem dX2_init_71 : decode cX2_init 71 = .ok (.dup, 1) := by decide +kernel
theorem dX2_init_72 : decode cX2_init 72 = .ok (.invokespecial 9, 3) := by decide +kernel
theorem dX2_init_75 : decode cX2_init 75 = .ok (.aastore, 1) := by decide +kernel
theorem dX2_init_76 : decode cX2_init 76 = .ok (.iinc 1 1, 3) := by decide +kernel
theorem dX2_init_79 : decode cX2_init 79 = .ok (.goto (-25), 3) := by decide +kernel
theorem dX2_init_82 : decode cX2_init 82 = .ok (.aload_n 0, 1) := by decide +kernel
theorem dX2_init_83 : decode cX2_init 83 = .ok (.bipush 8, 2) := by decide +kernel
theorem dX2_init_85 : decode cX2_init 85 = .ok (.anewarray 24, 3) := by decide +kernel
theorem dX2_init_88 : decode cX2_init 88 = .ok (.putfield 26, 3) := by decide +kernel
theorem dX2_init_91 : decode cX2_init 91 = .ok (.aload_n 0, 1) := by decide +kernel
theorem dX2_init_92 : decode cX2_init 92 = .ok (.aload_n 0, 1) := by decide +kernel
theorem dX2_init_93 : decode cX2_init 93 = .ok (.getfield 26, 3) := by decide +kernel
theorem dX2_init_96 : decode cX2_init 96 = .ok (.arraylength, 1) := by decide +kernel
theorem dX2_init_97 : decode cX2_init 97 = .ok (.newarray .boolean, 2) := by decide +kernel
theorem dX2_init_99 : decode cX2_init 99 = .ok (.putfield 30, 3) := by decide +kernel
theorem dX2_init_102 : decode cX2_init 102 = .ok (.iconst 0, 1) := by decide +kernel
theorem dX2_init_103 : decode cX2_init 103 = .ok (.istore_n 1, 1) := by decide +kernel
theorem dX2_init_104 : decode cX2_init 104 = .ok (.iload_n 1, 1) := by decide +kernel
theorem dX2_init_105 : decode cX2_init 105 = .ok (.aload_n 0, 1) := by decide +kernel
theorem dX2_init_106 : decode cX2_init 106 = .ok (.getfield 26, 3) := by decide +kernel
theorem dX2_init_109 : decode cX2_init 109 = .ok (.arraylength, 1) := by decide +kernel
theorem dX2_init_110 : decode cX2_init 110 = .ok (.if_icmp .ge 22, 3) := by decide +kernel
theorem dX2_init_113 : decode cX2_init 113 = .ok (.aload_n 0, 1) := by decide +kernel
theorem dX2_init_114 : decode cX2_init 114 = .ok (.getfield 26, 3) := by decide +kernel
theorem dX2_init_117 : decode cX2_init 117 = .ok (.iload_n 1, 1) := by decide +kernel
theorem dX2_init_118 : decode cX2_init 118 = .ok (.new 24, 3) := by decide +kernel
theorem dX2_init_121 : decode cX2_init 121 = .ok (.dup, 1) := by decide +kernel
theorem dX2_init_122 : decode cX2_init 122 = .ok (.invokespecial 33, 3) := by decide +kernel
theorem dX2_init_125 : decode cX2_init 125 = .ok (.aastore, 1) := by decide +kernel
theorem dX2_init_126 : decode cX2_init 126 = .ok (.iinc 1 1, 3) := by decide +kernel
theorem dX2_init_129 : decode cX2_init 129 = .ok (.goto (-25), 3) := by decide +kernel
theorem dX2_init_132 : decode cX2_init 132 = .ok (.return_, 1) := by decide +kernel
set_option maxRecDepth 20000 in
theorem ggX2_put_X1_countBelow : GoodIn wsX2_put wsX1_countBelow := goodIn_r _ [10, 11, 12, 35, 36, 37] (by decide +kernel) (by decide +kernel)
set_option maxRecDepth 20000 in
theorem gX2_put_X1_countBelow : GoodIn wsX2_put (wsV RX2 34 RX1 yX1_countBelow wsX1_countBelow) := goodIn_app (goodIn_of _ (by decide +kernel)) ggX2_put_X1_countBelow
set_option maxRecDepth 20000 in
theorem ggX2_put_X1_hasAt : GoodIn wsX2_put wsX1_hasAt := goodIn_r _ [16, 12, 17, 18, 19, 9, 20, 11, 35, 36, 37] (by decide +kernel) (by decide +kernel)
set_option maxRecDepth 20000 in
theorem gX2_put_X1_hasAt : GoodIn wsX2_put (wsV RX2 38 RX1 yX1_hasAt wsX1_hasAt) := goodIn_app (goodIn_of _ (by decide +kernel)) ggX2_put_X1_hasAt
set_option maxRecDepth 20000 in
theorem ggX2_put_X1_insertAt : GoodIn wsX2_put wsX1_insertAt := goodIn_r _ [24, 12, 11, 25, 26, 27, 28, 29, 35, 36, 37] (by decide +kernel) (by decide +kernel)
set_option maxRecDepth 20000 in
theorem gX2_put_X1_insertAt : GoodIn wsX2_put (wsV RX2 53 RX1 yX1_insertAt wsX1_insertAt) := goodIn_app (goodIn_of _ (by decide +kernel)) ggX2_put_X1_insertAt
theorem dX2_put_0 : decode cX2_put 0 = .ok (.aload_n 0, 1) := by decide +kernel
theorem dX2_put_1 : decode cX2_put 1 = .ok (.getfield 10, 3) := by decide +kernel
theorem dX2_put_4 : decode cX2_put 4 = .ok (.iload_n 1, 1) := by decide +kernel
theorem dX2_put_5 : decode cX2_put 5 = .ok (.invokevirtual 34, 3) := by decide +kernel
theorem dX2_put_8 : decode cX2_put 8 = .ok (.istore_n 3, 1) := by decide +kernel
theorem dX2_put_9 : decode cX2_put 9 = .ok (.aload_n 0, 1) := by decide +kernel
theorem dX2_put_10 : decode cX2_put 10 = .ok (.getfield 10, 3) := by decide +kernel
theorem dX2_put_13 : decode cX2_put 13 = .ok (.iload_n 3, 1) := by decide +kernel
theorem dX2_put_14 : decode cX2_put 14 = .ok (.iload_n 1, 1) := by decide +kernel
theorem dX2_put_15 : decode cX2_put 15 = .ok (.invokevirtual 38, 3) := by decide +kernel
theorem dX2_put_18 : decode cX2_put 18 = .ok (.ifCond .eq 15, 3) := by decide +kernel
theorem dX2_put_21 : decode cX2_put 21 = .ok (.aload_n 0, 1) := by decide +kernel
theorem dX2_put_22 : decode cX2_put 22 = .ok (.getfield 10, 3) := by decide +kernel
theorem dX2_put_25 : decode cX2_put 25 = .ok (.getfield 42, 3) := by decide +kernel
theorem dX2_put_28 : decode cX2_put 28 = .ok (.iload_n 3, 1) := by decide +kernel
theorem dX2_put_29 : decode cX2_put 29 = .ok (.iload_n 2, 1) := by decide +kernel
theorem dX2_put_30 : decode cX2_put 30 = .ok (.iastore, 1) := by decide +kernel
theorem dX2_put_31 : decode cX2_put 31 = .ok (.iconst 0, 1) := by decide +kernel
theorem dX2_put_32 : decode cX2_put 32 = .ok (.ireturn, 1) := by decide +kernel
theorem dX2_put_33 : decode cX2_put 33 = .ok (.aload_n 0, 1) := by decide +kernel
theorem dX2_put_34 : decode cX2_put 34 = .ok (.getfield 10, 3) := by decide +kernel
theorem dX2_put_37 : decode cX2_put 37 = .ok (.getfield 46, 3) := by decide +kernel
theorem dX2_put_40 : decode cX2_put 40 = .ok (.sipush 600, 3) := by decide +kernel
theorem dX2_put_43 : decode cX2_put 43 = .ok (.if_icmp .lt 11, 3) := by decide +kernel
theorem dX2_put_46 : decode cX2_put 46 = .ok (.new 50, 3) := by decide +kernel
theorem dX2_put_49 : decode cX2_put 49 = .ok (.dup, 1) := by decide +kernel
theorem dX2_put_50 : decode cX2_put 50 = .ok (.invokespecial 52, 3) := by decide +kernel
theorem dX2_put_53 : decode cX2_put 53 = .ok (.athrow, 1) := by decide +kernel
theorem dX2_put_54 : decode cX2_put 54 = .ok (.aload_n 0, 1) := by decide +kernel
theorem dX2_put_55 : decode cX2_put 55 = .ok (.getfield 10, 3) := by decide +kernel
theorem dX2_put_58 : decode cX2_put 58 = .ok (.iload_n 3, 1) := by decide +kernel
theorem dX2_put_59 : decode cX2_put 59 = .ok (.iload_n 1, 1) := by decide +kernel
theorem dX2_put_60 : decode cX2_put 60 = .ok (.iload_n 2, 1) := by decide +kernel
theorem dX2_put_61 : decode cX2_put 61 = .ok (.invokevirtual 53, 3) := by decide +kernel
theorem dX2_put_64 : decode cX2_put 64 = .ok (.iconst 1, 1) := by decide +kernel
theorem dX2_put_65 : decode cX2_put 65 = .ok (.ireturn, 1) := by decide +kernel
set_option maxRecDepth 20000 in
theorem ggX2_remove_X1_countBelow : GoodIn wsX2_remove wsX1_countBelow := goodIn_r _ [9, 10, 11, 34, 35, 36] (by decide +kernel) (by decide +kernel)
set_option maxRecDepth 20000 in
theorem gX2_remove_X1_countBelow : GoodIn wsX2_remove (wsV RX2 34 RX1 yX1_countBelow wsX1_countBelow) := goodIn_app (goodIn_of _ (by decide +kernel)) ggX2_remove_X1_countBelow
set_option maxRecDepth 20000 in
theorem ggX2_remove_X1_hasAt : GoodIn wsX2_remove wsX1_hasAt := goodIn_r _ [15, 11, 16, 17, 18, 8, 19, 10, 34, 35, 36] (by decide +kernel) (by decide +kernel)
set_option maxRecDepth 20000 in
theorem gX2_remove_X1_hasAt : GoodIn wsX2_remove (wsV RX2 38 RX1 yX1_hasAt wsX1_hasAt) := goodIn_app (goodIn_of _ (by decide +kernel)) ggX2_remove_X1_hasAt
set_option maxRecDepth 20000 in
theorem ggX2_remove_X1_dropBetween : GoodIn wsX2_remove wsX1_dropBetween := goodIn_r _ [23, 11, 10, 24, 25, 26, 27, 28, 34, 35, 36] (by decide +kernel) (by decide +kernel)
set_option maxRecDepth 20000 in
theorem gX2_remove_X1_dropBetween : GoodIn wsX2_remove (wsV RX2 60 RX1 yX1_dropBetween wsX1_dropBetween) := goodIn_app (goodIn_of _ (by decide +kernel)) ggX2_remove_X1_dropBetween
theorem dX2_remove_0 : decode cX2_remove 0 = .ok (.aload_n 0, 1) := by decide +kernel
theorem dX2_remove_1 : decode cX2_remove 1 = .ok (.getfield 10, 3) := by decide +kernel
theorem dX2_remove_4 : decode cX2_remove 4 = .ok (.iload_n 1, 1) := by decide +kernel
theorem dX2_remove_5 : decode cX2_remove 5 = .ok (.invokevirtual 34, 3) := by decide +kernel
theorem dX2_remove_8 : decode cX2_remove 8 = .ok (.istore_n 2, 1) := by decide +kernel
theorem dX2_remove_9 : decode cX2_remove 9 = .ok (.aload_n 0, 1) := by decide +kernel
theorem dX2_remove_10 : decode cX2_remove 10 = .ok (.getfield 10, 3) := by decide +kernel
theorem dX2_remove_13 : decode cX2_remove 13 = .ok (.iload_n 2, 1) := by decide +kernel
theorem dX2_remove_14 : decode cX2_remove 14 = .ok (.iload_n 1, 1) := by decide +kernel
theorem dX2_remove_15 : decode cX2_remove 15 = .ok (.invokevirtual 38, 3) := by decide +kernel
theorem dX2_remove_18 : decode cX2_remove 18 = .ok (.ifCond .ne 11, 3) := by decide +kernel
theorem dX2_remove_21 : decode cX2_remove 21 = .ok (.new 57, 3) := by decide +kernel
theorem dX2_remove_24 : decode cX2_remove 24 = .ok (.dup, 1) := by decide +kernel
theorem dX2_remove_25 : decode cX2_remove 25 = .ok (.invokespecial 59, 3) := by decide +kernel
theorem dX2_remove_28 : decode cX2_remove 28 = .ok (.athrow, 1) := by decide +kernel
theorem dX2_remove_29 : decode cX2_remove 29 = .ok (.aload_n 0, 1) := by decide +kernel
theorem dX2_remove_30 : decode cX2_remove 30 = .ok (.getfield 10, 3) := by decide +kernel
theorem dX2_remove_33 : decode cX2_remove 33 = .ok (.getfield 42, 3) := by decide +kernel
theorem dX2_remove_36 : decode cX2_remove 36 = .ok (.iload_n 2, 1) := by decide +kernel
theorem dX2_remove_37 : decode cX2_remove 37 = .ok (.iaload, 1) := by decide +kernel
theorem dX2_remove_38 : decode cX2_remove 38 = .ok (.istore_n 3, 1) := by decide +kernel
theorem dX2_remove_39 : decode cX2_remove 39 = .ok (.aload_n 0, 1) := by decide +kernel
theorem dX2_remove_40 : decode cX2_remove 40 = .ok (.getfield 10, 3) := by decide +kernel
theorem dX2_remove_43 : decode cX2_remove 43 = .ok (.iload_n 2, 1) := by decide +kernel
theorem dX2_remove_44 : decode cX2_remove 44 = .ok (.iload_n 2, 1) := by decide +kernel
theorem dX2_remove_45 : decode cX2_remove 45 = .ok (.iconst 1, 1) := by decide +kernel
theorem dX2_remove_46 : decode cX2_remove 46 = .ok (.iadd, 1) := by decide +kernel
theorem dX2_remove_47 : decode cX2_remove 47 = .ok (.invokevirtual 60, 3) := by decide +kernel
theorem dX2_remove_50 : decode cX2_remove 50 = .ok (.iload_n 3, 1) := by decide +kernel
theorem dX2_remove_51 : decode cX2_remove 51 = .ok (.ireturn, 1) := by decide +kernel
set_option maxRecDepth 20000 in
theorem ggX2_load_X1_fill : GoodIn wsX2_load wsX1_fill := goodIn_r _ [10, 11, 12, 13, 19, 20, 21] (by decide +kernel) (by decide +kernel)
set_option maxRecDepth 20000 in
theorem gX2_load_X1_fill : GoodIn wsX2_load (wsV RX2 71 RX1 yX1_fill wsX1_fill) := goodIn_app (goodIn_of _ (by decide +kernel)) ggX2_load_X1_fill
theorem dX2_load_0 : decode cX2_load 0 = .ok (.iload_n 3, 1) := by decide +kernel
theorem dX2_load_1 : decode cX2_load 1 = .ok (.ifCond .lt 15, 3) := by decide +kernel
theorem dX2_load_4 : decode cX2_load 4 = .ok (.iload_n 3, 1) := by decide +kernel
theorem dX2_load_5 : decode cX2_load 5 = .ok (.sipush 600, 3) := by decide +kernel
theorem dX2_load_8 : decode cX2_load 8 = .ok (.if_icmp .gt 8, 3) := by decide +kernel
theorem dX2_load_11 : decode cX2_load 11 = .ok (.iload_n 2, 1) := by decide +kernel
theorem dX2_load_12 : decode cX2_load 12 = .ok (.iconst 1, 1) := by decide +kernel
theorem dX2_load_13 : decode cX2_load 13 = .ok (.if_icmp .ge 11, 3) := by decide +kernel
theorem dX2_load_16 : decode cX2_load 16 = .ok (.new 64, 3) := by decide +kernel
theorem dX2_load_19 : decode cX2_load 19 = .ok (.dup, 1) := by decide +kernel
theorem dX2_load_20 : decode cX2_load 20 = .ok (.invokespecial 66, 3) := by decide +kernel
theorem dX2_load_23 : decode cX2_load 23 = .ok (.athrow, 1) := by decide +kernel
theorem dX2_load_24 : decode cX2_load 24 = .ok (.iload_n 1, 1) := by decide +kernel
theorem dX2_load_25 : decode cX2_load 25 = .ok (.i2l, 1) := by decide +kernel
theorem dX2_load_26 : decode cX2_load 26 = .ok (.iload_n 2, 1) := by decide +kernel
theorem dX2_load_27 : decode cX2_load 27 = .ok (.i2l, 1) := by decide +kernel
theorem dX2_load_28 : decode cX2_load 28 = .ok (.iload_n 3, 1) := by decide +kernel
theorem dX2_load_29 : decode cX2_load 29 = .ok (.iconst 1, 1) := by decide +kernel
theorem dX2_load_30 : decode cX2_load 30 = .ok (.isub, 1) := by decide +kernel
theorem dX2_load_31 : decode cX2_load 31 = .ok (.i2l, 1) := by decide +kernel
theorem dX2_load_32 : decode cX2_load 32 = .ok (.lmul, 1) := by decide +kernel
theorem dX2_load_33 : decode cX2_load 33 = .ok (.ladd, 1) := by decide +kernel
theorem dX2_load_34 : decode cX2_load 34 = .ok (.lstore 6, 2) := by decide +kernel
theorem dX2_load_36 : decode cX2_load 36 = .ok (.lload 6, 2) := by decide +kernel
theorem dX2_load_38 : decode cX2_load 38 = .ok (.ldc2_w 69, 3) := by decide +kernel
theorem dX2_load_41 : decode cX2_load 41 = .ok (.lcmp, 1) := by decide +kernel
theorem dX2_load_42 : decode cX2_load 42 = .ok (.ifCond .le 11, 3) := by decide +kernel
theorem dX2_load_45 : decode cX2_load 45 = .ok (.new 64, 3) := by decide +kernel
theorem dX2_load_48 : decode cX2_load 48 = .ok (.dup, 1) := by decide +kernel
theorem dX2_load_49 : decode cX2_load 49 = .ok (.invokespecial 66, 3) := by decide +kernel
theorem dX2_load_52 : decode cX2_load 52 = .ok (.athrow, 1) := by decide +kernel
theorem dX2_load_53 : decode cX2_load 53 = .ok (.aload_n 0, 1) := by decide +kernel
theorem dX2_load_54 : decode cX2_load 54 = .ok (.getfield 10, 3) := by decide +kernel
theorem dX2_load_57 : decode cX2_load 57 = .ok (.getfield 46, 3) := by decide +kernel
theorem dX2_load_60 : decode cX2_load 60 = .ok (.istore 8, 2) := by decide +kernel
theorem dX2_load_62 : decode cX2_load 62 = .ok (.aload_n 0, 1) := by decide +kernel
theorem dX2_load_63 : decode cX2_load 63 = .ok (.getfield 10, 3) := by decide +kernel
theorem dX2_load_66 : decode cX2_load 66 = .ok (.iload_n 1, 1) := by decide +kernel
theorem dX2_load_67 : decode cX2_load 67 = .ok (.iload_n 2, 1) := by decide +kernel
theorem dX2_load_68 : decode cX2_load 68 = .ok (.iload_n 3, 1) := by decide +kernel
theorem dX2_load_69 : decode cX2_load 69 = .ok (.iload 4, 2) := by decide +kernel
theorem dX2_load_71 : decode cX2_load 71 = .ok (.iload 5, 2) := by decide +kernel
theorem dX2_load_73 : decode cX2_load 73 = .ok (.invokevirtual 71, 3) := by decide +kernel
theorem dX2_load_76 : decode cX2_load 76 = .ok (.iload 8, 2) := by decide +kernel
theorem dX2_load_78 : decode cX2_load 78 = .ok (.ireturn, 1) := by decide +kernel
set_option maxRecDepth 20000 in
theorem ggX2_cut_X1_countBelow : GoodIn wsX2_cut wsX1_countBelow := goodIn_r _ [6, 7, 8, 36, 37, 38] (by decide +kernel) (by decide +kernel)
set_option maxRecDepth 20000 in
theorem gX2_cut_X1_countBelow : GoodIn wsX2_cut (wsV RX2 34 RX1 yX1_countBelow wsX1_countBelow) := goodIn_app (goodIn_of _ (by decide +kernel)) ggX2_cut_X1_countBelow
set_option maxRecDepth 20000 in
theorem ggX2_cut_X1_countNotAbove : GoodIn wsX2_cut wsX1_countNotAbove := goodIn_r _ [12, 13, 3, 4, 5, 6, 7, 8, 14, 15, 16, 17, 18, 19, 20, 21, 36, 37, 38] (by decide +kernel) (by decide +kernel)
set_option maxRecDepth 20000 in
theorem gX2_cut_X1_countNotAbove : GoodIn wsX2_cut (wsV RX2 75 RX1 yX1_countNotAbove wsX1_countNotAbove) := goodIn_app (goodIn_of _ (by decide +kernel)) ggX2_cut_X1_countNotAbove
set_option maxRecDepth 20000 in
theorem ggX2_cut_X1_dropBetween : GoodIn wsX2_cut wsX1_dropBetween := goodIn_r _ [25, 8, 7, 26, 27, 28, 29, 30, 36, 37, 38] (by decide +kernel) (by decide +kernel)
set_option maxRecDepth 20000 in
theorem gX2_cut_X1_dropBetween : GoodIn wsX2_cut (wsV RX2 60 RX1 yX1_dropBetween wsX1_dropBetween) := goodIn_app (goodIn_of _ (by decide +kernel)) ggX2_cut_X1_dropBetween
theorem dX2_cut_0 : decode cX2_cut 0 = .ok (.aload_n 0, 1) := by decide +kernel
theorem dX2_cut_1 : decode cX2_cut 1 = .ok (.getfield 10, 3) := by decide +kernel
theorem dX2_cut_4 : decode cX2_cut 4 = .ok (.iload_n 1, 1) := by decide +kernel
theorem dX2_cut_5 : decode cX2_cut 5 = .ok (.invokevirtual 34, 3) := by decide +kernel
theorem dX2_cut_8 : decode cX2_cut 8 = .ok (.istore_n 3, 1) := by decide +kernel
theorem dX2_cut_9 : decode cX2_cut 9 = .ok (.aload_n 0, 1) := by decide +kernel
theorem dX2_cut_10 : decode cX2_cut 10 = .ok (.getfield 10, 3) := by decide +kernel
theorem dX2_cut_13 : decode cX2_cut 13 = .ok (.iload_n 2, 1) := by decide +kernel
theorem dX2_cut_14 : decode cX2_cut 14 = .ok (.invokevirtual 75, 3) := by decide +kernel
theorem dX2_cut_17 : decode cX2_cut 17 = .ok (.istore 4, 2) := by decide +kernel
theorem dX2_cut_19 : decode cX2_cut 19 = .ok (.iload_n 3, 1) := by decide +kernel
theorem dX2_cut_20 : decode cX2_cut 20 = .ok (.iload 4, 2) := by decide +kernel
theorem dX2_cut_22 : decode cX2_cut 22 = .ok (.if_icmp .lt 5, 3) := by decide +kernel
theorem dX2_cut_25 : decode cX2_cut 25 = .ok (.iconst 0, 1) := by decide +kernel
theorem dX2_cut_26 : decode cX2_cut 26 = .ok (.ireturn, 1) := by decide +kernel
theorem dX2_cut_27 : decode cX2_cut 27 = .ok (.aload_n 0, 1) := by decide +kernel
theorem dX2_cut_28 : decode cX2_cut 28 = .ok (.getfield 10, 3) := by decide +kernel
theorem dX2_cut_31 : decode cX2_cut 31 = .ok (.iload_n 3, 1) := by decide +kernel
theorem dX2_cut_32 : decode cX2_cut 32 = .ok (.iload 4, 2) := by decide +kernel
theorem dX2_cut_34 : decode cX2_cut 34 = .ok (.invokevirtual 60, 3) := by decide +kernel
theorem dX2_cut_37 : decode cX2_cut 37 = .ok (.iload 4, 2) := by decide +kernel
theorem dX2_cut_39 : decode cX2_cut 39 = .ok (.iload_n 3, 1) := by decide +kernel
theorem dX2_cut_40 : decode cX2_cut 40 = .ok (.isub, 1) := by decide +kernel
theorem dX2_cut_41 : decode cX2_cut 41 = .ok (.ireturn, 1) := by decide +kernel
set_option maxRecDepth 20000 in
theorem ggX2_merge_X2_mapOf : GoodIn wsX2_merge wsX2_mapOf := goodIn_ca (goodIn_r _ [9, 10, 11, 12, 13, 14, 15, 8, 16, 40, 41, 42, 43, 44] (by decide +kernel) (by decide +kernel)) (goodIn_sub (fun _ h => List.mem_cons_of_mem _ (List.mem_append_right _ h)) (by decide +kernel))
set_option maxRecDepth 20000 in
theorem gX2_merge_X2_mapOf : GoodIn wsX2_merge (wsV RX2 78 RX2 yX2_mapOf wsX2_mapOf) := goodIn_app (goodIn_of _ (by decide +kernel)) ggX2_merge_X2_mapOf
set_option maxRecDepth 20000 in
theorem ggX2_merge_X1_countShared : GoodIn wsX2_merge wsX1_countShared := goodIn_r _ [21, 22, 23, 24, 25, 26, 27, 20, 28, 29, 30, 31, 32, 37, 38, 39] (by decide +kernel) (by decide +kernel)
set_option maxRecDepth 20000 in
theorem gX2_merge_X1_countShared : GoodIn wsX2_merge (wsV RX2 82 RX1 yX1_countShared wsX1_countShared) := goodIn_app (goodIn_of _ (by decide +kernel)) ggX2_merge_X1_countShared
set_option maxRecDepth 20000 in
theorem ggX2_merge_X1_takeOver : GoodIn wsX2_merge wsX1_takeOver := goodIn_r _ [36, 22, 23, 24, 25, 26, 27, 20, 28, 29, 30, 31, 32, 37, 38, 39] (by decide +kernel) (by decide +kernel)
set_option maxRecDepth 20000 in
theorem gX2_merge_X1_takeOver : GoodIn wsX2_merge (wsV RX2 86 RX1 yX1_takeOver wsX1_takeOver) := goodIn_app (goodIn_of _ (by decide +kernel)) ggX2_merge_X1_takeOver
theorem dX2_merge_0 : decode cX2_merge 0 = .ok (.aload_n 0, 1) := by decide +kernel
theorem dX2_merge_1 : decode cX2_merge 1 = .ok (.iload_n 1, 1) := by decide +kernel
theorem dX2_merge_2 : decode cX2_merge 2 = .ok (.invokevirtual 78, 3) := by decide +kernel
theorem dX2_merge_5 : decode cX2_merge 5 = .ok (.astore_n 2, 1) := by decide +kernel
theorem dX2_merge_6 : decode cX2_merge 6 = .ok (.aload_n 2, 1) := by decide +kernel
theorem dX2_merge_7 : decode cX2_merge 7 = .ok (.getfield 46, 3) := by decide +kernel
theorem dX2_merge_10 : decode cX2_merge 10 = .ok (.aload_n 2, 1) := by decide +kernel
theorem dX2_merge_11 : decode cX2_merge 11 = .ok (.aload_n 0, 1) := by decide +kernel
theorem dX2_merge_12 : decode cX2_merge 12 = .ok (.getfield 10, 3) := by decide +kernel
theorem dX2_merge_15 : decode cX2_merge 15 = .ok (.iconst 0, 1) := by decide +kernel
theorem dX2_merge_16 : decode cX2_merge 16 = .ok (.invokevirtual 82, 3) := by decide +kernel
theorem dX2_merge_19 : decode cX2_merge 19 = .ok (.isub, 1) := by decide +kernel
theorem dX2_merge_20 : decode cX2_merge 20 = .ok (.istore_n 3, 1) := by decide +kernel
theorem dX2_merge_21 : decode cX2_merge 21 = .ok (.aload_n 0, 1) := by decide +kernel
theorem dX2_merge_22 : decode cX2_merge 22 = .ok (.getfield 10, 3) := by decide +kernel
theorem dX2_merge_25 : decode cX2_merge 25 = .ok (.getfield 46, 3) := by decide +kernel
theorem dX2_merge_28 : decode cX2_merge 28 = .ok (.iload_n 3, 1) := by decide +kernel
theorem dX2_merge_29 : decode cX2_merge 29 = .ok (.iadd, 1) := by decide +kernel
theorem dX2_merge_30 : decode cX2_merge 30 = .ok (.sipush 600, 3) := by decide +kernel
theorem dX2_merge_33 : decode cX2_merge 33 = .ok (.if_icmp .le 11, 3) := by decide +kernel
theorem dX2_merge_36 : decode cX2_merge 36 = .ok (.new 50, 3) := by decide +kernel
theorem dX2_merge_39 : decode cX2_merge 39 = .ok (.dup, 1) := by decide +kernel
theorem dX2_merge_40 : decode cX2_merge 40 = .ok (.invokespecial 52, 3) := by decide +kernel
theorem dX2_merge_43 : decode cX2_merge 43 = .ok (.athrow, 1) := by decide +kernel
theorem dX2_merge_44 : decode cX2_merge 44 = .ok (.aload_n 0, 1) := by decide +kernel
theorem dX2_merge_45 : decode cX2_merge 45 = .ok (.getfield 10, 3) := by decide +kernel
theorem dX2_merge_48 : decode cX2_merge 48 = .ok (.aload_n 2, 1) := by decide +kernel
theorem dX2_merge_49 : decode cX2_merge 49 = .ok (.iload_n 3, 1) := by decide +kernel
theorem dX2_merge_50 : decode cX2_merge 50 = .ok (.invokevirtual 86, 3) := by decide +kernel
theorem dX2_merge_53 : decode cX2_merge 53 = .ok (.iload_n 3, 1) := by decide +kernel
theorem dX2_merge_54 : decode cX2_merge 54 = .ok (.ireturn, 1) := by decide +kernel
set_option maxRecDepth 20000 in
theorem ggX2_snapshot_X2_leastFree : GoodIn wsX2_snapshot wsX2_leastFree := goodIn_r _ [9] (by decide +kernel) (by decide +kernel)
set_option maxRecDepth 20000 in
theorem gX2_snapshot_X2_leastFree : GoodIn wsX2_snapshot (va_wsS RX2 90 yX2_leastFree wsX2_leastFree) := goodIn_app (goodIn_of _ (by decide +kernel)) ggX2_snapshot_X2_leastFree
set_option maxRecDepth 20000 in
theorem ggX2_snapshot_X1_copyFrom : GoodIn wsX2_snapshot wsX1_copyFrom := goodIn_r _ [14, 15, 16, 17, 18, 19, 20, 21, 27, 28, 29] (by decide +kernel) (by decide +kernel)
set_option maxRecDepth 20000 in
theorem gX2_snapshot_X1_copyFrom : GoodIn wsX2_snapshot (wsV RX2 94 RX1 yX1_copyFrom wsX1_copyFrom) := goodIn_app (goodIn_of _ (by decide +kernel)) ggX2_snapshot_X1_copyFrom
theorem dX2_snapshot_0 : decode cX2_snapshot 0 = .ok (.aload_n 0, 1) := by decide +kernel
theorem dX2_snapshot_1 : decode cX2_snapshot 1 = .ok (.getfield 20, 3) := by decide +kernel
theorem dX2_snapshot_4 : decode cX2_snapshot 4 = .ok (.iconst 1, 1) := by decide +kernel
theorem dX2_snapshot_5 : decode cX2_snapshot 5 = .ok (.invokestatic 90, 3) := by decide +kernel
theorem dX2_snapshot_8 : decode cX2_snapshot 8 = .ok (.istore_n 1, 1) := by decide +kernel
theorem dX2_snapshot_9 : decode cX2_snapshot 9 = .ok (.iload_n 1, 1) := by decide +kernel
theorem dX2_snapshot_10 : decode cX2_snapshot 10 = .ok (.aload_n 0, 1) := by decide +kernel
theorem dX2_snapshot_11 : decode cX2_snapshot 11 = .ok (.getfield 20, 3) := by decide +kernel
theorem dX2_snapshot_14 : decode cX2_snapshot 14 = .ok (.arraylength, 1) := by decide +kernel
theorem dX2_snapshot_15 : decode cX2_snapshot 15 = .ok (.if_icmp .ne 11, 3) := by decide +kernel
theorem dX2_snapshot_18 : decode cX2_snapshot 18 = .ok (.new 50, 3) := by decide +kernel
theorem dX2_snapshot_21 : decode cX2_snapshot 21 = .ok (.dup, 1) := by decide +kernel
theorem dX2_snapshot_22 : decode cX2_snapshot 22 = .ok (.invokespecial 52, 3) := by decide +kernel
theorem dX2_snapshot_25 : decode cX2_snapshot 25 = .ok (.athrow, 1) := by decide +kernel
theorem dX2_snapshot_26 : decode cX2_snapshot 26 = .ok (.aload_n 0, 1) := by decide +kernel
theorem dX2_snapshot_27 : decode cX2_snapshot 27 = .ok (.getfield 16, 3) := by decide +kernel
theorem dX2_snapshot_30 : decode cX2_snapshot 30 = .ok (.iload_n 1, 1) := by decide +kernel
theorem dX2_snapshot_31 : decode cX2_snapshot 31 = .ok (.aaload, 1) := by decide +kernel
theorem dX2_snapshot_32 : decode cX2_snapshot 32 = .ok (.aload_n 0, 1) := by decide +kernel
theorem dX2_snapshot_33 : decode cX2_snapshot 33 = .ok (.getfield 10, 3) := by decide +kernel
theorem dX2_snapshot_36 : decode cX2_snapshot 36 = .ok (.invokevirtual 94, 3) := by decide +kernel
theorem dX2_snapshot_39 : decode cX2_snapshot 39 = .ok (.aload_n 0, 1) := by decide +kernel
theorem dX2_snapshot_40 : decode cX2_snapshot 40 = .ok (.getfield 20, 3) := by decide +kernel
theorem dX2_snapshot_43 : decode cX2_snapshot 43 = .ok (.iload_n 1, 1) := by decide +kernel
theorem dX2_snapshot_44 : decode cX2_snapshot 44 = .ok (.iconst 1, 1) := by decide +kernel
theorem dX2_snapshot_45 : decode cX2_snapshot 45 = .ok (.bastore, 1) := by decide +kernel
theorem dX2_snapshot_46 : decode cX2_snapshot 46 = .ok (.iload_n 1, 1) := by decide +kernel
theorem dX2_snapshot_47 : decode cX2_snapshot 47 = .ok (.ireturn, 1) := by decide +kernel
set_option maxRecDepth 20000 in
theorem ggX2_release_X2_snapshotOf : GoodIn wsX2_release wsX2_snapshotOf := goodIn_ca (goodIn_r _ [7, 8, 9, 10, 11, 12, 6, 13, 2, 14, 15, 16, 17, 24, 25, 26, 27, 28] (by decide +kernel) (by decide +kernel)) (goodIn_sub (fun _ h => List.mem_cons_of_mem _ (List.mem_append_right _ h)) (by decide +kernel))
set_option maxRecDepth 20000 in
theorem gX2_release_X2_snapshotOf : GoodIn wsX2_release (wsV RX2 98 RX2 yX2_snapshotOf wsX2_snapshotOf) := goodIn_app (goodIn_of _ (by decide +kernel)) ggX2_release_X2_snapshotOf
set_option maxRecDepth 20000 in
theorem ggX2_release_X2_countTaken : GoodIn wsX2_release wsX2_countTaken := goodIn_r _ [20] (by decide +kernel) (by decide +kernel)
set_option maxRecDepth 20000 in
theorem gX2_release_X2_countTaken : GoodIn wsX2_release (va_wsS RX2 101 yX2_countTaken wsX2_countTaken) := goodIn_app (goodIn_of _ (by decide +kernel)) ggX2_release_X2_countTaken
theorem dX2_release_0 : decode cX2_release 0 = .ok (.aload_n 0, 1) := by decide +kernel
theorem dX2_release_1 : decode cX2_release 1 = .ok (.iload_n 1, 1) := by decide +kernel
theorem dX2_release_2 : decode cX2_release 2 = .ok (.invokevirtual 98, 3) := by decide +kernel
theorem dX2_release_5 : decode cX2_release 5 = .ok (.iconst 0, 1) := by decide +kernel
theorem dX2_release_6 : decode cX2_release 6 = .ok (.putfield 46, 3) := by decide +kernel
theorem dX2_release_9 : decode cX2_release 9 = .ok (.aload_n 0, 1) := by decide +kernel
theorem dX2_release_10 : decode cX2_release 10 = .ok (.getfield 20, 3) := by decide +kernel
theorem dX2_release_13 : decode cX2_release 13 = .ok (.iload_n 1, 1) := by decide +kernel
theorem dX2_release_14 : decode cX2_release 14 = .ok (.iconst 0, 1) := by decide +kernel
theorem dX2_release_15 : decode cX2_release 15 = .ok (.bastore, 1) := by decide +kernel
theorem dX2_release_16 : decode cX2_release 16 = .ok (.aload_n 0, 1) := by decide +kernel
theorem dX2_release_17 : decode cX2_release 17 = .ok (.getfield 20, 3) := by decide +kernel
theorem dX2_release_20 : decode cX2_release 20 = .ok (.iconst 1, 1) := by decide +kernel
theorem dX2_release_21 : decode cX2_release 21 = .ok (.invokestatic 101, 3) := by decide +kernel
theorem dX2_release_24 : decode cX2_release 24 = .ok (.ireturn, 1) := by decide +kernel
set_option maxRecDepth 20000 in
theorem ggX2_restore_X2_snapshotOf : GoodIn wsX2_restore wsX2_snapshotOf := goodIn_ca (goodIn_r _ [7, 8, 9, 10, 11, 12, 6, 13, 14, 15, 16, 17, 18, 31, 32, 33, 34, 35] (by decide +kernel) (by decide +kernel)) (goodIn_sub (fun _ h => List.mem_cons_of_mem _ (List.mem_append_right _ h)) (by decide +kernel))
set_option maxRecDepth 20000 in
theorem gX2_restore_X2_snapshotOf : GoodIn wsX2_restore (wsV RX2 98 RX2 yX2_snapshotOf wsX2_snapshotOf) := goodIn_app (goodIn_of _ (by decide +kernel)) ggX2_restore_X2_snapshotOf
set_option maxRecDepth 20000 in
theorem ggX2_restore_X1_copyFrom : GoodIn wsX2_restore wsX1_copyFrom := goodIn_r _ [23, 24, 25, 26, 27, 28, 29, 30, 36, 37, 38] (by decide +kernel) (by decide +kernel)
set_option maxRecDepth 20000 in
theorem gX2_restore_X1_copyFrom : GoodIn wsX2_restore (wsV RX2 94 RX1 yX1_copyFrom wsX1_copyFrom) := goodIn_app (goodIn_of _ (by decide +kernel)) ggX2_restore_X1_copyFrom
theorem dX2_restore_0 : decode cX2_restore 0 = .ok (.aload_n 0, 1) := by decide +kernel
theorem dX2_restore_1 : decode cX2_restore 1 = .ok (.getfield 10, 3) := by decide +kernel
theorem dX2_restore_4 : decode cX2_restore 4 = .ok (.aload_n 0, 1) := by decide +kernel
theorem dX2_restore_5 : decode cX2_restore 5 = .ok (.iload_n 1, 1) := by decide +kernel
theorem dX2_restore_6 : decode cX2_restore 6 = .ok (.invokevirtual 98, 3) := by decide +kernel
theorem dX2_restore_9 : decode cX2_restore 9 = .ok (.invokevirtual 94, 3) := by decide +kernel
theorem dX2_restore_12 : decode cX2_restore 12 = .ok (.aload_n 0, 1) := by decide +kernel
theorem dX2_restore_13 : decode cX2_restore 13 = .ok (.getfield 10, 3) := by decide +kernel
theorem dX2_restore_16 : decode cX2_restore 16 = .ok (.getfield 46, 3) := by decide +kernel
theorem dX2_restore_19 : decode cX2_restore 19 = .ok (.ireturn, 1) := by decide +kernel
set_option maxRecDepth 20000 in
theorem ggX2_size_X2_mapOf : GoodIn wsX2_size wsX2_mapOf := goodIn_ca (goodIn_r _ [6, 7, 8, 9, 10, 11, 12, 5, 13, 17, 18, 19, 20, 21] (by decide +kernel) (by decide +kernel)) (goodIn_sub (fun _ h => List.mem_cons_of_mem _ (List.mem_append_right _ h)) (by decide +kernel))
set_option maxRecDepth 20000 in
theorem gX2_size_X2_mapOf : GoodIn wsX2_size (wsV RX2 78 RX2 yX2_mapOf wsX2_mapOf) := goodIn_app (goodIn_of _ (by decide +kernel)) ggX2_size_X2_mapOf
theorem dX2_size_0 : decode cX2_size 0 = .ok (.aload_n 0, 1) := by decide +kernel
theorem dX2_size_1 : decode cX2_size 1 = .ok (.iload_n 1, 1) := by decide +kernel
theorem dX2_size_2 : decode cX2_size 2 = .ok (.invokevirtual 78, 3) := by decide +kernel
theorem dX2_size_5 : decode cX2_size 5 = .ok (.getfield 46, 3) := by decide +kernel
theorem dX2_size_8 : decode cX2_size 8 = .ok (.ireturn, 1) := by decide +kernel
set_option maxRecDepth 20000 in
theorem ggX2_get_X2_mapOf : GoodIn wsX2_get wsX2_mapOf := goodIn_ca (goodIn_r _ [8, 9, 10, 11, 12, 13, 14, 7, 15, 34, 35, 36, 37, 38] (by decide +kernel) (by decide +kernel)) (goodIn_sub (fun _ h => List.mem_cons_of_mem _ (List.mem_append_right _ h)) (by decide +kernel))
set_option maxRecDepth 20000 in
theorem gX2_get_X2_mapOf : GoodIn wsX2_get (wsV RX2 78 RX2 yX2_mapOf wsX2_mapOf) := goodIn_app (goodIn_of _ (by decide +kernel)) ggX2_get_X2_mapOf
set_option maxRecDepth 20000 in
theorem ggX2_get_X1_countBelow : GoodIn wsX2_get wsX1_countBelow := goodIn_r _ [20, 21, 22, 31, 32, 33] (by decide +kernel) (by decide +kernel)
set_option maxRecDepth 20000 in
theorem gX2_get_X1_countBelow : GoodIn wsX2_get (wsV RX2 34 RX1 yX1_countBelow wsX1_countBelow) := goodIn_app (goodIn_of _ (by decide +kernel)) ggX2_get_X1_countBelow
set_option maxRecDepth 20000 in
theorem ggX2_get_X1_hasAt : GoodIn wsX2_get wsX1_hasAt := goodIn_r _ [26, 22, 27, 28, 29, 19, 30, 21, 31, 32, 33] (by decide +kernel) (by decide +kernel)
set_option maxRecDepth 20000 in
theorem gX2_get_X1_hasAt : GoodIn wsX2_get (wsV RX2 38 RX1 yX1_hasAt wsX1_hasAt) := goodIn_app (goodIn_of _ (by decide +kernel)) ggX2_get_X1_hasAt
theorem dX2_get_0 : decode cX2_get 0 = .ok (.aload_n 0, 1) := by decide +kernel
theorem dX2_get_1 : decode cX2_get 1 = .ok (.iload_n 1, 1) := by decide +kernel
theorem dX2_get_2 : decode cX2_get 2 = .ok (.invokevirtual 78, 3) := by decide +kernel
theorem dX2_get_5 : decode cX2_get 5 = .ok (.astore_n 3, 1) := by decide +kernel
theorem dX2_get_6 : decode cX2_get 6 = .ok (.aload_n 3, 1) := by decide +kernel
theorem dX2_get_7 : decode cX2_get 7 = .ok (.iload_n 2, 1) := by decide +kernel
theorem dX2_get_8 : decode cX2_get 8 = .ok (.invokevirtual 34, 3) := by decide +kernel
theorem dX2_get_11 : decode cX2_get 11 = .ok (.istore 4, 2) := by decide +kernel
theorem dX2_get_13 : decode cX2_get 13 = .ok (.aload_n 3, 1) := by decide +kernel
theorem dX2_get_14 : decode cX2_get 14 = .ok (.iload 4, 2) := by decide +kernel
theorem dX2_get_16 : decode cX2_get 16 = .ok (.iload_n 2, 1) := by decide +kernel
theorem dX2_get_17 : decode cX2_get 17 = .ok (.invokevirtual 38, 3) := by decide +kernel
theorem dX2_get_20 : decode cX2_get 20 = .ok (.ifCond .ne 11, 3) := by decide +kernel
theorem dX2_get_23 : decode cX2_get 23 = .ok (.new 57, 3) := by decide +kernel
theorem dX2_get_26 : decode cX2_get 26 = .ok (.dup, 1) := by decide +kernel
theorem dX2_get_27 : decode cX2_get 27 = .ok (.invokespecial 59, 3) := by decide +kernel
theorem dX2_get_30 : decode cX2_get 30 = .ok (.athrow, 1) := by decide +kernel
theorem dX2_get_31 : decode cX2_get 31 = .ok (.aload_n 3, 1) := by decide +kernel
theorem dX2_get_32 : decode cX2_get 32 = .ok (.getfield 42, 3) := by decide +kernel
theorem dX2_get_35 : decode cX2_get 35 = .ok (.iload 4, 2) := by decide +kernel
theorem dX2_get_37 : decode cX2_get 37 = .ok (.iaload, 1) := by decide +kernel
theorem dX2_get_38 : decode cX2_get 38 = .ok (.ireturn, 1) := by decide +kernel
set_option maxRecDepth 20000 in
theorem ggX2_rank_X2_mapOf : GoodIn wsX2_rank wsX2_mapOf := goodIn_ca (goodIn_r _ [5, 6, 7, 8, 9, 10, 11, 4, 12, 20, 21, 22, 23, 24] (by decide +kernel) (by decide +kernel)) (goodIn_sub (fun _ h => List.mem_cons_of_mem _ (List.mem_append_right _ h)) (by decide +kernel))
set_option maxRecDepth 20000 in
theorem gX2_rank_X2_mapOf : GoodIn wsX2_rank (wsV RX2 78 RX2 yX2_mapOf wsX2_mapOf) := goodIn_app (goodIn_of _ (by decide +kernel)) ggX2_rank_X2_mapOf
set_option maxRecDepth 20000 in
theorem ggX2_rank_X1_countBelow : GoodIn wsX2_rank wsX1_countBelow := goodIn_r _ [17, 18, 19, 25, 26, 27] (by decide +kernel) (by decide +kernel)
set_option maxRecDepth 20000 in
theorem gX2_rank_X1_countBelow : GoodIn wsX2_rank (wsV RX2 34 RX1 yX1_countBelow wsX1_countBelow) := goodIn_app (goodIn_of _ (by decide +kernel)) ggX2_rank_X1_countBelow
theorem dX2_rank_0 : decode cX2_rank 0 = .ok (.aload_n 0, 1) := by decide +kernel
theorem dX2_rank_1 : decode cX2_rank 1 = .ok (.iload_n 1, 1) := by decide +kernel
theorem dX2_rank_2 : decode cX2_rank 2 = .ok (.invokevirtual 78, 3) := by decide +kernel
theorem dX2_rank_5 : decode cX2_rank 5 = .ok (.iload_n 2, 1) := by decide +kernel
theorem dX2_rank_6 : decode cX2_rank 6 = .ok (.invokevirtual 34, 3) := by decide +kernel
theorem dX2_rank_9 : decode cX2_rank 9 = .ok (.ireturn, 1) := by decide +kernel
set_option maxRecDepth 20000 in
theorem ggX2_select_X2_mapOf : GoodIn wsX2_select wsX2_mapOf := goodIn_ca (goodIn_r _ [5, 6, 7, 8, 9, 10, 11, 4, 12, 25, 26, 27, 28, 29] (by decide +kernel) (by decide +kernel)) (goodIn_sub (fun _ h => List.mem_cons_of_mem _ (List.mem_append_left _ (List.mem_append_right _ h))) (by decide +kernel))
set_option maxRecDepth 20000 in
theorem gX2_select_X2_mapOf : GoodIn wsX2_select (wsV RX2 78 RX2 yX2_mapOf wsX2_mapOf) := goodIn_app (goodIn_of _ (by decide +kernel)) ggX2_select_X2_mapOf
set_option maxRecDepth 20000 in
theorem ggX2_select_X2_keyAt : GoodIn wsX2_select wsX2_keyAt := goodIn_ca (goodIn_r _ [15, 16, 17, 18, 19, 20, 21, 22, 23, 24, 30, 31, 32] (by decide +kernel) (by decide +kernel)) (goodIn_sub (fun _ h => List.mem_cons_of_mem _ (List.mem_append_right _ h)) (by decide +kernel))
set_option maxRecDepth 20000 in
theorem gX2_select_X2_keyAt : GoodIn wsX2_select (va_wsS RX2 104 yX2_keyAt wsX2_keyAt) := goodIn_app (goodIn_of _ (by decide +kernel)) ggX2_select_X2_keyAt
theorem dX2_select_0 : decode cX2_select 0 = .ok (.aload_n 0, 1) := by decide +kernel
theorem dX2_select_1 : decode cX2_select 1 = .ok (.iload_n 1, 1) := by decide +kernel
theorem dX2_select_2 : decode cX2_select 2 = .ok (.invokevirtual 78, 3) := by decide +kernel
theorem dX2_select_5 : decode cX2_select 5 = .ok (.iload_n 2, 1) := by decide +kernel
theorem dX2_select_6 : decode cX2_select 6 = .ok (.invokestatic 104, 3) := by decide +kernel
theorem dX2_select_9 : decode cX2_select 9 = .ok (.ireturn, 1) := by decide +kernel
set_option maxRecDepth 20000 in
theorem ggX2_near_X2_mapOf : GoodIn wsX2_near wsX2_mapOf := goodIn_ca (goodIn_r _ [5, 6, 7, 8, 9, 10, 11, 4, 12, 43, 44, 45, 46, 47] (by decide +kernel) (by decide +kernel)) (goodIn_sub (fun _ h => List.mem_cons_of_mem _ (List.mem_append_left _ (List.mem_append_right _ h))) (by decide +kernel))
set_option maxRecDepth 20000 in
theorem gX2_near_X2_mapOf : GoodIn wsX2_near (wsV RX2 78 RX2 yX2_mapOf wsX2_mapOf) := goodIn_app (goodIn_of _ (by decide +kernel)) ggX2_near_X2_mapOf
set_option maxRecDepth 20000 in
theorem ggX2_near_X1_nearest : GoodIn wsX2_near wsX1_nearest := goodIn_r _ [17, 18, 19, 20, 16, 21, 22, 23, 24, 25, 26, 27, 28, 29, 30, 31, 32, 33, 34, 35, 48, 49, 50] (by decide +kernel) (by decide +kernel)
set_option maxRecDepth 20000 in
theorem gX2_near_X1_nearest : GoodIn wsX2_near (wsV RX2 108 RX1 yX1_nearest wsX1_nearest) := goodIn_app (goodIn_of _ (by decide +kernel)) ggX2_near_X1_nearest
set_option maxRecDepth 20000 in
theorem ggX2_near_X2_keyAt : GoodIn wsX2_near wsX2_keyAt := goodIn_ca (goodIn_r _ [38, 39, 40, 41, 42, 33, 34, 16, 35, 22, 48, 49, 50] (by decide +kernel) (by decide +kernel)) (goodIn_sub (fun _ h => List.mem_cons_of_mem _ (List.mem_append_right _ h)) (by decide +kernel))
set_option maxRecDepth 20000 in
theorem gX2_near_X2_keyAt : GoodIn wsX2_near (va_wsS RX2 104 yX2_keyAt wsX2_keyAt) := goodIn_app (goodIn_of _ (by decide +kernel)) ggX2_near_X2_keyAt
theorem dX2_near_0 : decode cX2_near 0 = .ok (.aload_n 0, 1) := by decide +kernel
theorem dX2_near_1 : decode cX2_near 1 = .ok (.iload_n 1, 1) := by decide +kernel
theorem dX2_near_2 : decode cX2_near 2 = .ok (.invokevirtual 78, 3) := by decide +kernel
theorem dX2_near_5 : decode cX2_near 5 = .ok (.astore 4, 2) := by decide +kernel
theorem dX2_near_7 : decode cX2_near 7 = .ok (.aload 4, 2) := by decide +kernel
theorem dX2_near_9 : decode cX2_near 9 = .ok (.aload 4, 2) := by decide +kernel
theorem dX2_near_11 : decode cX2_near 11 = .ok (.iload_n 2, 1) := by decide +kernel
theorem dX2_near_12 : decode cX2_near 12 = .ok (.iload_n 3, 1) := by decide +kernel
theorem dX2_near_13 : decode cX2_near 13 = .ok (.invokevirtual 108, 3) := by decide +kernel
theorem dX2_near_16 : decode cX2_near 16 = .ok (.invokestatic 104, 3) := by decide +kernel
theorem dX2_near_19 : decode cX2_near 19 = .ok (.ireturn, 1) := by decide +kernel
set_option maxRecDepth 20000 in
theorem ggX2_sum_X2_mapOf : GoodIn wsX2_sum wsX2_mapOf := goodIn_ca (goodIn_r _ [6, 7, 8, 9, 10, 11, 12, 5, 13, 37, 38, 39, 40, 41] (by decide +kernel) (by decide +kernel)) (goodIn_sub (fun _ h => List.mem_cons_of_mem _ (List.mem_append_right _ h)) (by decide +kernel))
set_option maxRecDepth 20000 in
theorem gX2_sum_X2_mapOf : GoodIn wsX2_sum (wsV RX2 78 RX2 yX2_mapOf wsX2_mapOf) := goodIn_app (goodIn_of _ (by decide +kernel)) ggX2_sum_X2_mapOf
set_option maxRecDepth 20000 in
theorem ggX2_sum_X1_countNotAbove : GoodIn wsX2_sum wsX1_countNotAbove := goodIn_r _ [18, 19, 20, 21, 17, 22, 23, 24, 25, 26, 27, 28, 29, 30, 31, 32, 34, 35, 36] (by decide +kernel) (by decide +kernel)
set_option maxRecDepth 20000 in
theorem gX2_sum_X1_countNotAbove : GoodIn wsX2_sum (wsV RX2 75 RX1 yX1_countNotAbove wsX1_countNotAbove) := goodIn_app (goodIn_of _ (by decide +kernel)) ggX2_sum_X1_countNotAbove
set_option maxRecDepth 20000 in
theorem ggX2_sum_X1_countBelow : GoodIn wsX2_sum wsX1_countBelow := goodIn_r _ [22, 23, 24, 34, 35, 36] (by decide +kernel) (by decide +kernel)
set_option maxRecDepth 20000 in
theorem gX2_sum_X1_countBelow : GoodIn wsX2_sum (wsV RX2 34 RX1 yX1_countBelow wsX1_countBelow) := goodIn_app (goodIn_of _ (by decide +kernel)) ggX2_sum_X1_countBelow
theorem dX2_sum_0 : decode cX2_sum 0 = .ok (.aload_n 0, 1) := by decide +kernel
theorem dX2_sum_1 : decode cX2_sum 1 = .ok (.iload_n 1, 1) := by decide +kernel
theorem dX2_sum_2 : decode cX2_sum 2 = .ok (.invokevirtual 78, 3) := by decide +kernel
theorem dX2_sum_5 : decode cX2_sum 5 = .ok (.astore 4, 2) := by decide +kernel
theorem dX2_sum_7 : decode cX2_sum 7 = .ok (.aload 4, 2) := by decide +kernel
theorem dX2_sum_9 : decode cX2_sum 9 = .ok (.iload_n 3, 1) := by decide +kernel
theorem dX2_sum_10 : decode cX2_sum 10 = .ok (.invokevirtual 75, 3) := by decide +kernel
theorem dX2_sum_13 : decode cX2_sum 13 = .ok (.istore 5, 2) := by decide +kernel
theorem dX2_sum_15 : decode cX2_sum 15 = .ok (.lconst 0, 1) := by decide +kernel
theorem dX2_sum_16 : decode cX2_sum 16 = .ok (.lstore 6, 2) := by decide +kernel
theorem dX2_sum_18 : decode cX2_sum 18 = .ok (.aload 4, 2) := by decide +kernel
theorem dX2_sum_20 : decode cX2_sum 20 = .ok (.iload_n 2, 1) := by decide +kernel
theorem dX2_sum_21 : decode cX2_sum 21 = .ok (.invokevirtual 34, 3) := by decide +kernel
theorem dX2_sum_24 : decode cX2_sum 24 = .ok (.istore 8, 2) := by decide +kernel
theorem dX2_sum_26 : decode cX2_sum 26 = .ok (.iload 8, 2) := by decide +kernel
theorem dX2_sum_28 : decode cX2_sum 28 = .ok (.iload 5, 2) := by decide +kernel
theorem dX2_sum_30 : decode cX2_sum 30 = .ok (.if_icmp .ge 23, 3) := by decide +kernel
theorem dX2_sum_33 : decode cX2_sum 33 = .ok (.lload 6, 2) := by decide +kernel
theorem dX2_sum_35 : decode cX2_sum 35 = .ok (.aload 4, 2) := by decide +kernel
theorem dX2_sum_37 : decode cX2_sum 37 = .ok (.getfield 42, 3) := by decide +kernel
theorem dX2_sum_40 : decode cX2_sum 40 = .ok (.iload 8, 2) := by decide +kernel
theorem dX2_sum_42 : decode cX2_sum 42 = .ok (.iaload, 1) := by decide +kernel
theorem dX2_sum_43 : decode cX2_sum 43 = .ok (.i2l, 1) := by decide +kernel
theorem dX2_sum_44 : decode cX2_sum 44 = .ok (.ladd, 1) := by decide +kernel
theorem dX2_sum_45 : decode cX2_sum 45 = .ok (.lstore 6, 2) := by decide +kernel
theorem dX2_sum_47 : decode cX2_sum 47 = .ok (.iinc 8 1, 3) := by decide +kernel
theorem dX2_sum_50 : decode cX2_sum 50 = .ok (.goto (-24), 3) := by decide +kernel
theorem dX2_sum_53 : decode cX2_sum 53 = .ok (.lload 6, 2) := by decide +kernel
theorem dX2_sum_55 : decode cX2_sum 55 = .ok (.lreturn, 1) := by decide +kernel
set_option maxRecDepth 20000 in
theorem ggX2_greatest_X2_mapOf : GoodIn wsX2_greatest wsX2_mapOf := goodIn_ca (goodIn_r _ [12, 13, 14, 15, 16, 17, 18, 11, 19, 43, 44, 45, 46, 47] (by decide +kernel) (by decide +kernel)) (goodIn_sub (fun _ h => List.mem_cons_of_mem _ (List.mem_append_right _ h)) (by decide +kernel))
set_option maxRecDepth 20000 in
theorem gX2_greatest_X2_mapOf : GoodIn wsX2_greatest (wsV RX2 78 RX2 yX2_mapOf wsX2_mapOf) := goodIn_app (goodIn_of _ (by decide +kernel)) ggX2_greatest_X2_mapOf
set_option maxRecDepth 20000 in
theorem ggX2_greatest_X1_countBelow : GoodIn wsX2_greatest wsX1_countBelow := goodIn_r _ [24, 25, 26, 40, 41, 42] (by decide +kernel) (by decide +kernel)
set_option maxRecDepth 20000 in
theorem gX2_greatest_X1_countBelow : GoodIn wsX2_greatest (wsV RX2 34 RX1 yX1_countBelow wsX1_countBelow) := goodIn_app (goodIn_of _ (by decide +kernel)) ggX2_greatest_X1_countBelow
set_option maxRecDepth 20000 in
theorem ggX2_greatest_X1_countNotAbove : GoodIn wsX2_greatest wsX1_countNotAbove := goodIn_r _ [30, 31, 21, 22, 23, 24, 25, 26, 32, 33, 34, 35, 36, 37, 38, 39, 40, 41, 42] (by decide +kernel) (by decide +kernel)
set_option maxRecDepth 20000 in
theorem gX2_greatest_X1_countNotAbove : GoodIn wsX2_greatest (wsV RX2 75 RX1 yX1_countNotAbove wsX1_countNotAbove) := goodIn_app (goodIn_of _ (by decide +kernel)) ggX2_greatest_X1_countNotAbove
theorem dX2_greatest_0 : decode cX2_greatest 0 = .ok (.aload_n 0, 1) := by decide +kernel
theorem dX2_greatest_1 : decode cX2_greatest 1 = .ok (.iload_n 1, 1) := by decide +kernel
theorem dX2_greatest_2 : decode cX2_greatest 2 = .ok (.invokevirtual 78, 3) := by decide +kernel
theorem dX2_greatest_5 : decode cX2_greatest 5 = .ok (.astore 4, 2) := by decide +kernel
theorem dX2_greatest_7 : decode cX2_greatest 7 = .ok (.aload 4, 2) := by decide +kernel
theorem dX2_greatest_9 : decode cX2_greatest 9 = .ok (.iload_n 2, 1) := by decide +kernel
theorem dX2_greatest_10 : decode cX2_greatest 10 = .ok (.invokevirtual 34, 3) := by decide +kernel
theorem dX2_greatest_13 : decode cX2_greatest 13 = .ok (.istore 5, 2) := by decide +kernel
theorem dX2_greatest_15 : decode cX2_greatest 15 = .ok (.aload 4, 2) := by decide +kernel
theorem dX2_greatest_17 : decode cX2_greatest 17 = .ok (.iload_n 3, 1) := by decide +kernel
theorem dX2_greatest_18 : decode cX2_greatest 18 = .ok (.invokevirtual 75, 3) := by decide +kernel
theorem dX2_greatest_21 : decode cX2_greatest 21 = .ok (.istore 6, 2) := by decide +kernel
theorem dX2_greatest_23 : decode cX2_greatest 23 = .ok (.iload 5, 2) := by decide +kernel
theorem dX2_greatest_25 : decode cX2_greatest 25 = .ok (.iload 6, 2) := by decide +kernel
theorem dX2_greatest_27 : decode cX2_greatest 27 = .ok (.if_icmp .lt 11, 3) := by decide +kernel
theorem dX2_greatest_30 : decode cX2_greatest 30 = .ok (.new 57, 3) := by decide +kernel
theorem dX2_greatest_33 : decode cX2_greatest 33 = .ok (.dup, 1) := by decide +kernel
theorem dX2_greatest_34 : decode cX2_greatest 34 = .ok (.invokespecial 59, 3) := by decide +kernel
theorem dX2_greatest_37 : decode cX2_greatest 37 = .ok (.athrow, 1) := by decide +kernel
theorem dX2_greatest_38 : decode cX2_greatest 38 = .ok (.aload 4, 2) := by decide +kernel
theorem dX2_greatest_40 : decode cX2_greatest 40 = .ok (.getfield 42, 3) := by decide +kernel
theorem dX2_greatest_43 : decode cX2_greatest 43 = .ok (.iload 5, 2) := by decide +kernel
theorem dX2_greatest_45 : decode cX2_greatest 45 = .ok (.iaload, 1) := by decide +kernel
theorem dX2_greatest_46 : decode cX2_greatest 46 = .ok (.istore 7, 2) := by decide +kernel
theorem dX2_greatest_48 : decode cX2_greatest 48 = .ok (.iload 5, 2) := by decide +kernel
theorem dX2_greatest_50 : decode cX2_greatest 50 = .ok (.iconst 1, 1) := by decide +kernel
theorem dX2_greatest_51 : decode cX2_greatest 51 = .ok (.iadd, 1) := by decide +kernel
theorem dX2_greatest_52 : decode cX2_greatest 52 = .ok (.istore 8, 2) := by decide +kernel
theorem dX2_greatest_54 : decode cX2_greatest 54 = .ok (.iload 8, 2) := by decide +kernel
theorem dX2_greatest_56 : decode cX2_greatest 56 = .ok (.iload 6, 2) := by decide +kernel
theorem dX2_greatest_58 : decode cX2_greatest 58 = .ok (.if_icmp .ge 24, 3) := by decide +kernel
theorem dX2_greatest_61 : decode cX2_greatest 61 = .ok (.iload 7, 2) := by decide +kernel
theorem dX2_greatest_63 : decode cX2_greatest 63 = .ok (.aload 4, 2) := by decide +kernel
theorem dX2_greatest_65 : decode cX2_greatest 65 = .ok (.getfield 42, 3) := by decide +kernel
theorem dX2_greatest_68 : decode cX2_greatest 68 = .ok (.iload 8, 2) := by decide +kernel
theorem dX2_greatest_70 : decode cX2_greatest 70 = .ok (.iaload, 1) := by decide +kernel
theorem dX2_greatest_71 : decode cX2_greatest 71 = .ok (.invokestatic 112, 3) := by decide +kernel
theorem dX2_greatest_74 : decode cX2_greatest 74 = .ok (.istore 7, 2) := by decide +kernel
theorem dX2_greatest_76 : decode cX2_greatest 76 = .ok (.iinc 8 1, 3) := by decide +kernel
theorem dX2_greatest_79 : decode cX2_greatest 79 = .ok (.goto (-25), 3) := by decide +kernel
theorem dX2_greatest_82 : decode cX2_greatest 82 = .ok (.iload 7, 2) := by decide +kernel
theorem dX2_greatest_84 : decode cX2_greatest 84 = .ok (.ireturn, 1) := by decide +kernel
set_option maxRecDepth 20000 in
theorem ggX2_differs_X2_mapOf : GoodIn wsX2_differs wsX2_mapOf := goodIn_ca (goodIn_r _ [6, 7, 8, 9, 10, 11, 12, 5, 13, 33, 34, 35, 36, 37] (by decide +kernel) (by decide +kernel)) (goodIn_sub (fun _ h => List.mem_cons_of_mem _ (List.mem_append_right _ h)) (by decide +kernel))
set_option maxRecDepth 20000 in
theorem gX2_differs_X2_mapOf : GoodIn wsX2_differs (wsV RX2 78 RX2 yX2_mapOf wsX2_mapOf) := goodIn_app (goodIn_of _ (by decide +kernel)) ggX2_differs_X2_mapOf
set_option maxRecDepth 20000 in
theorem ggX2_differs_X1_countShared : GoodIn wsX2_differs wsX1_countShared := goodIn_r _ [18, 19, 20, 21, 22, 23, 24, 17, 25, 26, 27, 28, 29, 30, 31, 32] (by decide +kernel) (by decide +kernel)
set_option maxRecDepth 20000 in
theorem gX2_differs_X1_countShared : GoodIn wsX2_differs (wsV RX2 82 RX1 yX1_countShared wsX1_countShared) := goodIn_app (goodIn_of _ (by decide +kernel)) ggX2_differs_X1_countShared
theorem dX2_differs_0 : decode cX2_differs 0 = .ok (.aload_n 0, 1) := by decide +kernel
theorem dX2_differs_1 : decode cX2_differs 1 = .ok (.iload_n 1, 1) := by decide +kernel
theorem dX2_differs_2 : decode cX2_differs 2 = .ok (.invokevirtual 78, 3) := by decide +kernel
theorem dX2_differs_5 : decode cX2_differs 5 = .ok (.astore_n 3, 1) := by decide +kernel
theorem dX2_differs_6 : decode cX2_differs 6 = .ok (.aload_n 0, 1) := by decide +kernel
theorem dX2_differs_7 : decode cX2_differs 7 = .ok (.iload_n 2, 1) := by decide +kernel
theorem dX2_differs_8 : decode cX2_differs 8 = .ok (.invokevirtual 78, 3) := by decide +kernel
theorem dX2_differs_11 : decode cX2_differs 11 = .ok (.astore 4, 2) := by decide +kernel
theorem dX2_differs_13 : decode cX2_differs 13 = .ok (.aload_n 3, 1) := by decide +kernel
theorem dX2_differs_14 : decode cX2_differs 14 = .ok (.getfield 46, 3) := by decide +kernel
theorem dX2_differs_17 : decode cX2_differs 17 = .ok (.aload 4, 2) := by decide +kernel
theorem dX2_differs_19 : decode cX2_differs 19 = .ok (.getfield 46, 3) := by decide +kernel
theorem dX2_differs_22 : decode cX2_differs 22 = .ok (.iadd, 1) := by decide +kernel
theorem dX2_differs_23 : decode cX2_differs 23 = .ok (.aload_n 3, 1) := by decide +kernel
theorem dX2_differs_24 : decode cX2_differs 24 = .ok (.aload 4, 2) := by decide +kernel
theorem dX2_differs_26 : decode cX2_differs 26 = .ok (.iconst 0, 1) := by decide +kernel
theorem dX2_differs_27 : decode cX2_differs 27 = .ok (.invokevirtual 82, 3) := by decide +kernel
theorem dX2_differs_30 : decode cX2_differs 30 = .ok (.isub, 1) := by decide +kernel
theorem dX2_differs_31 : decode cX2_differs 31 = .ok (.aload_n 3, 1) := by decide +kernel
theorem dX2_differs_32 : decode cX2_differs 32 = .ok (.aload 4, 2) := by decide +kernel
theorem dX2_differs_34 : decode cX2_differs 34 = .ok (.iconst 1, 1) := by decide +kernel
theorem dX2_differs_35 : decode cX2_differs 35 = .ok (.invokevirtual 82, 3) := by decide +kernel
theorem dX2_differs_38 : decode cX2_differs 38 = .ok (.isub, 1) := by decide +kernel
theorem dX2_differs_39 : decode cX2_differs 39 = .ok (.ireturn, 1) := by decide +kernel
set_option maxRecDepth 20000 in
theorem ggX2_firstDifference_X2_mapOf : GoodIn wsX2_firstDifference wsX2_mapOf := goodIn_ca (goodIn_r _ [11, 12, 13, 14, 15, 16, 17, 10, 18, 40, 41, 42, 43, 44] (by decide +kernel) (by decide +kernel)) (goodIn_sub (fun _ h => List.mem_cons_of_mem _ (List.mem_append_left _ (List.mem_append_right _ h))) (by decide +kernel))
set_option maxRecDepth 20000 in
theorem gX2_firstDifference_X2_mapOf : GoodIn wsX2_firstDifference (wsV RX2 78 RX2 yX2_mapOf wsX2_mapOf) := goodIn_app (goodIn_of _ (by decide +kernel)) ggX2_firstDifference_X2_mapOf
set_option maxRecDepth 20000 in
theorem ggX2_firstDifference_X1_countAlikeAtStart : GoodIn wsX2_firstDifference wsX1_countAlikeAtStart := goodIn_r _ [23, 24, 25, 4, 5, 6, 26, 27, 37, 38, 39] (by decide +kernel) (by decide +kernel)
set_option maxRecDepth 20000 in
theorem gX2_firstDifference_X1_countAlikeAtStart : GoodIn wsX2_firstDifference (wsV RX2 118 RX1 yX1_countAlikeAtStart wsX1_countAlikeAtStart) := goodIn_app (goodIn_of _ (by decide +kernel)) ggX2_firstDifference_X1_countAlikeAtStart
set_option maxRecDepth 20000 in
theorem ggX2_firstDifference_X2_keyAt : GoodIn wsX2_firstDifference wsX2_keyAt := goodIn_ca (goodIn_r _ [30, 31, 32, 2, 33, 34, 35, 22, 36, 24, 37, 38, 39] (by decide +kernel) (by decide +kernel)) (goodIn_sub (fun _ h => List.mem_cons_of_mem _ (List.mem_append_right _ h)) (by decide +kernel))
set_option maxRecDepth 20000 in
theorem gX2_firstDifference_X2_keyAt : GoodIn wsX2_firstDifference (va_wsS RX2 104 yX2_keyAt wsX2_keyAt) := goodIn_app (goodIn_of _ (by decide +kernel)) ggX2_firstDifference_X2_keyAt
theorem dX2_firstDifference_0 : decode cX2_firstDifference 0 = .ok (.aload_n 0, 1) := by decide +kernel
theorem dX2_firstDifference_1 : decode cX2_firstDifference 1 = .ok (.iload_n 1, 1) := by decide +kernel
theorem dX2_firstDifference_2 : decode cX2_firstDifference 2 = .ok (.invokevirtual 78, 3) := by decide +kernel
theorem dX2_firstDifference_5 : decode cX2_firstDifference 5 = .ok (.astore_n 3, 1) := by decide +kernel
theorem dX2_firstDifference_6 : decode cX2_firstDifference 6 = .ok (.aload_n 0, 1) := by decide +kernel
theorem dX2_firstDifference_7 : decode cX2_firstDifference 7 = .ok (.iload_n 2, 1) := by decide +kernel
theorem dX2_firstDifference_8 : decode cX2_firstDifference 8 = .ok (.invokevirtual 78, 3) := by decide +kernel
theorem dX2_firstDifference_11 : decode cX2_firstDifference 11 = .ok (.astore 4, 2) := by decide +kernel
theorem dX2_firstDifference_13 : decode cX2_firstDifference 13 = .ok (.aload_n 3, 1) := by decide +kernel
theorem dX2_firstDifference_14 : decode cX2_firstDifference 14 = .ok (.aload 4, 2) := by decide +kernel
theorem dX2_firstDifference_16 : decode cX2_firstDifference 16 = .ok (.invokevirtual 118, 3) := by decide +kernel
theorem dX2_firstDifference_19 : decode cX2_firstDifference 19 = .ok (.istore 5, 2) := by decide +kernel
theorem dX2_firstDifference_21 : decode cX2_firstDifference 21 = .ok (.iload 5, 2) := by decide +kernel
theorem dX2_firstDifference_23 : decode cX2_firstDifference 23 = .ok (.aload_n 3, 1) := by decide +kernel
theorem dX2_firstDifference_24 : decode cX2_firstDifference 24 = .ok (.getfield 46, 3) := by decide +kernel
theorem dX2_firstDifference_27 : decode cX2_firstDifference 27 = .ok (.if_icmp .lt 11, 3) := by decide +kernel
theorem dX2_firstDifference_30 : decode cX2_firstDifference 30 = .ok (.aload 4, 2) := by decide +kernel
theorem dX2_firstDifference_32 : decode cX2_firstDifference 32 = .ok (.iload 5, 2) := by decide +kernel
theorem dX2_firstDifference_34 : decode cX2_firstDifference 34 = .ok (.invokestatic 104, 3) := by decide +kernel
theorem dX2_firstDifference_37 : decode cX2_firstDifference 37 = .ok (.ireturn, 1) := by decide +kernel
theorem dX2_firstDifference_38 : decode cX2_firstDifference 38 = .ok (.iload 5, 2) := by decide +kernel
theorem dX2_firstDifference_40 : decode cX2_firstDifference 40 = .ok (.aload 4, 2) := by decide +kernel
theorem dX2_firstDifference_42 : decode cX2_firstDifference 42 = .ok (.getfield 46, 3) := by decide +kernel
theorem dX2_firstDifference_45 : decode cX2_firstDifference 45 = .ok (.if_icmp .lt 10, 3) := by decide +kernel
theorem dX2_firstDifference_48 : decode cX2_firstDifference 48 = .ok (.aload_n 3, 1) := by decide +kernel
theorem dX2_firstDifference_49 : decode cX2_firstDifference 49 = .ok (.iload 5, 2) := by decide +kernel
theorem dX2_firstDifference_51 : decode cX2_firstDifference 51 = .ok (.invokestatic 104, 3) := by decide +kernel
theorem dX2_firstDifference_54 : decode cX2_firstDifference 54 = .ok (.ireturn, 1) := by decide +kernel
theorem dX2_firstDifference_55 : decode cX2_firstDifference 55 = .ok (.aload_n 3, 1) := by decide +kernel
theorem dX2_firstDifference_56 : decode cX2_firstDifference 56 = .ok (.getfield 122, 3) := by decide +kernel
theorem dX2_firstDifference_59 : decode cX2_firstDifference 59 = .ok (.iload 5, 2) := by decide +kernel
theorem dX2_firstDifference_61 : decode cX2_firstDifference 61 = .ok (.iaload, 1) := by decide +kernel
theorem dX2_firstDifference_62 : decode cX2_firstDifference 62 = .ok (.aload 4, 2) := by decide +kernel
theorem dX2_firstDifference_64 : decode cX2_firstDifference 64 = .ok (.getfield 122, 3) := by decide +kernel
theorem dX2_firstDifference_67 : decode cX2_firstDifference 67 = .ok (.iload 5, 2) := by decide +kernel
theorem dX2_firstDifference_69 : decode cX2_firstDifference 69 = .ok (.iaload, 1) := by decide +kernel
theorem dX2_firstDifference_70 : decode cX2_firstDifference 70 = .ok (.invokestatic 125, 3) := by decide +kernel
theorem dX2_firstDifference_73 : decode cX2_firstDifference 73 = .ok (.ireturn, 1) := by decide +kernel
set_option maxRecDepth 20000 in
theorem ggX2_open_X2_mapOf : GoodIn wsX2_open wsX2_mapOf := goodIn_ca (goodIn_r _ [9, 10, 11, 12, 13, 14, 15, 8, 16, 60, 61, 62, 63, 64] (by decide +kernel) (by decide +kernel)) (goodIn_sub (fun _ h => List.mem_cons_of_mem _ (List.mem_append_right _ h)) (by decide +kernel))
set_option maxRecDepth 20000 in
theorem gX2_open_X2_mapOf : GoodIn wsX2_open (wsV RX2 78 RX2 yX2_mapOf wsX2_mapOf) := goodIn_app (goodIn_of _ (by decide +kernel)) ggX2_open_X2_mapOf
set_option maxRecDepth 20000 in
theorem ggX2_open_X2_leastFree : GoodIn wsX2_open wsX2_leastFree := goodIn_r _ [19] (by decide +kernel) (by decide +kernel)
set_option maxRecDepth 20000 in
theorem gX2_open_X2_leastFree : GoodIn wsX2_open (va_wsS RX2 90 yX2_leastFree wsX2_leastFree) := goodIn_app (goodIn_of _ (by decide +kernel)) ggX2_open_X2_leastFree
set_option maxRecDepth 20000 in
theorem ggX2_open_X0_start : GoodIn wsX2_open wsX0_start := goodIn_r _ [24, 25, 26, 27, 28, 29, 30, 31, 32, 33, 34, 35, 36, 37, 38, 39, 40, 41, 42, 43, 44, 45, 46, 47, 48, 49, 50, 51, 52, 53, 54, 55, 56, 57, 58, 59, 65, 66, 67, 68, 69, 70] (by decide +kernel) (by decide +kernel)
set_option maxRecDepth 20000 in
theorem gX2_open_X0_start : GoodIn wsX2_open (wsV RX2 128 RX0 yX0_start wsX0_start) := goodIn_app (goodIn_of _ (by decide +kernel)) ggX2_open_X0_start
theorem dX2_open_0 : decode cX2_open 0 = .ok (.aload_n 0, 1) := by decide +kernel
theorem dX2_open_1 : decode cX2_open 1 = .ok (.iload_n 1, 1) := by decide +kernel
theorem dX2_open_2 : decode cX2_open 2 = .ok (.invokevirtual 78, 3) := by decide +kernel
theorem dX2_open_5 : decode cX2_open 5 = .ok (.astore 4, 2) := by decide +kernel
theorem dX2_open_7 : decode cX2_open 7 = .ok (.aload_n 0, 1) := by decide +kernel
theorem dX2_open_8 : decode cX2_open 8 = .ok (.getfield 30, 3) := by decide +kernel
theorem dX2_open_11 : decode cX2_open 11 = .ok (.iconst 0, 1) := by decide +kernel
theorem dX2_open_12 : decode cX2_open 12 = .ok (.invokestatic 90, 3) := by decide +kernel
theorem dX2_open_15 : decode cX2_open 15 = .ok (.istore 5, 2) := by decide +kernel
theorem dX2_open_17 : decode cX2_open 17 = .ok (.iload 5, 2) := by decide +kernel
theorem dX2_open_19 : decode cX2_open 19 = .ok (.aload_n 0, 1) := by decide +kernel
theorem dX2_open_20 : decode cX2_open 20 = .ok (.getfield 30, 3) := by decide +kernel
theorem dX2_open_23 : decode cX2_open 23 = .ok (.arraylength, 1) := by decide +kernel
theorem dX2_open_24 : decode cX2_open 24 = .ok (.if_icmp .ne 11, 3) := by decide +kernel
theorem dX2_open_27 : decode cX2_open 27 = .ok (.new 50, 3) := by decide +kernel
theorem dX2_open_30 : decode cX2_open 30 = .ok (.dup, 1) := by decide +kernel
theorem dX2_open_31 : decode cX2_open 31 = .ok (.invokespecial 52, 3) := by decide +kernel
theorem dX2_open_34 : decode cX2_open 34 = .ok (.athrow, 1) := by decide +kernel
theorem dX2_open_35 : decode cX2_open 35 = .ok (.aload_n 0, 1) := by decide +kernel
theorem dX2_open_36 : decode cX2_open 36 = .ok (.getfield 26, 3) := by decide +kernel
theorem dX2_open_39 : decode cX2_open 39 = .ok (.iload 5, 2) := by decide +kernel
theorem dX2_open_41 : decode cX2_open 41 = .ok (.aaload, 1) := by decide +kernel
theorem dX2_open_42 : decode cX2_open 42 = .ok (.aload 4, 2) := by decide +kernel
theorem dX2_open_44 : decode cX2_open 44 = .ok (.iload_n 2, 1) := by decide +kernel
theorem dX2_open_45 : decode cX2_open 45 = .ok (.iload_n 3, 1) := by decide +kernel
theorem dX2_open_46 : decode cX2_open 46 = .ok (.invokevirtual 128, 3) := by decide +kernel
theorem dX2_open_49 : decode cX2_open 49 = .ok (.aload_n 0, 1) := by decide +kernel
theorem dX2_open_50 : decode cX2_open 50 = .ok (.getfield 30, 3) := by decide +kernel
theorem dX2_open_53 : decode cX2_open 53 = .ok (.iload 5, 2) := by decide +kernel
theorem dX2_open_55 : decode cX2_open 55 = .ok (.iconst 1, 1) := by decide +kernel
theorem dX2_open_56 : decode cX2_open 56 = .ok (.bastore, 1) := by decide +kernel
theorem dX2_open_57 : decode cX2_open 57 = .ok (.iload 5, 2) := by decide +kernel
theorem dX2_open_59 : decode cX2_open 59 = .ok (.ireturn, 1) := by decide +kernel
set_option maxRecDepth 20000 in
theorem ggX2_next_X2_cursorOf : GoodIn wsX2_next wsX2_cursorOf := goodIn_ca (goodIn_r _ [7, 8, 9, 10, 11, 12, 13, 6, 14, 37, 38, 39, 40, 41] (by decide +kernel) (by decide +kernel)) (goodIn_sub (fun _ h => List.mem_cons_of_mem _ (List.mem_append_left _ (List.mem_append_right _ h))) (by decide +kernel))
set_option maxRecDepth 20000 in
theorem gX2_next_X2_cursorOf : GoodIn wsX2_next (wsV RX2 132 RX2 yX2_cursorOf wsX2_cursorOf) := goodIn_app (goodIn_of _ (by decide +kernel)) ggX2_next_X2_cursorOf
set_option maxRecDepth 20000 in
theorem ggX2_next_X2_keyAt : GoodIn wsX2_next wsX2_keyAt := goodIn_ca (goodIn_r _ [17, 18, 19, 20, 21, 22, 23, 24, 25, 26, 42, 43, 44] (by decide +kernel) (by decide +kernel)) (goodIn_sub (fun _ h => List.mem_cons_of_mem _ (List.mem_append_right _ h)) (by decide +kernel))
set_option maxRecDepth 20000 in
theorem gX2_next_X2_keyAt : GoodIn wsX2_next (va_wsS RX2 104 yX2_keyAt wsX2_keyAt) := goodIn_app (goodIn_of _ (by decide +kernel)) ggX2_next_X2_keyAt
set_option maxRecDepth 20000 in
theorem ggX2_next_X0_goOver : GoodIn wsX2_next wsX0_goOver := goodIn_r _ [31, 32, 33, 34, 35, 36] (by decide +kernel) (by decide +kernel)
set_option maxRecDepth 20000 in
theorem gX2_next_X0_goOver : GoodIn wsX2_next (wsV RX2 142 RX0 yX0_goOver wsX0_goOver) := goodIn_app (goodIn_of _ (by decide +kernel)) ggX2_next_X0_goOver
theorem dX2_next_0 : decode cX2_next 0 = .ok (.aload_n 0, 1) := by decide +kernel
theorem dX2_next_1 : decode cX2_next 1 = .ok (.iload_n 1, 1) := by decide +kernel
theorem dX2_next_2 : decode cX2_next 2 = .ok (.invokevirtual 132, 3) := by decide +kernel
theorem dX2_next_5 : decode cX2_next 5 = .ok (.astore_n 2, 1) := by decide +kernel
theorem dX2_next_6 : decode cX2_next 6 = .ok (.aload_n 2, 1) := by decide +kernel
theorem dX2_next_7 : decode cX2_next 7 = .ok (.getfield 136, 3) := by decide +kernel
theorem dX2_next_10 : decode cX2_next 10 = .ok (.aload_n 2, 1) := by decide +kernel
theorem dX2_next_11 : decode cX2_next 11 = .ok (.getfield 139, 3) := by decide +kernel
theorem dX2_next_14 : decode cX2_next 14 = .ok (.invokestatic 104, 3) := by decide +kernel
theorem dX2_next_17 : decode cX2_next 17 = .ok (.istore_n 3, 1) := by decide +kernel
theorem dX2_next_18 : decode cX2_next 18 = .ok (.aload_n 2, 1) := by decide +kernel
theorem dX2_next_19 : decode cX2_next 19 = .ok (.iconst 1, 1) := by decide +kernel
theorem dX2_next_20 : decode cX2_next 20 = .ok (.invokevirtual 142, 3) := by decide +kernel
theorem dX2_next_23 : decode cX2_next 23 = .ok (.iload_n 3, 1) := by decide +kernel
theorem dX2_next_24 : decode cX2_next 24 = .ok (.ireturn, 1) := by decide +kernel
set_option maxRecDepth 20000 in
theorem ggX2_skip_X2_cursorOf : GoodIn wsX2_skip wsX2_cursorOf := goodIn_ca (goodIn_r _ [11, 12, 13, 14, 15, 16, 17, 10, 18, 32, 33, 34, 35, 36] (by decide +kernel) (by decide +kernel)) (goodIn_sub (fun _ h => List.mem_cons_of_mem _ (List.mem_append_right _ h)) (by decide +kernel))
set_option maxRecDepth 20000 in
theorem gX2_skip_X2_cursorOf : GoodIn wsX2_skip (wsV RX2 132 RX2 yX2_cursorOf wsX2_cursorOf) := goodIn_app (goodIn_of _ (by decide +kernel)) ggX2_skip_X2_cursorOf
set_option maxRecDepth 20000 in
theorem ggX2_skip_X0_countLeft : GoodIn wsX2_skip wsX0_countLeft := goodIn_r _ [23, 24, 25, 26, 27, 37, 38, 39, 40, 41, 42] (by decide +kernel) (by decide +kernel)
set_option maxRecDepth 20000 in
theorem gX2_skip_X0_countLeft : GoodIn wsX2_skip (wsV RX2 146 RX0 yX0_countLeft wsX0_countLeft) := goodIn_app (goodIn_of _ (by decide +kernel)) ggX2_skip_X0_countLeft
set_option maxRecDepth 20000 in
theorem ggX2_skip_X0_goOver : GoodIn wsX2_skip wsX0_goOver := goodIn_r _ [31, 25, 24, 37, 38, 39] (by decide +kernel) (by decide +kernel)
set_option maxRecDepth 20000 in
theorem gX2_skip_X0_goOver : GoodIn wsX2_skip (wsV RX2 142 RX0 yX0_goOver wsX0_goOver) := goodIn_app (goodIn_of _ (by decide +kernel)) ggX2_skip_X0_goOver
theorem dX2_skip_0 : decode cX2_skip 0 = .ok (.aload_n 0, 1) := by decide +kernel
theorem dX2_skip_1 : decode cX2_skip 1 = .ok (.iload_n 1, 1) := by decide +kernel
theorem dX2_skip_2 : decode cX2_skip 2 = .ok (.invokevirtual 132, 3) := by decide +kernel
theorem dX2_skip_5 : decode cX2_skip 5 = .ok (.astore_n 3, 1) := by decide +kernel
theorem dX2_skip_6 : decode cX2_skip 6 = .ok (.iload_n 2, 1) := by decide +kernel
theorem dX2_skip_7 : decode cX2_skip 7 = .ok (.ifCond .ge 11, 3) := by decide +kernel
theorem dX2_skip_10 : decode cX2_skip 10 = .ok (.new 64, 3) := by decide +kernel
theorem dX2_skip_13 : decode cX2_skip 13 = .ok (.dup, 1) := by decide +kernel
theorem dX2_skip_14 : decode cX2_skip 14 = .ok (.invokespecial 66, 3) := by decide +kernel
theorem dX2_skip_17 : decode cX2_skip 17 = .ok (.athrow, 1) := by decide +kernel
theorem dX2_skip_18 : decode cX2_skip 18 = .ok (.iload_n 2, 1) := by decide +kernel
theorem dX2_skip_19 : decode cX2_skip 19 = .ok (.aload_n 3, 1) := by decide +kernel
theorem dX2_skip_20 : decode cX2_skip 20 = .ok (.invokevirtual 146, 3) := by decide +kernel
theorem dX2_skip_23 : decode cX2_skip 23 = .ok (.invokestatic 125, 3) := by decide +kernel
theorem dX2_skip_26 : decode cX2_skip 26 = .ok (.istore 4, 2) := by decide +kernel
theorem dX2_skip_28 : decode cX2_skip 28 = .ok (.aload_n 3, 1) := by decide +kernel
theorem dX2_skip_29 : decode cX2_skip 29 = .ok (.iload 4, 2) := by decide +kernel
theorem dX2_skip_31 : decode cX2_skip 31 = .ok (.invokevirtual 142, 3) := by decide +kernel
theorem dX2_skip_34 : decode cX2_skip 34 = .ok (.iload 4, 2) := by decide +kernel
theorem dX2_skip_36 : decode cX2_skip 36 = .ok (.ireturn, 1) := by decide +kernel
set_option maxRecDepth 20000 in
theorem ggX2_peek_X2_cursorOf : GoodIn wsX2_peek wsX2_cursorOf := goodIn_ca (goodIn_r _ [10, 11, 12, 13, 14, 15, 16, 9, 17, 30, 31, 32, 33, 34] (by decide +kernel) (by decide +kernel)) (goodIn_sub (fun _ h => List.mem_cons_of_mem _ (List.mem_append_right _ h)) (by decide +kernel))
set_option maxRecDepth 20000 in
theorem gX2_peek_X2_cursorOf : GoodIn wsX2_peek (wsV RX2 132 RX2 yX2_cursorOf wsX2_cursorOf) := goodIn_app (goodIn_of _ (by decide +kernel)) ggX2_peek_X2_cursorOf
set_option maxRecDepth 20000 in
theorem ggX2_peek_X1_isWithin : GoodIn wsX2_peek wsX1_isWithin := goodIn_r _ [22, 23, 27, 28, 29] (by decide +kernel) (by decide +kernel)
set_option maxRecDepth 20000 in
theorem gX2_peek_X1_isWithin : GoodIn wsX2_peek (wsV RX2 150 RX1 yX1_isWithin wsX1_isWithin) := goodIn_app (goodIn_of _ (by decide +kernel)) ggX2_peek_X1_isWithin
theorem dX2_peek_0 : decode cX2_peek 0 = .ok (.aload_n 0, 1) := by decide +kernel
theorem dX2_peek_1 : decode cX2_peek 1 = .ok (.iload_n 1, 1) := by decide +kernel
theorem dX2_peek_2 : decode cX2_peek 2 = .ok (.invokevirtual 132, 3) := by decide +kernel
theorem dX2_peek_5 : decode cX2_peek 5 = .ok (.astore_n 2, 1) := by decide +kernel
theorem dX2_peek_6 : decode cX2_peek 6 = .ok (.aload_n 2, 1) := by decide +kernel
theorem dX2_peek_7 : decode cX2_peek 7 = .ok (.getfield 136, 3) := by decide +kernel
theorem dX2_peek_10 : decode cX2_peek 10 = .ok (.aload_n 2, 1) := by decide +kernel
theorem dX2_peek_11 : decode cX2_peek 11 = .ok (.getfield 139, 3) := by decide +kernel
theorem dX2_peek_14 : decode cX2_peek 14 = .ok (.invokevirtual 150, 3) := by decide +kernel
theorem dX2_peek_17 : decode cX2_peek 17 = .ok (.ifCond .ne 11, 3) := by decide +kernel
theorem dX2_peek_20 : decode cX2_peek 20 = .ok (.new 57, 3) := by decide +kernel
theorem dX2_peek_23 : decode cX2_peek 23 = .ok (.dup, 1) := by decide +kernel
theorem dX2_peek_24 : decode cX2_peek 24 = .ok (.invokespecial 59, 3) := by decide +kernel
theorem dX2_peek_27 : decode cX2_peek 27 = .ok (.athrow, 1) := by decide +kernel
theorem dX2_peek_28 : decode cX2_peek 28 = .ok (.aload_n 2, 1) := by decide +kernel
theorem dX2_peek_29 : decode cX2_peek 29 = .ok (.getfield 136, 3) := by decide +kernel
theorem dX2_peek_32 : decode cX2_peek 32 = .ok (.getfield 42, 3) := by decide +kernel
theorem dX2_peek_35 : decode cX2_peek 35 = .ok (.aload_n 2, 1) := by decide +kernel
theorem dX2_peek_36 : decode cX2_peek 36 = .ok (.getfield 139, 3) := by decide +kernel
theorem dX2_peek_39 : decode cX2_peek 39 = .ok (.iaload, 1) := by decide +kernel
theorem dX2_peek_40 : decode cX2_peek 40 = .ok (.ireturn, 1) := by decide +kernel
set_option maxRecDepth 20000 in
theorem ggX2_close_X2_cursorOf : GoodIn wsX2_close wsX2_cursorOf := goodIn_ca (goodIn_r _ [6, 7, 8, 1, 9, 10, 11, 5, 12, 24, 25, 26, 27, 28] (by decide +kernel) (by decide +kernel)) (goodIn_sub (fun _ h => List.mem_cons_of_mem _ (List.mem_append_right _ h)) (by decide +kernel))
set_option maxRecDepth 20000 in
theorem gX2_close_X2_cursorOf : GoodIn wsX2_close (wsV RX2 132 RX2 yX2_cursorOf wsX2_cursorOf) := goodIn_app (goodIn_of _ (by decide +kernel)) ggX2_close_X2_cursorOf
set_option maxRecDepth 20000 in
theorem ggX2_close_X0_stop : GoodIn wsX2_close wsX0_stop := goodIn_r _ [17, 18, 19, 20, 29, 30, 31, 32, 33, 34] (by decide +kernel) (by decide +kernel)
set_option maxRecDepth 20000 in
theorem gX2_close_X0_stop : GoodIn wsX2_close (wsV RX2 154 RX0 yX0_stop wsX0_stop) := goodIn_app (goodIn_of _ (by decide +kernel)) ggX2_close_X0_stop
set_option maxRecDepth 20000 in
theorem ggX2_close_X2_countTaken : GoodIn wsX2_close wsX2_countTaken := goodIn_r _ [23] (by decide +kernel) (by decide +kernel)
set_option maxRecDepth 20000 in
theorem gX2_close_X2_countTaken : GoodIn wsX2_close (va_wsS RX2 101 yX2_countTaken wsX2_countTaken) := goodIn_app (goodIn_of _ (by decide +kernel)) ggX2_close_X2_countTaken
theorem dX2_close_0 : decode cX2_close 0 = .ok (.aload_n 0, 1) := by decide +kernel
theorem dX2_close_1 : decode cX2_close 1 = .ok (.iload_n 1, 1) := by decide +kernel
theorem dX2_close_2 : decode cX2_close 2 = .ok (.invokevirtual 132, 3) := by decide +kernel
theorem dX2_close_5 : decode cX2_close 5 = .ok (.invokevirtual 154, 3) := by decide +kernel
theorem dX2_close_8 : decode cX2_close 8 = .ok (.aload_n 0, 1) := by decide +kernel
theorem dX2_close_9 : decode cX2_close 9 = .ok (.getfield 30, 3) := by decide +kernel
theorem dX2_close_12 : decode cX2_close 12 = .ok (.iload_n 1, 1) := by decide +kernel
theorem dX2_close_13 : decode cX2_close 13 = .ok (.iconst 0, 1) := by decide +kernel
theorem dX2_close_14 : decode cX2_close 14 = .ok (.bastore, 1) := by decide +kernel
theorem dX2_close_15 : decode cX2_close 15 = .ok (.aload_n 0, 1) := by decide +kernel
theorem dX2_close_16 : decode cX2_close 16 = .ok (.getfield 30, 3) := by decide +kernel
theorem dX2_close_19 : decode cX2_close 19 = .ok (.iconst 0, 1) := by decide +kernel
theorem dX2_close_20 : decode cX2_close 20 = .ok (.invokestatic 101, 3) := by decide +kernel
theorem dX2_close_23 : decode cX2_close 23 = .ok (.ireturn, 1) := by decide +kernel
set_option maxRecDepth 20000 in
theorem ggX2_astray_X1_countWrong : GoodIn wsX2_astray wsX1_countWrong := goodIn_r _ [9, 10, 11, 26, 27, 28] (by decide +kernel) (by decide +kernel)
set_option maxRecDepth 20000 in
theorem gX2_astray_X1_countWrong : GoodIn wsX2_astray (wsV RX2 157 RX1 yX1_countWrong wsX1_countWrong) := goodIn_app (goodIn_of _ (by decide +kernel)) ggX2_astray_X1_countWrong
set_option maxRecDepth 20000 in
theorem ggX2_astray_X0_countWrong : GoodIn wsX2_astray wsX0_countWrong := goodIn_r _ [16, 17, 18, 19, 20, 6, 7, 8, 9, 10, 11, 29, 30, 31, 26, 27, 28] (by decide +kernel) (by decide +kernel)
set_option maxRecDepth 20000 in
theorem gX2_astray_X0_countWrong : GoodIn wsX2_astray (wsV RX2 161 RX0 yX0_countWrong wsX0_countWrong) := goodIn_app (goodIn_of _ (by decide +kernel)) ggX2_astray_X0_countWrong
theorem dX2_astray_0 : decode cX2_astray 0 = .ok (.aload_n 0, 1) := by decide +kernel
theorem dX2_astray_1 : decode cX2_astray 1 = .ok (.getfield 20, 3) := by decide +kernel
theorem dX2_astray_4 : decode cX2_astray 4 = .ok (.iconst 0, 1) := by decide +kernel
theorem dX2_astray_5 : decode cX2_astray 5 = .ok (.baload, 1) := by decide +kernel
theorem dX2_astray_6 : decode cX2_astray 6 = .ok (.ifCond .eq 7, 3) := by decide +kernel
theorem dX2_astray_9 : decode cX2_astray 9 = .ok (.iconst 0, 1) := by decide +kernel
theorem dX2_astray_10 : decode cX2_astray 10 = .ok (.goto 4, 3) := by decide +kernel
theorem dX2_astray_13 : decode cX2_astray 13 = .ok (.iconst 1, 1) := by decide +kernel
theorem dX2_astray_14 : decode cX2_astray 14 = .ok (.istore_n 1, 1) := by decide +kernel
theorem dX2_astray_15 : decode cX2_astray 15 = .ok (.iconst 0, 1) := by decide +kernel
theorem dX2_astray_16 : decode cX2_astray 16 = .ok (.istore_n 2, 1) := by decide +kernel
theorem dX2_astray_17 : decode cX2_astray 17 = .ok (.iload_n 2, 1) := by decide +kernel
theorem dX2_astray_18 : decode cX2_astray 18 = .ok (.aload_n 0, 1) := by decide +kernel
theorem dX2_astray_19 : decode cX2_astray 19 = .ok (.getfield 16, 3) := by decide +kernel
theorem dX2_astray_22 : decode cX2_astray 22 = .ok (.arraylength, 1) := by decide +kernel
theorem dX2_astray_23 : decode cX2_astray 23 = .ok (.if_icmp .ge 27, 3) := by decide +kernel
theorem dX2_astray_26 : decode cX2_astray 26 = .ok (.iload_n 1, 1) := by decide +kernel
theorem dX2_astray_27 : decode cX2_astray 27 = .ok (.aload_n 0, 1) := by decide +kernel
theorem dX2_astray_28 : decode cX2_astray 28 = .ok (.getfield 16, 3) := by decide +kernel
theorem dX2_astray_31 : decode cX2_astray 31 = .ok (.iload_n 2, 1) := by decide +kernel
theorem dX2_astray_32 : decode cX2_astray 32 = .ok (.aaload, 1) := by decide +kernel
theorem dX2_astray_33 : decode cX2_astray 33 = .ok (.aload_n 0, 1) := by decide +kernel
theorem dX2_astray_34 : decode cX2_astray 34 = .ok (.getfield 20, 3) := by decide +kernel
theorem dX2_astray_37 : decode cX2_astray 37 = .ok (.iload_n 2, 1) := by decide +kernel
theorem dX2_astray_38 : decode cX2_astray 38 = .ok (.baload, 1) := by decide +kernel
theorem dX2_astray_39 : decode cX2_astray 39 = .ok (.invokevirtual 157, 3) := by decide +kernel
theorem dX2_astray_42 : decode cX2_astray 42 = .ok (.iadd, 1) := by decide +kernel
theorem dX2_astray_43 : decode cX2_astray 43 = .ok (.istore_n 1, 1) := by decide +kernel
theorem dX2_astray_44 : decode cX2_astray 44 = .ok (.iinc 2 1, 3) := by decide +kernel
theorem dX2_astray_47 : decode cX2_astray 47 = .ok (.goto (-30), 3) := by decide +kernel
theorem dX2_astray_50 : decode cX2_astray 50 = .ok (.iconst 0, 1) := by decide +kernel
theorem dX2_astray_51 : decode cX2_astray 51 = .ok (.istore_n 2, 1) := by decide +kernel
theorem dX2_astray_52 : decode cX2_astray 52 = .ok (.iload_n 2, 1) := by decide +kernel
theorem dX2_astray_53 : decode cX2_astray 53 = .ok (.aload_n 0, 1) := by decide +kernel
theorem dX2_astray_54 : decode cX2_astray 54 = .ok (.getfield 26, 3) := by decide +kernel
theorem dX2_astray_57 : decode cX2_astray 57 = .ok (.arraylength, 1) := by decide +kernel
theorem dX2_astray_58 : decode cX2_astray 58 = .ok (.if_icmp .ge 27, 3) := by decide +kernel
theorem dX2_astray_61 : decode cX2_astray 61 = .ok (.iload_n 1, 1) := by decide +kernel
theorem dX2_astray_62 : decode cX2_astray 62 = .ok (.aload_n 0, 1) := by decide +kernel
theorem dX2_astray_63 : decode cX2_astray 63 = .ok (.getfield 26, 3) := by decide +kernel
theorem dX2_astray_66 : decode cX2_astray 66 = .ok (.iload_n 2, 1) := by decide +kernel
theorem dX2_astray_67 : decode cX2_astray 67 = .ok (.aaload, 1) := by decide +kernel
theorem dX2_astray_68 : decode cX2_astray 68 = .ok (.aload_n 0, 1) := by decide +kernel
theorem dX2_astray_69 : decode cX2_astray 69 = .ok (.getfield 30, 3) := by decide +kernel
theorem dX2_astray_72 : decode cX2_astray 72 = .ok (.iload_n 2, 1) := by decide +kernel
theorem dX2_astray_73 : decode cX2_astray 73 = .ok (.baload, 1) := by decide +kernel
theorem dX2_astray_74 : decode cX2_astray 74 = .ok (.invokevirtual 161, 3) := by decide +kernel
theorem dX2_astray_77 : decode cX2_astray 77 = .ok (.iadd, 1) := by decide +kernel
theorem dX2_astray_78 : decode cX2_astray 78 = .ok (.istore_n 1, 1) := by decide +kernel
theorem dX2_astray_79 : decode cX2_astray 79 = .ok (.iinc 2 1, 3) := by decide +kernel
theorem dX2_astray_82 : decode cX2_astray 82 = .ok (.goto (-30), 3) := by decide +kernel
theorem dX2_astray_85 : decode cX2_astray 85 = .ok (.iload_n 1, 1) := by decide +kernel
theorem dX2_astray_86 : decode cX2_astray 86 = .ok (.ireturn, 1) := by decide +kernel
set_option maxRecDepth 20000 in
theorem ggX2_mapOf_X2_isTaken : GoodIn wsX2_mapOf wsX2_isTaken := goodIn_r _ [8] (by decide +kernel) (by decide +kernel)
set_option maxRecDepth 20000 in
theorem gX2_mapOf_X2_isTaken : GoodIn wsX2_mapOf (va_wsS RX2 162 yX2_isTaken wsX2_isTaken) := goodIn_app (goodIn_of _ (by decide +kernel)) ggX2_mapOf_X2_isTaken
theorem dX2_mapOf_0 : decode cX2_mapOf 0 = .ok (.aload_n 0, 1) := by decide +kernel
theorem dX2_mapOf_1 : decode cX2_mapOf 1 = .ok (.getfield 20, 3) := by decide +kernel
theorem dX2_mapOf_4 : decode cX2_mapOf 4 = .ok (.iload_n 1, 1) := by decide +kernel
theorem dX2_mapOf_5 : decode cX2_mapOf 5 = .ok (.invokestatic 162, 3) := by decide +kernel
theorem dX2_mapOf_8 : decode cX2_mapOf 8 = .ok (.ifCond .ne 11, 3) := by decide +kernel
theorem dX2_mapOf_11 : decode cX2_mapOf 11 = .ok (.new 166, 3) := by decide +kernel
theorem dX2_mapOf_14 : decode cX2_mapOf 14 = .ok (.dup, 1) := by decide +kernel
theorem dX2_mapOf_15 : decode cX2_mapOf 15 = .ok (.invokespecial 168, 3) := by decide +kernel
theorem dX2_mapOf_18 : decode cX2_mapOf 18 = .ok (.athrow, 1) := by decide +kernel
theorem dX2_mapOf_19 : decode cX2_mapOf 19 = .ok (.aload_n 0, 1) := by decide +kernel
theorem dX2_mapOf_20 : decode cX2_mapOf 20 = .ok (.getfield 16, 3) := by decide +kernel
theorem dX2_mapOf_23 : decode cX2_mapOf 23 = .ok (.iload_n 1, 1) := by decide +kernel
theorem dX2_mapOf_24 : decode cX2_mapOf 24 = .ok (.aaload, 1) := by decide +kernel
theorem dX2_mapOf_25 : decode cX2_mapOf 25 = .ok (.areturn, 1) := by decide +kernel
set_option maxRecDepth 20000 in
theorem ggX2_snapshotOf_X2_mapOf : GoodIn wsX2_snapshotOf wsX2_mapOf := goodIn_ca (goodIn_r _ [7, 1, 2, 8, 9, 10, 11, 6, 12, 13, 14, 15, 16, 17] (by decide +kernel) (by decide +kernel)) (goodIn_sub (fun _ h => List.mem_cons_of_mem _ (List.mem_append_right _ h)) (by decide +kernel))
set_option maxRecDepth 20000 in
theorem gX2_snapshotOf_X2_mapOf : GoodIn wsX2_snapshotOf (wsV RX2 78 RX2 yX2_mapOf wsX2_mapOf) := goodIn_app (goodIn_of _ (by decide +kernel)) ggX2_snapshotOf_X2_mapOf
theorem dX2_snapshotOf_0 : decode cX2_snapshotOf 0 = .ok (.iload_n 1, 1) := by decide +kernel
theorem dX2_snapshotOf_1 : decode cX2_snapshotOf 1 = .ok (.iconst 1, 1) := by decide +kernel
theorem dX2_snapshotOf_2 : decode cX2_snapshotOf 2 = .ok (.if_icmp .ge 11, 3) := by decide +kernel
theorem dX2_snapshotOf_5 : decode cX2_snapshotOf 5 = .ok (.new 166, 3) := by decide +kernel
theorem dX2_snapshotOf_8 : decode cX2_snapshotOf 8 = .ok (.dup, 1) := by decide +kernel
theorem dX2_snapshotOf_9 : decode cX2_snapshotOf 9 = .ok (.invokespecial 168, 3) := by decide +kernel
theorem dX2_snapshotOf_12 : decode cX2_snapshotOf 12 = .ok (.athrow, 1) := by decide +kernel
theorem dX2_snapshotOf_13 : decode cX2_snapshotOf 13 = .ok (.aload_n 0, 1) := by decide +kernel
theorem dX2_snapshotOf_14 : decode cX2_snapshotOf 14 = .ok (.iload_n 1, 1) := by decide +kernel
theorem dX2_snapshotOf_15 : decode cX2_snapshotOf 15 = .ok (.invokevirtual 78, 3) := by decide +kernel
theorem dX2_snapshotOf_18 : decode cX2_snapshotOf 18 = .ok (.areturn, 1) := by decide +kernel
set_option maxRecDepth 20000 in
theorem ggX2_cursorOf_X2_isTaken : GoodIn wsX2_cursorOf wsX2_isTaken := goodIn_r _ [8] (by decide +kernel) (by decide +kernel)
set_option maxRecDepth 20000 in
theorem gX2_cursorOf_X2_isTaken : GoodIn wsX2_cursorOf (va_wsS RX2 162 yX2_isTaken wsX2_isTaken) := goodIn_app (goodIn_of _ (by decide +kernel)) ggX2_cursorOf_X2_isTaken
theorem dX2_cursorOf_0 : decode cX2_cursorOf 0 = .ok (.aload_n 0, 1) := by decide +kernel
theorem dX2_cursorOf_1 : decode cX2_cursorOf 1 = .ok (.getfield 30, 3) := by decide +kernel
theorem dX2_cursorOf_4 : decode cX2_cursorOf 4 = .ok (.iload_n 1, 1) := by decide +kernel
theorem dX2_cursorOf_5 : decode cX2_cursorOf 5 = .ok (.invokestatic 162, 3) := by decide +kernel
theorem dX2_cursorOf_8 : decode cX2_cursorOf 8 = .ok (.ifCond .ne 11, 3) := by decide +kernel
theorem dX2_cursorOf_11 : decode cX2_cursorOf 11 = .ok (.new 166, 3) := by decide +kernel
theorem dX2_cursorOf_14 : decode cX2_cursorOf 14 = .ok (.dup, 1) := by decide +kernel
theorem dX2_cursorOf_15 : decode cX2_cursorOf 15 = .ok (.invokespecial 168, 3) := by decide +kernel
theorem dX2_cursorOf_18 : decode cX2_cursorOf 18 = .ok (.athrow, 1) := by decide +kernel
theorem dX2_cursorOf_19 : decode cX2_cursorOf 19 = .ok (.aload_n 0, 1) := by decide +kernel
theorem dX2_cursorOf_20 : decode cX2_cursorOf 20 = .ok (.getfield 26, 3) := by decide +kernel
theorem dX2_cursorOf_23 : decode cX2_cursorOf 23 = .ok (.iload_n 1, 1) := by decide +kernel
theorem dX2_cursorOf_24 : decode cX2_cursorOf 24 = .ok (.aaload, 1) := by decide +kernel
theorem dX2_cursorOf_25 : decode cX2_cursorOf 25 = .ok (.areturn, 1) := by decide +kernel
set_option maxRecDepth 20000 in
theorem ggX2_keyAt_X1_isWithin : GoodIn wsX2_keyAt wsX1_isWithin := goodIn_r _ [8, 9, 10, 11, 12] (by decide +kernel) (by decide +kernel)
set_option maxRecDepth 20000 in
theorem gX2_keyAt_X1_isWithin : GoodIn wsX2_keyAt (wsV RX2 150 RX1 yX1_isWithin wsX1_isWithin) := goodIn_app (goodIn_of _ (by decide +kernel)) ggX2_keyAt_X1_isWithin
theorem dX2_keyAt_0 : decode cX2_keyAt 0 = .ok (.aload_n 0, 1) := by decide +kernel
theorem dX2_keyAt_1 : decode cX2_keyAt 1 = .ok (.iload_n 1, 1) := by decide +kernel
theorem dX2_keyAt_2 : decode cX2_keyAt 2 = .ok (.invokevirtual 150, 3) := by decide +kernel
theorem dX2_keyAt_5 : decode cX2_keyAt 5 = .ok (.ifCond .ne 11, 3) := by decide +kernel
theorem dX2_keyAt_8 : decode cX2_keyAt 8 = .ok (.new 57, 3) := by decide +kernel
theorem dX2_keyAt_11 : decode cX2_keyAt 11 = .ok (.dup, 1) := by decide +kernel
theorem dX2_keyAt_12 : decode cX2_keyAt 12 = .ok (.invokespecial 59, 3) := by decide +kernel
theorem dX2_keyAt_15 : decode cX2_keyAt 15 = .ok (.athrow, 1) := by decide +kernel
theorem dX2_keyAt_16 : decode cX2_keyAt 16 = .ok (.aload_n 0, 1) := by decide +kernel
theorem dX2_keyAt_17 : decode cX2_keyAt 17 = .ok (.getfield 122, 3) := by decide +kernel
theorem dX2_keyAt_20 : decode cX2_keyAt 20 = .ok (.iload_n 1, 1) := by decide +kernel
theorem dX2_keyAt_21 : decode cX2_keyAt 21 = .ok (.iaload, 1) := by decide +kernel
theorem dX2_keyAt_22 : decode cX2_keyAt 22 = .ok (.ireturn, 1) := by decide +kernel
theorem dX2_isTaken_0 : decode cX2_isTaken 0 = .ok (.iload_n 1, 1) := by decide +kernel
theorem dX2_isTaken_1 : decode cX2_isTaken 1 = .ok (.ifCond .lt 19, 3) := by decide +kernel
theorem dX2_isTaken_4 : decode cX2_isTaken 4 = .ok (.iload_n 1, 1) := by decide +kernel
theorem dX2_isTaken_5 : decode cX2_isTaken 5 = .ok (.aload_n 0, 1) := by decide +kernel
theorem dX2_isTaken_6 : decode cX2_isTaken 6 = .ok (.arraylength, 1) := by decide +kernel
theorem dX2_isTaken_7 : decode cX2_isTaken 7 = .ok (.if_icmp .ge 13, 3) := by decide +kernel
theorem dX2_isTaken_10 : decode cX2_isTaken 10 = .ok (.aload_n 0, 1) := by decide +kernel
theorem dX2_isTaken_11 : decode cX2_isTaken 11 = .ok (.iload_n 1, 1) := by decide +kernel
theorem dX2_isTaken_12 : decode cX2_isTaken 12 = .ok (.baload, 1) := by decide +kernel
theorem dX2_isTaken_13 : decode cX2_isTaken 13 = .ok (.ifCond .eq 7, 3) := by decide +kernel
theorem dX2_isTaken_16 : decode cX2_isTaken 16 = .ok (.iconst 1, 1) := by decide +kernel
theorem dX2_isTaken_17 : decode cX2_isTaken 17 = .ok (.goto 4, 3) := by decide +kernel
theorem dX2_isTaken_20 : decode cX2_isTaken 20 = .ok (.iconst 0, 1) := by decide +kernel
theorem dX2_isTaken_21 : decode cX2_isTaken 21 = .ok (.ireturn, 1) := by decide +kernel
theorem dX2_leastFree_0 : decode cX2_leastFree 0 = .ok (.iload_n 1, 1) := by decide +kernel
theorem dX2_leastFree_1 : decode cX2_leastFree 1 = .ok (.istore_n 2, 1) := by decide +kernel
theorem dX2_leastFree_2 : decode cX2_leastFree 2 = .ok (.iload_n 2, 1) := by decide +kernel
theorem dX2_leastFree_3 : decode cX2_leastFree 3 = .ok (.aload_n 0, 1) := by decide +kernel
theorem dX2_leastFree_4 : decode cX2_leastFree 4 = .ok (.arraylength, 1) := by decide +kernel
theorem dX2_leastFree_5 : decode cX2_leastFree 5 = .ok (.if_icmp .ge 17, 3) := by decide +kernel
theorem dX2_leastFree_8 : decode cX2_leastFree 8 = .ok (.aload_n 0, 1) := by decide +kernel
theorem dX2_leastFree_9 : decode cX2_leastFree 9 = .ok (.iload_n 2, 1) := by decide +kernel
theorem dX2_leastFree_10 : decode cX2_leastFree 10 = .ok (.baload, 1) := by decide +kernel
theorem dX2_leastFree_11 : decode cX2_leastFree 11 = .ok (.ifCond .ne 5, 3) := by decide +kernel
theorem dX2_leastFree_14 : decode cX2_leastFree 14 = .ok (.iload_n 2, 1) := by decide +kernel
theorem dX2_leastFree_15 : decode cX2_leastFree 15 = .ok (.ireturn, 1) := by decide +kernel
theorem dX2_leastFree_16 : decode cX2_leastFree 16 = .ok (.iinc 2 1, 3) := by decide +kernel
theorem dX2_leastFree_19 : decode cX2_leastFree 19 = .ok (.goto (-17), 3) := by decide +kernel
theorem dX2_leastFree_22 : decode cX2_leastFree 22 = .ok (.aload_n 0, 1) := by decide +kernel
theorem dX2_leastFree_23 : decode cX2_leastFree 23 = .ok (.arraylength, 1) := by decide +kernel
theorem dX2_leastFree_24 : decode cX2_leastFree 24 = .ok (.ireturn, 1) := by decide +kernel
theorem dX2_countTaken_0 : decode cX2_countTaken 0 = .ok (.iconst 0, 1) := by decide +kernel
theorem dX2_countTaken_1 : decode cX2_countTaken 1 = .ok (.istore_n 2, 1) := by decide +kernel
theorem dX2_countTaken_2 : decode cX2_countTaken 2 = .ok (.iload_n 1, 1) := by decide +kernel
theorem dX2_countTaken_3 : decode cX2_countTaken 3 = .ok (.istore_n 3, 1) := by decide +kernel
theorem dX2_countTaken_4 : decode cX2_countTaken 4 = .ok (.iload_n 3, 1) := by decide +kernel
theorem dX2_countTaken_5 : decode cX2_countTaken 5 = .ok (.aload_n 0, 1) := by decide +kernel
theorem dX2_countTaken_6 : decode cX2_countTaken 6 = .ok (.arraylength, 1) := by decide +kernel
theorem dX2_countTaken_7 : decode cX2_countTaken 7 = .ok (.if_icmp .ge 18, 3) := by decide +kernel
theorem dX2_countTaken_10 : decode cX2_countTaken 10 = .ok (.aload_n 0, 1) := by decide +kernel
theorem dX2_countTaken_11 : decode cX2_countTaken 11 = .ok (.iload_n 3, 1) := by decide +kernel
theorem dX2_countTaken_12 : decode cX2_countTaken 12 = .ok (.baload, 1) := by decide +kernel
theorem dX2_countTaken_13 : decode cX2_countTaken 13 = .ok (.ifCond .eq 6, 3) := by decide +kernel
theorem dX2_countTaken_16 : decode cX2_countTaken 16 = .ok (.iinc 2 1, 3) := by decide +kernel
theorem dX2_countTaken_19 : decode cX2_countTaken 19 = .ok (.iinc 3 1, 3) := by decide +kernel
theorem dX2_countTaken_22 : decode cX2_countTaken 22 = .ok (.goto (-18), 3) := by decide +kernel
theorem dX2_countTaken_25 : decode cX2_countTaken 25 = .ok (.iload_n 2, 1) := by decide +kernel
theorem dX2_countTaken_26 : decode cX2_countTaken 26 = .ok (.ireturn, 1) := by decide +kernel

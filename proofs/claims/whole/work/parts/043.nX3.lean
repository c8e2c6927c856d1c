theorem dX3_init_0 : decode cX3_init 0 = .ok (.aload_n 0, 1) := by decide +kernel
theorem dX3_init_1 : decode cX3_init 1 = .ok (.invokespecial 1, 3) := by decide +kernel
theorem dX3_init_4 : decode cX3_init 4 = .ok (.aload_n 0, 1) := by decide +kernel
theorem dX3_init_5 : decode cX3_init 5 = .ok (.sipush 12600, 3) := by decide +kernel
theorem dX3_init_8 : decode cX3_init 8 = .ok (.newarray .int, 2) := by decide +kernel
theorem dX3_init_10 : decode cX3_init 10 = .ok (.putfield 7, 3) := by decide +kernel
theorem dX3_init_13 : decode cX3_init 13 = .ok (.aload_n 0, 1) := by decide +kernel
theorem dX3_init_14 : decode cX3_init 14 = .ok (.sipush 12600, 3) := by decide +kernel
theorem dX3_init_17 : decode cX3_init 17 = .ok (.newarray .int, 2) := by decide +kernel
theorem dX3_init_19 : decode cX3_init 19 = .ok (.putfield 13, 3) := by decide +kernel
theorem dX3_init_22 : decode cX3_init 22 = .ok (.aload_n 0, 1) := by decide +kernel
theorem dX3_init_23 : decode cX3_init 23 = .ok (.bipush 21, 2) := by decide +kernel
theorem dX3_init_25 : decode cX3_init 25 = .ok (.newarray .int, 2) := by decide +kernel
theorem dX3_init_27 : decode cX3_init 27 = .ok (.putfield 16, 3) := by decide +kernel
theorem dX3_init_30 : decode cX3_init 30 = .ok (.aload_n 0, 1) := by decide +kernel
theorem dX3_init_31 : decode cX3_init 31 = .ok (.bipush 21, 2) := by decide +kernel
theorem dX3_init_33 : decode cX3_init 33 = .ok (.newarray .boolean, 2) := by decide +kernel
theorem dX3_init_35 : decode cX3_init 35 = .ok (.putfield 19, 3) := by decide +kernel
theorem dX3_init_38 : decode cX3_init 38 = .ok (.aload_n 0, 1) := by decide +kernel
theorem dX3_init_39 : decode cX3_init 39 = .ok (.bipush 8, 2) := by decide +kernel
theorem dX3_init_41 : decode cX3_init 41 = .ok (.newarray .int, 2) := by decide +kernel
theorem dX3_init_43 : decode cX3_init 43 = .ok (.putfield 23, 3) := by decide +kernel
theorem dX3_init_46 : decode cX3_init 46 = .ok (.aload_n 0, 1) := by decide +kernel
theorem dX3_init_47 : decode cX3_init 47 = .ok (.bipush 8, 2) := by decide +kernel
theorem dX3_init_49 : decode cX3_init 49 = .ok (.newarray .boolean, 2) := by decide +kernel
theorem dX3_init_51 : decode cX3_init 51 = .ok (.putfield 26, 3) := by decide +kernel
theorem dX3_init_54 : decode cX3_init 54 = .ok (.aload_n 0, 1) := by decide +kernel
theorem dX3_init_55 : decode cX3_init 55 = .ok (.getfield 19, 3) := by decide +kernel
theorem dX3_init_58 : decode cX3_init 58 = .ok (.iconst 0, 1) := by decide +kernel
theorem dX3_init_59 : decode cX3_init 59 = .ok (.iconst 1, 1) := by decide +kernel
theorem dX3_init_60 : decode cX3_init 60 = .ok (.bastore, 1) := by decide +kernel
theorem dX3_init_61 : decode cX3_init 61 = .ok (.return_, 1) := by decide +kernel
theorem dX3_thrown_0 : decode cX3_thrown 0 = .ok (.aload_n 0, 1) := by decide +kernel
theorem dX3_thrown_1 : decode cX3_thrown 1 = .ok (.getfield 29, 3) := by decide +kernel
theorem dX3_thrown_4 : decode cX3_thrown 4 = .ok (.ireturn, 1) := by decide +kernel
theorem dX3_below_0 : decode cX3_below 0 = .ok (.iconst 0, 1) := by decide +kernel
theorem dX3_below_1 : decode cX3_below 1 = .ok (.istore_n 3, 1) := by decide +kernel
theorem dX3_below_2 : decode cX3_below 2 = .ok (.iload_n 3, 1) := by decide +kernel
theorem dX3_below_3 : decode cX3_below 3 = .ok (.aload_n 0, 1) := by decide +kernel
theorem dX3_below_4 : decode cX3_below 4 = .ok (.getfield 16, 3) := by decide +kernel
theorem dX3_below_7 : decode cX3_below 7 = .ok (.iload_n 1, 1) := by decide +kernel
theorem dX3_below_8 : decode cX3_below 8 = .ok (.iaload, 1) := by decide +kernel
theorem dX3_below_9 : decode cX3_below 9 = .ok (.if_icmp .ge 25, 3) := by decide +kernel
theorem dX3_below_12 : decode cX3_below 12 = .ok (.aload_n 0, 1) := by decide +kernel
theorem dX3_below_13 : decode cX3_below 13 = .ok (.getfield 7, 3) := by decide +kernel
theorem dX3_below_16 : decode cX3_below 16 = .ok (.sipush 600, 3) := by decide +kernel
theorem dX3_below_19 : decode cX3_below 19 = .ok (.iload_n 1, 1) := by decide +kernel
theorem dX3_below_20 : decode cX3_below 20 = .ok (.imul, 1) := by decide +kernel
theorem dX3_below_21 : decode cX3_below 21 = .ok (.iload_n 3, 1) := by decide +kernel
theorem dX3_below_22 : decode cX3_below 22 = .ok (.iadd, 1) := by decide +kernel
theorem dX3_below_23 : decode cX3_below 23 = .ok (.iaload, 1) := by decide +kernel
theorem dX3_below_24 : decode cX3_below 24 = .ok (.iload_n 2, 1) := by decide +kernel
theorem dX3_below_25 : decode cX3_below 25 = .ok (.if_icmp .ge 9, 3) := by decide +kernel
theorem dX3_below_28 : decode cX3_below 28 = .ok (.iinc 3 1, 3) := by decide +kernel
theorem dX3_below_31 : decode cX3_below 31 = .ok (.goto (-29), 3) := by decide +kernel
theorem dX3_below_34 : decode cX3_below 34 = .ok (.iload_n 3, 1) := by decide +kernel
theorem dX3_below_35 : decode cX3_below 35 = .ok (.ireturn, 1) := by decide +kernel
set_option maxRecDepth 20000 in
theorem ggX3_has_X3_below : GoodIn wsX3_has wsX3_below := goodIn_r _ [7, 1, 2, 8, 9, 10, 11, 12, 13, 14] (by decide +kernel) (by decide +kernel)
set_option maxRecDepth 20000 in
theorem gX3_has_X3_below : GoodIn wsX3_has (wsV RX3 33 RX3 yX3_below wsX3_below) := goodIn_app (goodIn_of _ (by decide +kernel)) ggX3_has_X3_below
theorem dX3_has_0 : decode cX3_has 0 = .ok (.aload_n 0, 1) := by decide +kernel
theorem dX3_has_1 : decode cX3_has 1 = .ok (.iload_n 1, 1) := by decide +kernel
theorem dX3_has_2 : decode cX3_has 2 = .ok (.iload_n 2, 1) := by decide +kernel
theorem dX3_has_3 : decode cX3_has 3 = .ok (.invokevirtual 33, 3) := by decide +kernel
theorem dX3_has_6 : decode cX3_has 6 = .ok (.istore_n 3, 1) := by decide +kernel
theorem dX3_has_7 : decode cX3_has 7 = .ok (.iload_n 3, 1) := by decide +kernel
theorem dX3_has_8 : decode cX3_has 8 = .ok (.aload_n 0, 1) := by decide +kernel
theorem dX3_has_9 : decode cX3_has 9 = .ok (.getfield 16, 3) := by decide +kernel
theorem dX3_has_12 : decode cX3_has 12 = .ok (.iload_n 1, 1) := by decide +kernel
theorem dX3_has_13 : decode cX3_has 13 = .ok (.iaload, 1) := by decide +kernel
theorem dX3_has_14 : decode cX3_has 14 = .ok (.if_icmp .ge 23, 3) := by decide +kernel
theorem dX3_has_17 : decode cX3_has 17 = .ok (.aload_n 0, 1) := by decide +kernel
theorem dX3_has_18 : decode cX3_has 18 = .ok (.getfield 7, 3) := by decide +kernel
theorem dX3_has_21 : decode cX3_has 21 = .ok (.sipush 600, 3) := by decide +kernel
theorem dX3_has_24 : decode cX3_has 24 = .ok (.iload_n 1, 1) := by decide +kernel
theorem dX3_has_25 : decode cX3_has 25 = .ok (.imul, 1) := by decide +kernel
theorem dX3_has_26 : decode cX3_has 26 = .ok (.iload_n 3, 1) := by decide +kernel
theorem dX3_has_27 : decode cX3_has 27 = .ok (.iadd, 1) := by decide +kernel
theorem dX3_has_28 : decode cX3_has 28 = .ok (.iaload, 1) := by decide +kernel
theorem dX3_has_29 : decode cX3_has 29 = .ok (.iload_n 2, 1) := by decide +kernel
theorem dX3_has_30 : decode cX3_has 30 = .ok (.if_icmp .ne 7, 3) := by decide +kernel
theorem dX3_has_33 : decode cX3_has 33 = .ok (.iconst 1, 1) := by decide +kernel
theorem dX3_has_34 : decode cX3_has 34 = .ok (.goto 4, 3) := by decide +kernel
theorem dX3_has_37 : decode cX3_has 37 = .ok (.iconst 0, 1) := by decide +kernel
theorem dX3_has_38 : decode cX3_has 38 = .ok (.ireturn, 1) := by decide +kernel
set_option maxRecDepth 20000 in
theorem ggX3_upTo_X3_below : GoodIn wsX3_upTo wsX3_below := goodIn_r _ [5, 6, 7, 12, 13, 14, 15, 16, 17, 18] (by decide +kernel) (by decide +kernel)
set_option maxRecDepth 20000 in
theorem gX3_upTo_X3_below : GoodIn wsX3_upTo (wsV RX3 33 RX3 yX3_below wsX3_below) := goodIn_app (goodIn_of _ (by decide +kernel)) ggX3_upTo_X3_below
set_option maxRecDepth 20000 in
theorem ggX3_upTo_X3_has : GoodIn wsX3_upTo wsX3_has := goodIn_r _ [11, 6, 7, 1, 2, 3, 4, 5, 12, 13, 14, 15, 16, 17, 18] (by decide +kernel) (by decide +kernel)
set_option maxRecDepth 20000 in
theorem gX3_upTo_X3_has : GoodIn wsX3_upTo (wsV RX3 37 RX3 yX3_has wsX3_has) := goodIn_app (goodIn_of _ (by decide +kernel)) ggX3_upTo_X3_has
theorem dX3_upTo_0 : decode cX3_upTo 0 = .ok (.aload_n 0, 1) := by decide +kernel
theorem dX3_upTo_1 : decode cX3_upTo 1 = .ok (.iload_n 1, 1) := by decide +kernel
theorem dX3_upTo_2 : decode cX3_upTo 2 = .ok (.iload_n 2, 1) := by decide +kernel
theorem dX3_upTo_3 : decode cX3_upTo 3 = .ok (.invokevirtual 33, 3) := by decide +kernel
theorem dX3_upTo_6 : decode cX3_upTo 6 = .ok (.aload_n 0, 1) := by decide +kernel
theorem dX3_upTo_7 : decode cX3_upTo 7 = .ok (.iload_n 1, 1) := by decide +kernel
theorem dX3_upTo_8 : decode cX3_upTo 8 = .ok (.iload_n 2, 1) := by decide +kernel
theorem dX3_upTo_9 : decode cX3_upTo 9 = .ok (.invokevirtual 37, 3) := by decide +kernel
theorem dX3_upTo_12 : decode cX3_upTo 12 = .ok (.ifCond .eq 7, 3) := by decide +kernel
theorem dX3_upTo_15 : decode cX3_upTo 15 = .ok (.iconst 1, 1) := by decide +kernel
theorem dX3_upTo_16 : decode cX3_upTo 16 = .ok (.goto 4, 3) := by decide +kernel
theorem dX3_upTo_19 : decode cX3_upTo 19 = .ok (.iconst 0, 1) := by decide +kernel
theorem dX3_upTo_20 : decode cX3_upTo 20 = .ok (.iadd, 1) := by decide +kernel
theorem dX3_upTo_21 : decode cX3_upTo 21 = .ok (.ireturn, 1) := by decide +kernel
set_option maxRecDepth 20000 in
theorem ggX3_insert_X3_below : GoodIn wsX3_insert wsX3_below := goodIn_r _ [8, 1, 2, 9, 10, 11, 12, 13, 14, 15] (by decide +kernel) (by decide +kernel)
set_option maxRecDepth 20000 in
theorem gX3_insert_X3_below : GoodIn wsX3_insert (wsV RX3 33 RX3 yX3_below wsX3_below) := goodIn_app (goodIn_of _ (by decide +kernel)) ggX3_insert_X3_below
theorem dX3_insert_0 : decode cX3_insert 0 = .ok (.aload_n 0, 1) := by decide +kernel
theorem dX3_insert_1 : decode cX3_insert 1 = .ok (.iconst 0, 1) := by decide +kernel
theorem dX3_insert_2 : decode cX3_insert 2 = .ok (.iload_n 1, 1) := by decide +kernel
theorem dX3_insert_3 : decode cX3_insert 3 = .ok (.invokevirtual 33, 3) := by decide +kernel
theorem dX3_insert_6 : decode cX3_insert 6 = .ok (.istore_n 3, 1) := by decide +kernel
theorem dX3_insert_7 : decode cX3_insert 7 = .ok (.aload_n 0, 1) := by decide +kernel
theorem dX3_insert_8 : decode cX3_insert 8 = .ok (.getfield 16, 3) := by decide +kernel
theorem dX3_insert_11 : decode cX3_insert 11 = .ok (.iconst 0, 1) := by decide +kernel
theorem dX3_insert_12 : decode cX3_insert 12 = .ok (.iaload, 1) := by decide +kernel
theorem dX3_insert_13 : decode cX3_insert 13 = .ok (.istore 4, 2) := by decide +kernel
theorem dX3_insert_15 : decode cX3_insert 15 = .ok (.iload 4, 2) := by decide +kernel
theorem dX3_insert_17 : decode cX3_insert 17 = .ok (.iload_n 3, 1) := by decide +kernel
theorem dX3_insert_18 : decode cX3_insert 18 = .ok (.if_icmp .le 41, 3) := by decide +kernel
theorem dX3_insert_21 : decode cX3_insert 21 = .ok (.aload_n 0, 1) := by decide +kernel
theorem dX3_insert_22 : decode cX3_insert 22 = .ok (.getfield 7, 3) := by decide +kernel
theorem dX3_insert_25 : decode cX3_insert 25 = .ok (.iload 4, 2) := by decide +kernel
theorem dX3_insert_27 : decode cX3_insert 27 = .ok (.aload_n 0, 1) := by decide +kernel
theorem dX3_insert_28 : decode cX3_insert 28 = .ok (.getfield 7, 3) := by decide +kernel
theorem dX3_insert_31 : decode cX3_insert 31 = .ok (.iload 4, 2) := by decide +kernel
theorem dX3_insert_33 : decode cX3_insert 33 = .ok (.iconst 1, 1) := by decide +kernel
theorem dX3_insert_34 : decode cX3_insert 34 = .ok (.isub, 1) := by decide +kernel
theorem dX3_insert_35 : decode cX3_insert 35 = .ok (.iaload, 1) := by decide +kernel
theorem dX3_insert_36 : decode cX3_insert 36 = .ok (.iastore, 1) := by decide +kernel
theorem dX3_insert_37 : decode cX3_insert 37 = .ok (.aload_n 0, 1) := by decide +kernel
theorem dX3_insert_38 : decode cX3_insert 38 = .ok (.getfield 13, 3) := by decide +kernel
theorem dX3_insert_41 : decode cX3_insert 41 = .ok (.iload 4, 2) := by decide +kernel
theorem dX3_insert_43 : decode cX3_insert 43 = .ok (.aload_n 0, 1) := by decide +kernel
theorem dX3_insert_44 : decode cX3_insert 44 = .ok (.getfield 13, 3) := by decide +kernel
theorem dX3_insert_47 : decode cX3_insert 47 = .ok (.iload 4, 2) := by decide +kernel
theorem dX3_insert_49 : decode cX3_insert 49 = .ok (.iconst 1, 1) := by decide +kernel
theorem dX3_insert_50 : decode cX3_insert 50 = .ok (.isub, 1) := by decide +kernel
theorem dX3_insert_51 : decode cX3_insert 51 = .ok (.iaload, 1) := by decide +kernel
theorem dX3_insert_52 : decode cX3_insert 52 = .ok (.iastore, 1) := by decide +kernel
theorem dX3_insert_53 : decode cX3_insert 53 = .ok (.iinc 4 (-1), 3) := by decide +kernel
theorem dX3_insert_56 : decode cX3_insert 56 = .ok (.goto (-41), 3) := by decide +kernel
theorem dX3_insert_59 : decode cX3_insert 59 = .ok (.aload_n 0, 1) := by decide +kernel
theorem dX3_insert_60 : decode cX3_insert 60 = .ok (.getfield 7, 3) := by decide +kernel
theorem dX3_insert_63 : decode cX3_insert 63 = .ok (.iload_n 3, 1) := by decide +kernel
theorem dX3_insert_64 : decode cX3_insert 64 = .ok (.iload_n 1, 1) := by decide +kernel
theorem dX3_insert_65 : decode cX3_insert 65 = .ok (.iastore, 1) := by decide +kernel
theorem dX3_insert_66 : decode cX3_insert 66 = .ok (.aload_n 0, 1) := by decide +kernel
theorem dX3_insert_67 : decode cX3_insert 67 = .ok (.getfield 13, 3) := by decide +kernel
theorem dX3_insert_70 : decode cX3_insert 70 = .ok (.iload_n 3, 1) := by decide +kernel
theorem dX3_insert_71 : decode cX3_insert 71 = .ok (.iload_n 2, 1) := by decide +kernel
theorem dX3_insert_72 : decode cX3_insert 72 = .ok (.iastore, 1) := by decide +kernel
theorem dX3_insert_73 : decode cX3_insert 73 = .ok (.aload_n 0, 1) := by decide +kernel
theorem dX3_insert_74 : decode cX3_insert 74 = .ok (.getfield 16, 3) := by decide +kernel
theorem dX3_insert_77 : decode cX3_insert 77 = .ok (.iconst 0, 1) := by decide +kernel
theorem dX3_insert_78 : decode cX3_insert 78 = .ok (.dup2, 1) := by decide +kernel
theorem dX3_insert_79 : decode cX3_insert 79 = .ok (.iaload, 1) := by decide +kernel
theorem dX3_insert_80 : decode cX3_insert 80 = .ok (.iconst 1, 1) := by decide +kernel
theorem dX3_insert_81 : decode cX3_insert 81 = .ok (.iadd, 1) := by decide +kernel
theorem dX3_insert_82 : decode cX3_insert 82 = .ok (.iastore, 1) := by decide +kernel
theorem dX3_insert_83 : decode cX3_insert 83 = .ok (.return_, 1) := by decide +kernel
theorem dX3_takeOut_0 : decode cX3_takeOut 0 = .ok (.iload_n 1, 1) := by decide +kernel
theorem dX3_takeOut_1 : decode cX3_takeOut 1 = .ok (.istore_n 3, 1) := by decide +kernel
theorem dX3_takeOut_2 : decode cX3_takeOut 2 = .ok (.iload_n 3, 1) := by decide +kernel
theorem dX3_takeOut_3 : decode cX3_takeOut 3 = .ok (.iload_n 2, 1) := by decide +kernel
theorem dX3_takeOut_4 : decode cX3_takeOut 4 = .ok (.iadd, 1) := by decide +kernel
theorem dX3_takeOut_5 : decode cX3_takeOut 5 = .ok (.aload_n 0, 1) := by decide +kernel
theorem dX3_takeOut_6 : decode cX3_takeOut 6 = .ok (.getfield 16, 3) := by decide +kernel
theorem dX3_takeOut_9 : decode cX3_takeOut 9 = .ok (.iconst 0, 1) := by decide +kernel
theorem dX3_takeOut_10 : decode cX3_takeOut 10 = .ok (.iaload, 1) := by decide +kernel
theorem dX3_takeOut_11 : decode cX3_takeOut 11 = .ok (.if_icmp .ge 37, 3) := by decide +kernel
theorem dX3_takeOut_14 : decode cX3_takeOut 14 = .ok (.aload_n 0, 1) := by decide +kernel
theorem dX3_takeOut_15 : decode cX3_takeOut 15 = .ok (.getfield 7, 3) := by decide +kernel
theorem dX3_takeOut_18 : decode cX3_takeOut 18 = .ok (.iload_n 3, 1) := by decide +kernel
theorem dX3_takeOut_19 : decode cX3_takeOut 19 = .ok (.aload_n 0, 1) := by decide +kernel
theorem dX3_takeOut_20 : decode cX3_takeOut 20 = .ok (.getfield 7, 3) := by decide +kernel
theorem dX3_takeOut_23 : decode cX3_takeOut 23 = .ok (.iload_n 3, 1) := by decide +kernel
theorem dX3_takeOut_24 : decode cX3_takeOut 24 = .ok (.iload_n 2, 1) := by decide +kernel
theorem dX3_takeOut_25 : decode cX3_takeOut 25 = .ok (.iadd, 1) := by decide +kernel
theorem dX3_takeOut_26 : decode cX3_takeOut 26 = .ok (.iaload, 1) := by decide +kernel
theorem dX3_takeOut_27 : decode cX3_takeOut 27 = .ok (.iastore, 1) := by decide +kernel
theorem dX3_takeOut_28 : decode cX3_takeOut 28 = .ok (.aload_n 0, 1) := by decide +kernel
theorem dX3_takeOut_29 : decode cX3_takeOut 29 = .ok (.getfield 13, 3) := by decide +kernel
theorem dX3_takeOut_32 : decode cX3_takeOut 32 = .ok (.iload_n 3, 1) := by decide +kernel
theorem dX3_takeOut_33 : decode cX3_takeOut 33 = .ok (.aload_n 0, 1) := by decide +kernel
theorem dX3_takeOut_34 : decode cX3_takeOut 34 = .ok (.getfield 13, 3) := by decide +kernel
theorem dX3_takeOut_37 : decode cX3_takeOut 37 = .ok (.iload_n 3, 1) := by decide +kernel
theorem dX3_takeOut_38 : decode cX3_takeOut 38 = .ok (.iload_n 2, 1) := by decide +kernel
theorem dX3_takeOut_39 : decode cX3_takeOut 39 = .ok (.iadd, 1) := by decide +kernel
theorem dX3_takeOut_40 : decode cX3_takeOut 40 = .ok (.iaload, 1) := by decide +kernel
theorem dX3_takeOut_41 : decode cX3_takeOut 41 = .ok (.iastore, 1) := by decide +kernel
theorem dX3_takeOut_42 : decode cX3_takeOut 42 = .ok (.iinc 3 1, 3) := by decide +kernel
theorem dX3_takeOut_45 : decode cX3_takeOut 45 = .ok (.goto (-43), 3) := by decide +kernel
theorem dX3_takeOut_48 : decode cX3_takeOut 48 = .ok (.aload_n 0, 1) := by decide +kernel
theorem dX3_takeOut_49 : decode cX3_takeOut 49 = .ok (.getfield 16, 3) := by decide +kernel
theorem dX3_takeOut_52 : decode cX3_takeOut 52 = .ok (.iconst 0, 1) := by decide +kernel
theorem dX3_takeOut_53 : decode cX3_takeOut 53 = .ok (.dup2, 1) := by decide +kernel
theorem dX3_takeOut_54 : decode cX3_takeOut 54 = .ok (.iaload, 1) := by decide +kernel
theorem dX3_takeOut_55 : decode cX3_takeOut 55 = .ok (.iload_n 2, 1) := by decide +kernel
theorem dX3_takeOut_56 : decode cX3_takeOut 56 = .ok (.isub, 1) := by decide +kernel
theorem dX3_takeOut_57 : decode cX3_takeOut 57 = .ok (.iastore, 1) := by decide +kernel
theorem dX3_takeOut_58 : decode cX3_takeOut 58 = .ok (.return_, 1) := by decide +kernel
theorem dX3_copy_0 : decode cX3_copy 0 = .ok (.aload_n 0, 1) := by decide +kernel
theorem dX3_copy_1 : decode cX3_copy 1 = .ok (.getfield 16, 3) := by decide +kernel
theorem dX3_copy_4 : decode cX3_copy 4 = .ok (.iload_n 2, 1) := by decide +kernel
theorem dX3_copy_5 : decode cX3_copy 5 = .ok (.aload_n 0, 1) := by decide +kernel
theorem dX3_copy_6 : decode cX3_copy 6 = .ok (.getfield 16, 3) := by decide +kernel
theorem dX3_copy_9 : decode cX3_copy 9 = .ok (.iload_n 1, 1) := by decide +kernel
theorem dX3_copy_10 : decode cX3_copy 10 = .ok (.iaload, 1) := by decide +kernel
theorem dX3_copy_11 : decode cX3_copy 11 = .ok (.iastore, 1) := by decide +kernel
theorem dX3_copy_12 : decode cX3_copy 12 = .ok (.iconst 0, 1) := by decide +kernel
theorem dX3_copy_13 : decode cX3_copy 13 = .ok (.istore_n 3, 1) := by decide +kernel
theorem dX3_copy_14 : decode cX3_copy 14 = .ok (.iload_n 3, 1) := by decide +kernel
theorem dX3_copy_15 : decode cX3_copy 15 = .ok (.aload_n 0, 1) := by decide +kernel
theorem dX3_copy_16 : decode cX3_copy 16 = .ok (.getfield 16, 3) := by decide +kernel
theorem dX3_copy_19 : decode cX3_copy 19 = .ok (.iload_n 1, 1) := by decide +kernel
theorem dX3_copy_20 : decode cX3_copy 20 = .ok (.iaload, 1) := by decide +kernel
theorem dX3_copy_21 : decode cX3_copy 21 = .ok (.if_icmp .ge 57, 3) := by decide +kernel
theorem dX3_copy_24 : decode cX3_copy 24 = .ok (.aload_n 0, 1) := by decide +kernel
theorem dX3_copy_25 : decode cX3_copy 25 = .ok (.getfield 7, 3) := by decide +kernel
theorem dX3_copy_28 : decode cX3_copy 28 = .ok (.sipush 600, 3) := by decide +kernel
theorem dX3_copy_31 : decode cX3_copy 31 = .ok (.iload_n 2, 1) := by decide +kernel
theorem dX3_copy_32 : decode cX3_copy 32 = .ok (.imul, 1) := by decide +kernel
theorem dX3_copy_33 : decode cX3_copy 33 = .ok (.iload_n 3, 1) := by decide +kernel
theorem dX3_copy_34 : decode cX3_copy 34 = .ok (.iadd, 1) := by decide +kernel
theorem dX3_copy_35 : decode cX3_copy 35 = .ok (.aload_n 0, 1) := by decide +kernel
theorem dX3_copy_36 : decode cX3_copy 36 = .ok (.getfield 7, 3) := by decide +kernel
theorem dX3_copy_39 : decode cX3_copy 39 = .ok (.sipush 600, 3) := by decide +kernel
theorem dX3_copy_42 : decode cX3_copy 42 = .ok (.iload_n 1, 1) := by decide +kernel
theorem dX3_copy_43 : decode cX3_copy 43 = .ok (.imul, 1) := by decide +kernel
theorem dX3_copy_44 : decode cX3_copy 44 = .ok (.iload_n 3, 1) := by decide +kernel
theorem dX3_copy_45 : decode cX3_copy 45 = .ok (.iadd, 1) := by decide +kernel
theorem dX3_copy_46 : decode cX3_copy 46 = .ok (.iaload, 1) := by decide +kernel
theorem dX3_copy_47 : decode cX3_copy 47 = .ok (.iastore, 1) := by decide +kernel
theorem dX3_copy_48 : decode cX3_copy 48 = .ok (.aload_n 0, 1) := by decide +kernel
theorem dX3_copy_49 : decode cX3_copy 49 = .ok (.getfield 13, 3) := by decide +kernel
theorem dX3_copy_52 : decode cX3_copy 52 = .ok (.sipush 600, 3) := by decide +kernel
theorem dX3_copy_55 : decode cX3_copy 55 = .ok (.iload_n 2, 1) := by decide +kernel
theorem dX3_copy_56 : decode cX3_copy 56 = .ok (.imul, 1) := by decide +kernel
theorem dX3_copy_57 : decode cX3_copy 57 = .ok (.iload_n 3, 1) := by decide +kernel
theorem dX3_copy_58 : decode cX3_copy 58 = .ok (.iadd, 1) := by decide +kernel
theorem dX3_copy_59 : decode cX3_copy 59 = .ok (.aload_n 0, 1) := by decide +kernel
theorem dX3_copy_60 : decode cX3_copy 60 = .ok (.getfield 13, 3) := by decide +kernel
theorem dX3_copy_63 : decode cX3_copy 63 = .ok (.sipush 600, 3) := by decide +kernel
theorem dX3_copy_66 : decode cX3_copy 66 = .ok (.iload_n 1, 1) := by decide +kernel
theorem dX3_copy_67 : decode cX3_copy 67 = .ok (.imul, 1) := by decide +kernel
theorem dX3_copy_68 : decode cX3_copy 68 = .ok (.iload_n 3, 1) := by decide +kernel
theorem dX3_copy_69 : decode cX3_copy 69 = .ok (.iadd, 1) := by decide +kernel
theorem dX3_copy_70 : decode cX3_copy 70 = .ok (.iaload, 1) := by decide +kernel
theorem dX3_copy_71 : decode cX3_copy 71 = .ok (.iastore, 1) := by decide +kernel
theorem dX3_copy_72 : decode cX3_copy 72 = .ok (.iinc 3 1, 3) := by decide +kernel
theorem dX3_copy_75 : decode cX3_copy 75 = .ok (.goto (-61), 3) := by decide +kernel
theorem dX3_copy_78 : decode cX3_copy 78 = .ok (.return_, 1) := by decide +kernel
theorem dX3_isVersion_0 : decode cX3_isVersion 0 = .ok (.iload_n 1, 1) := by decide +kernel
theorem dX3_isVersion_1 : decode cX3_isVersion 1 = .ok (.ifCond .lt 22, 3) := by decide +kernel
theorem dX3_isVersion_4 : decode cX3_isVersion 4 = .ok (.iload_n 1, 1) := by decide +kernel
theorem dX3_isVersion_5 : decode cX3_isVersion 5 = .ok (.bipush 12, 2) := by decide +kernel
theorem dX3_isVersion_7 : decode cX3_isVersion 7 = .ok (.if_icmp .gt 16, 3) := by decide +kernel
theorem dX3_isVersion_10 : decode cX3_isVersion 10 = .ok (.aload_n 0, 1) := by decide +kernel
theorem dX3_isVersion_11 : decode cX3_isVersion 11 = .ok (.getfield 19, 3) := by decide +kernel
theorem dX3_isVersion_14 : decode cX3_isVersion 14 = .ok (.iload_n 1, 1) := by decide +kernel
theorem dX3_isVersion_15 : decode cX3_isVersion 15 = .ok (.baload, 1) := by decide +kernel
theorem dX3_isVersion_16 : decode cX3_isVersion 16 = .ok (.ifCond .eq 7, 3) := by decide +kernel
theorem dX3_isVersion_19 : decode cX3_isVersion 19 = .ok (.iconst 1, 1) := by decide +kernel
theorem dX3_isVersion_20 : decode cX3_isVersion 20 = .ok (.goto 4, 3) := by decide +kernel
theorem dX3_isVersion_23 : decode cX3_isVersion 23 = .ok (.iconst 0, 1) := by decide +kernel
theorem dX3_isVersion_24 : decode cX3_isVersion 24 = .ok (.ireturn, 1) := by decide +kernel
set_option maxRecDepth 20000 in
theorem ggX3_isSnapshot_X3_isVersion : GoodIn wsX3_isSnapshot wsX3_isVersion := goodIn_r _ [5, 6, 7, 8, 9, 10, 11, 12, 13] (by decide +kernel) (by decide +kernel)
set_option maxRecDepth 20000 in
theorem gX3_isSnapshot_X3_isVersion : GoodIn wsX3_isSnapshot (wsV RX3 41 RX3 yX3_isVersion wsX3_isVersion) := goodIn_app (goodIn_of _ (by decide +kernel)) ggX3_isSnapshot_X3_isVersion
theorem dX3_isSnapshot_0 : decode cX3_isSnapshot 0 = .ok (.iload_n 1, 1) := by decide +kernel
theorem dX3_isSnapshot_1 : decode cX3_isSnapshot 1 = .ok (.ifCond .le 15, 3) := by decide +kernel
theorem dX3_isSnapshot_4 : decode cX3_isSnapshot 4 = .ok (.aload_n 0, 1) := by decide +kernel
theorem dX3_isSnapshot_5 : decode cX3_isSnapshot 5 = .ok (.iload_n 1, 1) := by decide +kernel
theorem dX3_isSnapshot_6 : decode cX3_isSnapshot 6 = .ok (.invokevirtual 41, 3) := by decide +kernel
theorem dX3_isSnapshot_9 : decode cX3_isSnapshot 9 = .ok (.ifCond .eq 7, 3) := by decide +kernel
theorem dX3_isSnapshot_12 : decode cX3_isSnapshot 12 = .ok (.iconst 1, 1) := by decide +kernel
theorem dX3_isSnapshot_13 : decode cX3_isSnapshot 13 = .ok (.goto 4, 3) := by decide +kernel
theorem dX3_isSnapshot_16 : decode cX3_isSnapshot 16 = .ok (.iconst 0, 1) := by decide +kernel
theorem dX3_isSnapshot_17 : decode cX3_isSnapshot 17 = .ok (.ireturn, 1) := by decide +kernel
theorem dX3_isCursor_0 : decode cX3_isCursor 0 = .ok (.iload_n 1, 1) := by decide +kernel
theorem dX3_isCursor_1 : decode cX3_isCursor 1 = .ok (.ifCond .lt 25, 3) := by decide +kernel
theorem dX3_isCursor_4 : decode cX3_isCursor 4 = .ok (.iload_n 1, 1) := by decide +kernel
theorem dX3_isCursor_5 : decode cX3_isCursor 5 = .ok (.bipush 8, 2) := by decide +kernel
theorem dX3_isCursor_7 : decode cX3_isCursor 7 = .ok (.if_icmp .ge 19, 3) := by decide +kernel
theorem dX3_isCursor_10 : decode cX3_isCursor 10 = .ok (.aload_n 0, 1) := by decide +kernel
theorem dX3_isCursor_11 : decode cX3_isCursor 11 = .ok (.getfield 19, 3) := by decide +kernel
theorem dX3_isCursor_14 : decode cX3_isCursor 14 = .ok (.bipush 13, 2) := by decide +kernel
theorem dX3_isCursor_16 : decode cX3_isCursor 16 = .ok (.iload_n 1, 1) := by decide +kernel
theorem dX3_isCursor_17 : decode cX3_isCursor 17 = .ok (.iadd, 1) := by decide +kernel
theorem dX3_isCursor_18 : decode cX3_isCursor 18 = .ok (.baload, 1) := by decide +kernel
theorem dX3_isCursor_19 : decode cX3_isCursor 19 = .ok (.ifCond .eq 7, 3) := by decide +kernel
theorem dX3_isCursor_22 : decode cX3_isCursor 22 = .ok (.iconst 1, 1) := by decide +kernel
theorem dX3_isCursor_23 : decode cX3_isCursor 23 = .ok (.goto 4, 3) := by decide +kernel
theorem dX3_isCursor_26 : decode cX3_isCursor 26 = .ok (.iconst 0, 1) := by decide +kernel
theorem dX3_isCursor_27 : decode cX3_isCursor 27 = .ok (.ireturn, 1) := by decide +kernel
theorem dX3_spare_0 : decode cX3_spare 0 = .ok (.iconst (-1), 1) := by decide +kernel
theorem dX3_spare_1 : decode cX3_spare 1 = .ok (.istore_n 3, 1) := by decide +kernel
theorem dX3_spare_2 : decode cX3_spare 2 = .ok (.iload_n 2, 1) := by decide +kernel
theorem dX3_spare_3 : decode cX3_spare 3 = .ok (.istore 4, 2) := by decide +kernel
theorem dX3_spare_5 : decode cX3_spare 5 = .ok (.iload 4, 2) := by decide +kernel
theorem dX3_spare_7 : decode cX3_spare 7 = .ok (.iload_n 1, 1) := by decide +kernel
theorem dX3_spare_8 : decode cX3_spare 8 = .ok (.if_icmp .lt 26, 3) := by decide +kernel
theorem dX3_spare_11 : decode cX3_spare 11 = .ok (.aload_n 0, 1) := by decide +kernel
theorem dX3_spare_12 : decode cX3_spare 12 = .ok (.getfield 19, 3) := by decide +kernel
theorem dX3_spare_15 : decode cX3_spare 15 = .ok (.iload 4, 2) := by decide +kernel
theorem dX3_spare_17 : decode cX3_spare 17 = .ok (.baload, 1) := by decide +kernel
theorem dX3_spare_18 : decode cX3_spare 18 = .ok (.ifCond .eq 7, 3) := by decide +kernel
theorem dX3_spare_21 : decode cX3_spare 21 = .ok (.iload_n 3, 1) := by decide +kernel
theorem dX3_spare_22 : decode cX3_spare 22 = .ok (.goto 5, 3) := by decide +kernel
theorem dX3_spare_25 : decode cX3_spare 25 = .ok (.iload 4, 2) := by decide +kernel
theorem dX3_spare_27 : decode cX3_spare 27 = .ok (.istore_n 3, 1) := by decide +kernel
theorem dX3_spare_28 : decode cX3_spare 28 = .ok (.iinc 4 (-1), 3) := by decide +kernel
theorem dX3_spare_31 : decode cX3_spare 31 = .ok (.goto (-26), 3) := by decide +kernel
theorem dX3_spare_34 : decode cX3_spare 34 = .ok (.iload_n 3, 1) := by decide +kernel
theorem dX3_spare_35 : decode cX3_spare 35 = .ok (.ireturn, 1) := by decide +kernel
set_option maxRecDepth 20000 in
theorem ggX3_put_X3_has : GoodIn wsX3_put wsX3_has := goodIn_r _ [8, 1, 9, 10, 11, 12, 7, 13, 18, 19, 20, 21, 22, 23, 24] (by decide +kernel) (by decide +kernel)
set_option maxRecDepth 20000 in
theorem gX3_put_X3_has : GoodIn wsX3_put (wsV RX3 37 RX3 yX3_has wsX3_has) := goodIn_app (goodIn_of _ (by decide +kernel)) ggX3_put_X3_has
set_option maxRecDepth 20000 in
theorem ggX3_put_X3_insert : GoodIn wsX3_put wsX3_insert := goodIn_r _ [17, 1, 9, 3, 10, 11, 12, 7, 13, 18, 19, 20, 21, 22, 23, 24] (by decide +kernel) (by decide +kernel)
set_option maxRecDepth 20000 in
theorem gX3_put_X3_insert : GoodIn wsX3_put (wsV RX3 45 RX3 yX3_insert wsX3_insert) := goodIn_app (goodIn_of _ (by decide +kernel)) ggX3_put_X3_insert
set_option maxRecDepth 20000 in
theorem ggX3_put_X3_below : GoodIn wsX3_put wsX3_below := goodIn_r _ [13, 1, 9, 18, 19, 20, 21, 22, 23, 24] (by decide +kernel) (by decide +kernel)
set_option maxRecDepth 20000 in
theorem gX3_put_X3_below : GoodIn wsX3_put (wsV RX3 33 RX3 yX3_below wsX3_below) := goodIn_app (goodIn_of _ (by decide +kernel)) ggX3_put_X3_below
theorem dX3_put_0 : decode cX3_put 0 = .ok (.aload_n 0, 1) := by decide +kernel
theorem dX3_put_1 : decode cX3_put 1 = .ok (.iconst 0, 1) := by decide +kernel
theorem dX3_put_2 : decode cX3_put 2 = .ok (.iload_n 1, 1) := by decide +kernel
theorem dX3_put_3 : decode cX3_put 3 = .ok (.invokevirtual 37, 3) := by decide +kernel
theorem dX3_put_6 : decode cX3_put 6 = .ok (.ifCond .ne 7, 3) := by decide +kernel
theorem dX3_put_9 : decode cX3_put 9 = .ok (.iconst 1, 1) := by decide +kernel
theorem dX3_put_10 : decode cX3_put 10 = .ok (.goto 4, 3) := by decide +kernel
theorem dX3_put_13 : decode cX3_put 13 = .ok (.iconst 0, 1) := by decide +kernel
theorem dX3_put_14 : decode cX3_put 14 = .ok (.istore_n 3, 1) := by decide +kernel
theorem dX3_put_15 : decode cX3_put 15 = .ok (.aload_n 0, 1) := by decide +kernel
theorem dX3_put_16 : decode cX3_put 16 = .ok (.iload_n 3, 1) := by decide +kernel
theorem dX3_put_17 : decode cX3_put 17 = .ok (.ifCond .eq 19, 3) := by decide +kernel
theorem dX3_put_20 : decode cX3_put 20 = .ok (.aload_n 0, 1) := by decide +kernel
theorem dX3_put_21 : decode cX3_put 21 = .ok (.getfield 16, 3) := by decide +kernel
theorem dX3_put_24 : decode cX3_put 24 = .ok (.iconst 0, 1) := by decide +kernel
theorem dX3_put_25 : decode cX3_put 25 = .ok (.iaload, 1) := by decide +kernel
theorem dX3_put_26 : decode cX3_put 26 = .ok (.sipush 600, 3) := by decide +kernel
theorem dX3_put_29 : decode cX3_put 29 = .ok (.if_icmp .ne 7, 3) := by decide +kernel
theorem dX3_put_32 : decode cX3_put 32 = .ok (.iconst 1, 1) := by decide +kernel
theorem dX3_put_33 : decode cX3_put 33 = .ok (.goto 4, 3) := by decide +kernel
theorem dX3_put_36 : decode cX3_put 36 = .ok (.iconst 0, 1) := by decide +kernel
theorem dX3_put_37 : decode cX3_put 37 = .ok (.putfield 29, 3) := by decide +kernel
theorem dX3_put_40 : decode cX3_put 40 = .ok (.aload_n 0, 1) := by decide +kernel
theorem dX3_put_41 : decode cX3_put 41 = .ok (.getfield 29, 3) := by decide +kernel
theorem dX3_put_44 : decode cX3_put 44 = .ok (.ifCond .le 5, 3) := by decide +kernel
theorem dX3_put_47 : decode cX3_put 47 = .ok (.iconst 0, 1) := by decide +kernel
theorem dX3_put_48 : decode cX3_put 48 = .ok (.ireturn, 1) := by decide +kernel
theorem dX3_put_49 : decode cX3_put 49 = .ok (.iload_n 3, 1) := by decide +kernel
theorem dX3_put_50 : decode cX3_put 50 = .ok (.ifCond .eq 12, 3) := by decide +kernel
theorem dX3_put_53 : decode cX3_put 53 = .ok (.aload_n 0, 1) := by decide +kernel
theorem dX3_put_54 : decode cX3_put 54 = .ok (.iload_n 1, 1) := by decide +kernel
theorem dX3_put_55 : decode cX3_put 55 = .ok (.iload_n 2, 1) := by decide +kernel
theorem dX3_put_56 : decode cX3_put 56 = .ok (.invokevirtual 45, 3) := by decide +kernel
theorem dX3_put_59 : decode cX3_put 59 = .ok (.goto 15, 3) := by decide +kernel
theorem dX3_put_62 : decode cX3_put 62 = .ok (.aload_n 0, 1) := by decide +kernel
theorem dX3_put_63 : decode cX3_put 63 = .ok (.getfield 13, 3) := by decide +kernel
theorem dX3_put_66 : decode cX3_put 66 = .ok (.aload_n 0, 1) := by decide +kernel
theorem dX3_put_67 : decode cX3_put 67 = .ok (.iconst 0, 1) := by decide +kernel
theorem dX3_put_68 : decode cX3_put 68 = .ok (.iload_n 1, 1) := by decide +kernel
theorem dX3_put_69 : decode cX3_put 69 = .ok (.invokevirtual 33, 3) := by decide +kernel
theorem dX3_put_72 : decode cX3_put 72 = .ok (.iload_n 2, 1) := by decide +kernel
theorem dX3_put_73 : decode cX3_put 73 = .ok (.iastore, 1) := by decide +kernel
theorem dX3_put_74 : decode cX3_put 74 = .ok (.iload_n 3, 1) := by decide +kernel
theorem dX3_put_75 : decode cX3_put 75 = .ok (.ireturn, 1) := by decide +kernel
set_option maxRecDepth 20000 in
theorem ggX3_remove_X3_has : GoodIn wsX3_remove wsX3_has := goodIn_r _ [7, 8, 9, 10, 11, 12, 6, 13, 18, 19, 20, 21, 22, 23, 24] (by decide +kernel) (by decide +kernel)
set_option maxRecDepth 20000 in
theorem gX3_remove_X3_has : GoodIn wsX3_remove (wsV RX3 37 RX3 yX3_has wsX3_has) := goodIn_app (goodIn_of _ (by decide +kernel)) ggX3_remove_X3_has
set_option maxRecDepth 20000 in
theorem ggX3_remove_X3_below : GoodIn wsX3_remove wsX3_below := goodIn_r _ [13, 8, 9, 18, 19, 20, 21, 22, 23, 24] (by decide +kernel) (by decide +kernel)
set_option maxRecDepth 20000 in
theorem gX3_remove_X3_below : GoodIn wsX3_remove (wsV RX3 33 RX3 yX3_below wsX3_below) := goodIn_app (goodIn_of _ (by decide +kernel)) ggX3_remove_X3_below
set_option maxRecDepth 20000 in
theorem ggX3_remove_X3_takeOut : GoodIn wsX3_remove wsX3_takeOut := goodIn_r _ [17, 8, 9, 2, 18, 19, 20, 21, 22, 23, 24] (by decide +kernel) (by decide +kernel)
set_option maxRecDepth 20000 in
theorem gX3_remove_X3_takeOut : GoodIn wsX3_remove (wsV RX3 49 RX3 yX3_takeOut wsX3_takeOut) := goodIn_app (goodIn_of _ (by decide +kernel)) ggX3_remove_X3_takeOut
theorem dX3_remove_0 : decode cX3_remove 0 = .ok (.aload_n 0, 1) := by decide +kernel
theorem dX3_remove_1 : decode cX3_remove 1 = .ok (.aload_n 0, 1) := by decide +kernel
theorem dX3_remove_2 : decode cX3_remove 2 = .ok (.iconst 0, 1) := by decide +kernel
theorem dX3_remove_3 : decode cX3_remove 3 = .ok (.iload_n 1, 1) := by decide +kernel
theorem dX3_remove_4 : decode cX3_remove 4 = .ok (.invokevirtual 37, 3) := by decide +kernel
theorem dX3_remove_7 : decode cX3_remove 7 = .ok (.ifCond .eq 7, 3) := by decide +kernel
theorem dX3_remove_10 : decode cX3_remove 10 = .ok (.iconst 0, 1) := by decide +kernel
theorem dX3_remove_11 : decode cX3_remove 11 = .ok (.goto 4, 3) := by decide +kernel
theorem dX3_remove_14 : decode cX3_remove 14 = .ok (.iconst 1, 1) := by decide +kernel
theorem dX3_remove_15 : decode cX3_remove 15 = .ok (.putfield 29, 3) := by decide +kernel
theorem dX3_remove_18 : decode cX3_remove 18 = .ok (.aload_n 0, 1) := by decide +kernel
theorem dX3_remove_19 : decode cX3_remove 19 = .ok (.getfield 29, 3) := by decide +kernel
theorem dX3_remove_22 : decode cX3_remove 22 = .ok (.ifCond .le 5, 3) := by decide +kernel
theorem dX3_remove_25 : decode cX3_remove 25 = .ok (.iconst 0, 1) := by decide +kernel
theorem dX3_remove_26 : decode cX3_remove 26 = .ok (.ireturn, 1) := by decide +kernel
theorem dX3_remove_27 : decode cX3_remove 27 = .ok (.aload_n 0, 1) := by decide +kernel
theorem dX3_remove_28 : decode cX3_remove 28 = .ok (.iconst 0, 1) := by decide +kernel
theorem dX3_remove_29 : decode cX3_remove 29 = .ok (.iload_n 1, 1) := by decide +kernel
theorem dX3_remove_30 : decode cX3_remove 30 = .ok (.invokevirtual 33, 3) := by decide +kernel
theorem dX3_remove_33 : decode cX3_remove 33 = .ok (.istore_n 2, 1) := by decide +kernel
theorem dX3_remove_34 : decode cX3_remove 34 = .ok (.aload_n 0, 1) := by decide +kernel
theorem dX3_remove_35 : decode cX3_remove 35 = .ok (.getfield 13, 3) := by decide +kernel
theorem dX3_remove_38 : decode cX3_remove 38 = .ok (.iload_n 2, 1) := by decide +kernel
theorem dX3_remove_39 : decode cX3_remove 39 = .ok (.iaload, 1) := by decide +kernel
theorem dX3_remove_40 : decode cX3_remove 40 = .ok (.istore_n 3, 1) := by decide +kernel
theorem dX3_remove_41 : decode cX3_remove 41 = .ok (.aload_n 0, 1) := by decide +kernel
theorem dX3_remove_42 : decode cX3_remove 42 = .ok (.iload_n 2, 1) := by decide +kernel
theorem dX3_remove_43 : decode cX3_remove 43 = .ok (.iconst 1, 1) := by decide +kernel
theorem dX3_remove_44 : decode cX3_remove 44 = .ok (.invokevirtual 49, 3) := by decide +kernel
theorem dX3_remove_47 : decode cX3_remove 47 = .ok (.iload_n 3, 1) := by decide +kernel
theorem dX3_remove_48 : decode cX3_remove 48 = .ok (.ireturn, 1) := by decide +kernel
theorem dX3_load_0 : decode cX3_load 0 = .ok (.iload_n 3, 1) := by decide +kernel
theorem dX3_load_1 : decode cX3_load 1 = .ok (.ifCond .lt 19, 3) := by decide +kernel
theorem dX3_load_4 : decode cX3_load 4 = .ok (.iload_n 3, 1) := by decide +kernel
theorem dX3_load_5 : decode cX3_load 5 = .ok (.sipush 600, 3) := by decide +kernel
theorem dX3_load_8 : decode cX3_load 8 = .ok (.if_icmp .gt 12, 3) := by decide +kernel
theorem dX3_load_11 : decode cX3_load 11 = .ok (.iload_n 2, 1) := by decide +kernel
theorem dX3_load_12 : decode cX3_load 12 = .ok (.iconst 1, 1) := by decide +kernel
theorem dX3_load_13 : decode cX3_load 13 = .ok (.if_icmp .lt 7, 3) := by decide +kernel
theorem dX3_load_16 : decode cX3_load 16 = .ok (.iconst 1, 1) := by decide +kernel
theorem dX3_load_17 : decode cX3_load 17 = .ok (.goto 4, 3) := by decide +kernel
theorem dX3_load_20 : decode cX3_load 20 = .ok (.iconst 0, 1) := by decide +kernel
theorem dX3_load_21 : decode cX3_load 21 = .ok (.istore 6, 2) := by decide +kernel
theorem dX3_load_23 : decode cX3_load 23 = .ok (.iload 6, 2) := by decide +kernel
theorem dX3_load_25 : decode cX3_load 25 = .ok (.ifCond .eq 28, 3) := by decide +kernel
theorem dX3_load_28 : decode cX3_load 28 = .ok (.iload_n 3, 1) := by decide +kernel
theorem dX3_load_29 : decode cX3_load 29 = .ok (.ifCond .eq 20, 3) := by decide +kernel
theorem dX3_load_32 : decode cX3_load 32 = .ok (.iload_n 1, 1) := by decide +kernel
theorem dX3_load_33 : decode cX3_load 33 = .ok (.i2l, 1) := by decide +kernel
theorem dX3_load_34 : decode cX3_load 34 = .ok (.iload_n 3, 1) := by decide +kernel
theorem dX3_load_35 : decode cX3_load 35 = .ok (.i2l, 1) := by decide +kernel
theorem dX3_load_36 : decode cX3_load 36 = .ok (.lconst 1, 1) := by decide +kernel
theorem dX3_load_37 : decode cX3_load 37 = .ok (.lsub, 1) := by decide +kernel
theorem dX3_load_38 : decode cX3_load 38 = .ok (.iload_n 2, 1) := by decide +kernel
theorem dX3_load_39 : decode cX3_load 39 = .ok (.i2l, 1) := by decide +kernel
theorem dX3_load_40 : decode cX3_load 40 = .ok (.lmul, 1) := by decide +kernel
theorem dX3_load_41 : decode cX3_load 41 = .ok (.ladd, 1) := by decide +kernel
theorem dX3_load_42 : decode cX3_load 42 = .ok (.ldc2_w 52, 3) := by decide +kernel
theorem dX3_load_45 : decode cX3_load 45 = .ok (.lcmp, 1) := by decide +kernel
theorem dX3_load_46 : decode cX3_load 46 = .ok (.ifCond .gt 7, 3) := by decide +kernel
theorem dX3_load_49 : decode cX3_load 49 = .ok (.iconst 1, 1) := by decide +kernel
theorem dX3_load_50 : decode cX3_load 50 = .ok (.goto 4, 3) := by decide +kernel
theorem dX3_load_53 : decode cX3_load 53 = .ok (.iconst 0, 1) := by decide +kernel
theorem dX3_load_54 : decode cX3_load 54 = .ok (.istore 6, 2) := by decide +kernel
theorem dX3_load_56 : decode cX3_load 56 = .ok (.aload_n 0, 1) := by decide +kernel
theorem dX3_load_57 : decode cX3_load 57 = .ok (.iload 6, 2) := by decide +kernel
theorem dX3_load_59 : decode cX3_load 59 = .ok (.ifCond .eq 7, 3) := by decide +kernel
theorem dX3_load_62 : decode cX3_load 62 = .ok (.iconst 0, 1) := by decide +kernel
theorem dX3_load_63 : decode cX3_load 63 = .ok (.goto 4, 3) := by decide +kernel
theorem dX3_load_66 : decode cX3_load 66 = .ok (.iconst 1, 1) := by decide +kernel
theorem dX3_load_67 : decode cX3_load 67 = .ok (.putfield 29, 3) := by decide +kernel
theorem dX3_load_70 : decode cX3_load 70 = .ok (.aload_n 0, 1) := by decide +kernel
theorem dX3_load_71 : decode cX3_load 71 = .ok (.getfield 29, 3) := by decide +kernel
theorem dX3_load_74 : decode cX3_load 74 = .ok (.ifCond .le 5, 3) := by decide +kernel
theorem dX3_load_77 : decode cX3_load 77 = .ok (.iconst 0, 1) := by decide +kernel
theorem dX3_load_78 : decode cX3_load 78 = .ok (.ireturn, 1) := by decide +kernel
theorem dX3_load_79 : decode cX3_load 79 = .ok (.aload_n 0, 1) := by decide +kernel
theorem dX3_load_80 : decode cX3_load 80 = .ok (.getfield 16, 3) := by decide +kernel
theorem dX3_load_83 : decode cX3_load 83 = .ok (.iconst 0, 1) := by decide +kernel
theorem dX3_load_84 : decode cX3_load 84 = .ok (.iaload, 1) := by decide +kernel
theorem dX3_load_85 : decode cX3_load 85 = .ok (.istore 7, 2) := by decide +kernel
theorem dX3_load_87 : decode cX3_load 87 = .ok (.iconst 0, 1) := by decide +kernel
theorem dX3_load_88 : decode cX3_load 88 = .ok (.istore 8, 2) := by decide +kernel
theorem dX3_load_90 : decode cX3_load 90 = .ok (.iload 8, 2) := by decide +kernel
theorem dX3_load_92 : decode cX3_load 92 = .ok (.iload_n 3, 1) := by decide +kernel
theorem dX3_load_93 : decode cX3_load 93 = .ok (.if_icmp .ge 42, 3) := by decide +kernel
theorem dX3_load_96 : decode cX3_load 96 = .ok (.aload_n 0, 1) := by decide +kernel
theorem dX3_load_97 : decode cX3_load 97 = .ok (.getfield 7, 3) := by decide +kernel
theorem dX3_load_100 : decode cX3_load 100 = .ok (.iload 8, 2) := by decide +kernel
theorem dX3_load_102 : decode cX3_load 102 = .ok (.iload_n 1, 1) := by decide +kernel
theorem dX3_load_103 : decode cX3_load 103 = .ok (.iload 8, 2) := by decide +kernel
theorem dX3_load_105 : decode cX3_load 105 = .ok (.iload_n 2, 1) := by decide +kernel
theorem dX3_load_106 : decode cX3_load 106 = .ok (.imul, 1) := by decide +kernel
theorem dX3_load_107 : decode cX3_load 107 = .ok (.iadd, 1) := by decide +kernel
theorem dX3_load_108 : decode cX3_load 108 = .ok (.iastore, 1) := by decide +kernel
theorem dX3_load_109 : decode cX3_load 109 = .ok (.aload_n 0, 1) := by decide +kernel
theorem dX3_load_110 : decode cX3_load 110 = .ok (.getfield 13, 3) := by decide +kernel
theorem dX3_load_113 : decode cX3_load 113 = .ok (.iload 8, 2) := by decide +kernel
theorem dX3_load_115 : decode cX3_load 115 = .ok (.iload 4, 2) := by decide +kernel
theorem dX3_load_117 : decode cX3_load 117 = .ok (.aload_n 0, 1) := by decide +kernel
theorem dX3_load_118 : decode cX3_load 118 = .ok (.getfield 7, 3) := by decide +kernel
theorem dX3_load_121 : decode cX3_load 121 = .ok (.iload 8, 2) := by decide +kernel
theorem dX3_load_123 : decode cX3_load 123 = .ok (.iaload, 1) := by decide +kernel
theorem dX3_load_124 : decode cX3_load 124 = .ok (.imul, 1) := by decide +kernel
theorem dX3_load_125 : decode cX3_load 125 = .ok (.iload 5, 2) := by decide +kernel
theorem dX3_load_127 : decode cX3_load 127 = .ok (.iadd, 1) := by decide +kernel
theorem dX3_load_128 : decode cX3_load 128 = .ok (.iastore, 1) := by decide +kernel
theorem dX3_load_129 : decode cX3_load 129 = .ok (.iinc 8 1, 3) := by decide +kernel
theorem dX3_load_132 : decode cX3_load 132 = .ok (.goto (-42), 3) := by decide +kernel
theorem dX3_load_135 : decode cX3_load 135 = .ok (.aload_n 0, 1) := by decide +kernel
theorem dX3_load_136 : decode cX3_load 136 = .ok (.getfield 16, 3) := by decide +kernel
theorem dX3_load_139 : decode cX3_load 139 = .ok (.iconst 0, 1) := by decide +kernel
theorem dX3_load_140 : decode cX3_load 140 = .ok (.iload_n 3, 1) := by decide +kernel
theorem dX3_load_141 : decode cX3_load 141 = .ok (.iastore, 1) := by decide +kernel
theorem dX3_load_142 : decode cX3_load 142 = .ok (.iload 7, 2) := by decide +kernel
theorem dX3_load_144 : decode cX3_load 144 = .ok (.ireturn, 1) := by decide +kernel
set_option maxRecDepth 20000 in
theorem ggX3_many_X3_upTo : GoodIn wsX3_many wsX3_upTo := goodIn_r _ [5, 6, 7, 8, 4, 9, 10, 11, 12, 13, 14, 15, 16, 17, 18, 19, 20, 21, 22] (by decide +kernel) (by decide +kernel)
set_option maxRecDepth 20000 in
theorem gX3_many_X3_upTo : GoodIn wsX3_many (wsV RX3 54 RX3 yX3_upTo wsX3_upTo) := goodIn_app (goodIn_of _ (by decide +kernel)) ggX3_many_X3_upTo
set_option maxRecDepth 20000 in
theorem ggX3_many_X3_below : GoodIn wsX3_many wsX3_below := goodIn_r _ [9, 10, 11, 16, 17, 18, 19, 20, 21, 22] (by decide +kernel) (by decide +kernel)
set_option maxRecDepth 20000 in
theorem gX3_many_X3_below : GoodIn wsX3_many (wsV RX3 33 RX3 yX3_below wsX3_below) := goodIn_app (goodIn_of _ (by decide +kernel)) ggX3_many_X3_below
theorem dX3_many_0 : decode cX3_many 0 = .ok (.iload_n 2, 1) := by decide +kernel
theorem dX3_many_1 : decode cX3_many 1 = .ok (.iload_n 3, 1) := by decide +kernel
theorem dX3_many_2 : decode cX3_many 2 = .ok (.if_icmp .le 7, 3) := by decide +kernel
theorem dX3_many_5 : decode cX3_many 5 = .ok (.iconst 0, 1) := by decide +kernel
theorem dX3_many_6 : decode cX3_many 6 = .ok (.goto 16, 3) := by decide +kernel
theorem dX3_many_9 : decode cX3_many 9 = .ok (.aload_n 0, 1) := by decide +kernel
theorem dX3_many_10 : decode cX3_many 10 = .ok (.iload_n 1, 1) := by decide +kernel
theorem dX3_many_11 : decode cX3_many 11 = .ok (.iload_n 3, 1) := by decide +kernel
theorem dX3_many_12 : decode cX3_many 12 = .ok (.invokevirtual 54, 3) := by decide +kernel
theorem dX3_many_15 : decode cX3_many 15 = .ok (.aload_n 0, 1) := by decide +kernel
theorem dX3_many_16 : decode cX3_many 16 = .ok (.iload_n 1, 1) := by decide +kernel
theorem dX3_many_17 : decode cX3_many 17 = .ok (.iload_n 2, 1) := by decide +kernel
theorem dX3_many_18 : decode cX3_many 18 = .ok (.invokevirtual 33, 3) := by decide +kernel
theorem dX3_many_21 : decode cX3_many 21 = .ok (.isub, 1) := by decide +kernel
theorem dX3_many_22 : decode cX3_many 22 = .ok (.ireturn, 1) := by decide +kernel
set_option maxRecDepth 20000 in
theorem ggX3_cut_X3_many : GoodIn wsX3_cut wsX3_many := goodIn_r _ [6, 7, 8, 9, 5, 10, 11, 12, 13, 14, 15, 16, 17, 18, 19, 20, 26, 27, 28, 29, 30, 31, 32] (by decide +kernel) (by decide +kernel)
set_option maxRecDepth 20000 in
theorem gX3_cut_X3_many : GoodIn wsX3_cut (wsV RX3 57 RX3 yX3_many wsX3_many) := goodIn_app (goodIn_of _ (by decide +kernel)) ggX3_cut_X3_many
set_option maxRecDepth 20000 in
theorem ggX3_cut_X3_below : GoodIn wsX3_cut wsX3_below := goodIn_r _ [14, 15, 16, 26, 27, 28, 29, 30, 31, 32] (by decide +kernel) (by decide +kernel)
set_option maxRecDepth 20000 in
theorem gX3_cut_X3_below : GoodIn wsX3_cut (wsV RX3 33 RX3 yX3_below wsX3_below) := goodIn_app (goodIn_of _ (by decide +kernel)) ggX3_cut_X3_below
set_option maxRecDepth 20000 in
theorem ggX3_cut_X3_takeOut : GoodIn wsX3_cut wsX3_takeOut := goodIn_r _ [24, 15, 16, 25, 26, 27, 28, 29, 30, 31, 32] (by decide +kernel) (by decide +kernel)
set_option maxRecDepth 20000 in
theorem gX3_cut_X3_takeOut : GoodIn wsX3_cut (wsV RX3 49 RX3 yX3_takeOut wsX3_takeOut) := goodIn_app (goodIn_of _ (by decide +kernel)) ggX3_cut_X3_takeOut
theorem dX3_cut_0 : decode cX3_cut 0 = .ok (.aload_n 0, 1) := by decide +kernel
theorem dX3_cut_1 : decode cX3_cut 1 = .ok (.iconst 0, 1) := by decide +kernel
theorem dX3_cut_2 : decode cX3_cut 2 = .ok (.putfield 29, 3) := by decide +kernel
theorem dX3_cut_5 : decode cX3_cut 5 = .ok (.aload_n 0, 1) := by decide +kernel
theorem dX3_cut_6 : decode cX3_cut 6 = .ok (.iconst 0, 1) := by decide +kernel
theorem dX3_cut_7 : decode cX3_cut 7 = .ok (.iload_n 1, 1) := by decide +kernel
theorem dX3_cut_8 : decode cX3_cut 8 = .ok (.iload_n 2, 1) := by decide +kernel
theorem dX3_cut_9 : decode cX3_cut 9 = .ok (.invokevirtual 57, 3) := by decide +kernel
theorem dX3_cut_12 : decode cX3_cut 12 = .ok (.istore_n 3, 1) := by decide +kernel
theorem dX3_cut_13 : decode cX3_cut 13 = .ok (.aload_n 0, 1) := by decide +kernel
theorem dX3_cut_14 : decode cX3_cut 14 = .ok (.aload_n 0, 1) := by decide +kernel
theorem dX3_cut_15 : decode cX3_cut 15 = .ok (.iconst 0, 1) := by decide +kernel
theorem dX3_cut_16 : decode cX3_cut 16 = .ok (.iload_n 1, 1) := by decide +kernel
theorem dX3_cut_17 : decode cX3_cut 17 = .ok (.invokevirtual 33, 3) := by decide +kernel
theorem dX3_cut_20 : decode cX3_cut 20 = .ok (.iload_n 3, 1) := by decide +kernel
theorem dX3_cut_21 : decode cX3_cut 21 = .ok (.invokevirtual 49, 3) := by decide +kernel
theorem dX3_cut_24 : decode cX3_cut 24 = .ok (.iload_n 3, 1) := by decide +kernel
theorem dX3_cut_25 : decode cX3_cut 25 = .ok (.ireturn, 1) := by decide +kernel
set_option maxRecDepth 20000 in
theorem ggX3_merge_X3_isVersion : GoodIn wsX3_merge wsX3_isVersion := goodIn_r _ [9, 10, 23, 24, 25, 26, 27, 28, 29] (by decide +kernel) (by decide +kernel)
set_option maxRecDepth 20000 in
theorem gX3_merge_X3_isVersion : GoodIn wsX3_merge (wsV RX3 41 RX3 yX3_isVersion wsX3_isVersion) := goodIn_app (goodIn_of _ (by decide +kernel)) ggX3_merge_X3_isVersion
set_option maxRecDepth 20000 in
theorem ggX3_merge_X3_has : GoodIn wsX3_merge wsX3_has := goodIn_r _ [14, 2, 3, 15, 16, 17, 8, 18, 23, 24, 25, 26, 27, 28, 29] (by decide +kernel) (by decide +kernel)
set_option maxRecDepth 20000 in
theorem gX3_merge_X3_has : GoodIn wsX3_merge (wsV RX3 37 RX3 yX3_has wsX3_has) := goodIn_app (goodIn_of _ (by decide +kernel)) ggX3_merge_X3_has
set_option maxRecDepth 20000 in
theorem ggX3_merge_X3_insert : GoodIn wsX3_merge wsX3_insert := goodIn_r _ [22, 2, 3, 4, 15, 16, 17, 8, 18, 23, 24, 25, 26, 27, 28, 29] (by decide +kernel) (by decide +kernel)
set_option maxRecDepth 20000 in
theorem gX3_merge_X3_insert : GoodIn wsX3_merge (wsV RX3 45 RX3 yX3_insert wsX3_insert) := goodIn_app (goodIn_of _ (by decide +kernel)) ggX3_merge_X3_insert
theorem dX3_merge_0 : decode cX3_merge 0 = .ok (.aload_n 0, 1) := by decide +kernel
theorem dX3_merge_1 : decode cX3_merge 1 = .ok (.aload_n 0, 1) := by decide +kernel
theorem dX3_merge_2 : decode cX3_merge 2 = .ok (.iload_n 1, 1) := by decide +kernel
theorem dX3_merge_3 : decode cX3_merge 3 = .ok (.invokevirtual 41, 3) := by decide +kernel
theorem dX3_merge_6 : decode cX3_merge 6 = .ok (.ifCond .eq 7, 3) := by decide +kernel
theorem dX3_merge_9 : decode cX3_merge 9 = .ok (.iconst 0, 1) := by decide +kernel
theorem dX3_merge_10 : decode cX3_merge 10 = .ok (.goto 4, 3) := by decide +kernel
theorem dX3_merge_13 : decode cX3_merge 13 = .ok (.iconst 1, 1) := by decide +kernel
theorem dX3_merge_14 : decode cX3_merge 14 = .ok (.putfield 29, 3) := by decide +kernel
theorem dX3_merge_17 : decode cX3_merge 17 = .ok (.iconst 0, 1) := by decide +kernel
theorem dX3_merge_18 : decode cX3_merge 18 = .ok (.istore_n 2, 1) := by decide +kernel
theorem dX3_merge_19 : decode cX3_merge 19 = .ok (.iconst 0, 1) := by decide +kernel
theorem dX3_merge_20 : decode cX3_merge 20 = .ok (.istore_n 3, 1) := by decide +kernel
theorem dX3_merge_21 : decode cX3_merge 21 = .ok (.aload_n 0, 1) := by decide +kernel
theorem dX3_merge_22 : decode cX3_merge 22 = .ok (.getfield 29, 3) := by decide +kernel
theorem dX3_merge_25 : decode cX3_merge 25 = .ok (.ifCond .ne 47, 3) := by decide +kernel
theorem dX3_merge_28 : decode cX3_merge 28 = .ok (.iload_n 3, 1) := by decide +kernel
theorem dX3_merge_29 : decode cX3_merge 29 = .ok (.aload_n 0, 1) := by decide +kernel
theorem dX3_merge_30 : decode cX3_merge 30 = .ok (.getfield 16, 3) := by decide +kernel
theorem dX3_merge_33 : decode cX3_merge 33 = .ok (.iload_n 1, 1) := by decide +kernel
theorem dX3_merge_34 : decode cX3_merge 34 = .ok (.iaload, 1) := by decide +kernel
theorem dX3_merge_35 : decode cX3_merge 35 = .ok (.if_icmp .ge 37, 3) := by decide +kernel
theorem dX3_merge_38 : decode cX3_merge 38 = .ok (.iload_n 2, 1) := by decide +kernel
theorem dX3_merge_39 : decode cX3_merge 39 = .ok (.aload_n 0, 1) := by decide +kernel
theorem dX3_merge_40 : decode cX3_merge 40 = .ok (.iconst 0, 1) := by decide +kernel
theorem dX3_merge_41 : decode cX3_merge 41 = .ok (.aload_n 0, 1) := by decide +kernel
theorem dX3_merge_42 : decode cX3_merge 42 = .ok (.getfield 7, 3) := by decide +kernel
theorem dX3_merge_45 : decode cX3_merge 45 = .ok (.sipush 600, 3) := by decide +kernel
theorem dX3_merge_48 : decode cX3_merge 48 = .ok (.iload_n 1, 1) := by decide +kernel
theorem dX3_merge_49 : decode cX3_merge 49 = .ok (.imul, 1) := by decide +kernel
theorem dX3_merge_50 : decode cX3_merge 50 = .ok (.iload_n 3, 1) := by decide +kernel
theorem dX3_merge_51 : decode cX3_merge 51 = .ok (.iadd, 1) := by decide +kernel
theorem dX3_merge_52 : decode cX3_merge 52 = .ok (.iaload, 1) := by decide +kernel
theorem dX3_merge_53 : decode cX3_merge 53 = .ok (.invokevirtual 37, 3) := by decide +kernel
theorem dX3_merge_56 : decode cX3_merge 56 = .ok (.ifCond .eq 7, 3) := by decide +kernel
theorem dX3_merge_59 : decode cX3_merge 59 = .ok (.iconst 0, 1) := by decide +kernel
theorem dX3_merge_60 : decode cX3_merge 60 = .ok (.goto 4, 3) := by decide +kernel
theorem dX3_merge_63 : decode cX3_merge 63 = .ok (.iconst 1, 1) := by decide +kernel
theorem dX3_merge_64 : decode cX3_merge 64 = .ok (.iadd, 1) := by decide +kernel
theorem dX3_merge_65 : decode cX3_merge 65 = .ok (.istore_n 2, 1) := by decide +kernel
theorem dX3_merge_66 : decode cX3_merge 66 = .ok (.iinc 3 1, 3) := by decide +kernel
theorem dX3_merge_69 : decode cX3_merge 69 = .ok (.goto (-48), 3) := by decide +kernel
theorem dX3_merge_72 : decode cX3_merge 72 = .ok (.aload_n 0, 1) := by decide +kernel
theorem dX3_merge_73 : decode cX3_merge 73 = .ok (.aload_n 0, 1) := by decide +kernel
theorem dX3_merge_74 : decode cX3_merge 74 = .ok (.getfield 29, 3) := by decide +kernel
theorem dX3_merge_77 : decode cX3_merge 77 = .ok (.ifCond .ne 21, 3) := by decide +kernel
theorem dX3_merge_80 : decode cX3_merge 80 = .ok (.aload_n 0, 1) := by decide +kernel
theorem dX3_merge_81 : decode cX3_merge 81 = .ok (.getfield 16, 3) := by decide +kernel
theorem dX3_merge_84 : decode cX3_merge 84 = .ok (.iconst 0, 1) := by decide +kernel
theorem dX3_merge_85 : decode cX3_merge 85 = .ok (.iaload, 1) := by decide +kernel
theorem dX3_merge_86 : decode cX3_merge 86 = .ok (.iload_n 2, 1) := by decide +kernel
theorem dX3_merge_87 : decode cX3_merge 87 = .ok (.iadd, 1) := by decide +kernel
theorem dX3_merge_88 : decode cX3_merge 88 = .ok (.sipush 600, 3) := by decide +kernel
theorem dX3_merge_91 : decode cX3_merge 91 = .ok (.if_icmp .le 7, 3) := by decide +kernel
theorem dX3_merge_94 : decode cX3_merge 94 = .ok (.iconst 2, 1) := by decide +kernel
theorem dX3_merge_95 : decode cX3_merge 95 = .ok (.goto 7, 3) := by decide +kernel
theorem dX3_merge_98 : decode cX3_merge 98 = .ok (.aload_n 0, 1) := by decide +kernel
theorem dX3_merge_99 : decode cX3_merge 99 = .ok (.getfield 29, 3) := by decide +kernel
theorem dX3_merge_102 : decode cX3_merge 102 = .ok (.putfield 29, 3) := by decide +kernel
theorem dX3_merge_105 : decode cX3_merge 105 = .ok (.aload_n 0, 1) := by decide +kernel
theorem dX3_merge_106 : decode cX3_merge 106 = .ok (.getfield 29, 3) := by decide +kernel
theorem dX3_merge_109 : decode cX3_merge 109 = .ok (.ifCond .le 5, 3) := by decide +kernel
theorem dX3_merge_112 : decode cX3_merge 112 = .ok (.iconst 0, 1) := by decide +kernel
theorem dX3_merge_113 : decode cX3_merge 113 = .ok (.ireturn, 1) := by decide +kernel
theorem dX3_merge_114 : decode cX3_merge 114 = .ok (.iconst 0, 1) := by decide +kernel
theorem dX3_merge_115 : decode cX3_merge 115 = .ok (.istore_n 3, 1) := by decide +kernel
theorem dX3_merge_116 : decode cX3_merge 116 = .ok (.iload_n 3, 1) := by decide +kernel
theorem dX3_merge_117 : decode cX3_merge 117 = .ok (.aload_n 0, 1) := by decide +kernel
theorem dX3_merge_118 : decode cX3_merge 118 = .ok (.getfield 16, 3) := by decide +kernel
theorem dX3_merge_121 : decode cX3_merge 121 = .ok (.iload_n 1, 1) := by decide +kernel
theorem dX3_merge_122 : decode cX3_merge 122 = .ok (.iaload, 1) := by decide +kernel
theorem dX3_merge_123 : decode cX3_merge 123 = .ok (.if_icmp .ge 55, 3) := by decide +kernel
theorem dX3_merge_126 : decode cX3_merge 126 = .ok (.iload_n 2, 1) := by decide +kernel
theorem dX3_merge_127 : decode cX3_merge 127 = .ok (.ifCond .le 51, 3) := by decide +kernel
theorem dX3_merge_130 : decode cX3_merge 130 = .ok (.sipush 600, 3) := by decide +kernel
theorem dX3_merge_133 : decode cX3_merge 133 = .ok (.iload_n 1, 1) := by decide +kernel
theorem dX3_merge_134 : decode cX3_merge 134 = .ok (.imul, 1) := by decide +kernel
theorem dX3_merge_135 : decode cX3_merge 135 = .ok (.iload_n 3, 1) := by decide +kernel
theorem dX3_merge_136 : decode cX3_merge 136 = .ok (.iadd, 1) := by decide +kernel
theorem dX3_merge_137 : decode cX3_merge 137 = .ok (.istore 4, 2) := by decide +kernel
theorem dX3_merge_139 : decode cX3_merge 139 = .ok (.aload_n 0, 1) := by decide +kernel
theorem dX3_merge_140 : decode cX3_merge 140 = .ok (.iconst 0, 1) := by decide +kernel
theorem dX3_merge_141 : decode cX3_merge 141 = .ok (.aload_n 0, 1) := by decide +kernel
theorem dX3_merge_142 : decode cX3_merge 142 = .ok (.getfield 7, 3) := by decide +kernel
theorem dX3_merge_145 : decode cX3_merge 145 = .ok (.iload 4, 2) := by decide +kernel
theorem dX3_merge_147 : decode cX3_merge 147 = .ok (.iaload, 1) := by decide +kernel
theorem dX3_merge_148 : decode cX3_merge 148 = .ok (.invokevirtual 37, 3) := by decide +kernel
theorem dX3_merge_151 : decode cX3_merge 151 = .ok (.ifCond .ne 21, 3) := by decide +kernel
theorem dX3_merge_154 : decode cX3_merge 154 = .ok (.aload_n 0, 1) := by decide +kernel
theorem dX3_merge_155 : decode cX3_merge 155 = .ok (.aload_n 0, 1) := by decide +kernel
theorem dX3_merge_156 : decode cX3_merge 156 = .ok (.getfield 7, 3) := by decide +kernel
theorem dX3_merge_159 : decode cX3_merge 159 = .ok (.iload 4, 2) := by decide +kernel
theorem dX3_merge_161 : decode cX3_merge 161 = .ok (.iaload, 1) := by decide +kernel
theorem dX3_merge_162 : decode cX3_merge 162 = .ok (.aload_n 0, 1) := by decide +kernel
theorem dX3_merge_163 : decode cX3_merge 163 = .ok (.getfield 13, 3) := by decide +kernel
theorem dX3_merge_166 : decode cX3_merge 166 = .ok (.iload 4, 2) := by decide +kernel
theorem dX3_merge_168 : decode cX3_merge 168 = .ok (.iaload, 1) := by decide +kernel
theorem dX3_merge_169 : decode cX3_merge 169 = .ok (.invokevirtual 45, 3) := by decide +kernel
theorem dX3_merge_172 : decode cX3_merge 172 = .ok (.iinc 3 1, 3) := by decide +kernel
theorem dX3_merge_175 : decode cX3_merge 175 = .ok (.goto (-59), 3) := by decide +kernel
theorem dX3_merge_178 : decode cX3_merge 178 = .ok (.iload_n 2, 1) := by decide +kernel
theorem dX3_merge_179 : decode cX3_merge 179 = .ok (.ireturn, 1) := by decide +kernel
set_option maxRecDepth 20000 in
theorem ggX3_snapshot_X3_spare : GoodIn wsX3_snapshot wsX3_spare := goodIn_r _ [7, 2, 15, 16, 17, 18, 19, 20, 21] (by decide +kernel) (by decide +kernel)
set_option maxRecDepth 20000 in
theorem gX3_snapshot_X3_spare : GoodIn wsX3_snapshot (wsV RX3 61 RX3 yX3_spare wsX3_spare) := goodIn_app (goodIn_of _ (by decide +kernel)) ggX3_snapshot_X3_spare
set_option maxRecDepth 20000 in
theorem ggX3_snapshot_X3_copy : GoodIn wsX3_snapshot wsX3_copy := goodIn_r _ [11, 12, 13, 14, 15, 16, 17, 18, 19, 20, 21] (by decide +kernel) (by decide +kernel)
set_option maxRecDepth 20000 in
theorem gX3_snapshot_X3_copy : GoodIn wsX3_snapshot (wsV RX3 64 RX3 yX3_copy wsX3_copy) := goodIn_app (goodIn_of _ (by decide +kernel)) ggX3_snapshot_X3_copy
theorem dX3_snapshot_0 : decode cX3_snapshot 0 = .ok (.aload_n 0, 1) := by decide +kernel
theorem dX3_snapshot_1 : decode cX3_snapshot 1 = .ok (.iconst 1, 1) := by decide +kernel
theorem dX3_snapshot_2 : decode cX3_snapshot 2 = .ok (.bipush 12, 2) := by decide +kernel
theorem dX3_snapshot_4 : decode cX3_snapshot 4 = .ok (.invokevirtual 61, 3) := by decide +kernel
theorem dX3_snapshot_7 : decode cX3_snapshot 7 = .ok (.istore_n 1, 1) := by decide +kernel
theorem dX3_snapshot_8 : decode cX3_snapshot 8 = .ok (.aload_n 0, 1) := by decide +kernel
theorem dX3_snapshot_9 : decode cX3_snapshot 9 = .ok (.iload_n 1, 1) := by decide +kernel
theorem dX3_snapshot_10 : decode cX3_snapshot 10 = .ok (.ifCond .ge 7, 3) := by decide +kernel
theorem dX3_snapshot_13 : decode cX3_snapshot 13 = .ok (.iconst 1, 1) := by decide +kernel
theorem dX3_snapshot_14 : decode cX3_snapshot 14 = .ok (.goto 4, 3) := by decide +kernel
theorem dX3_snapshot_17 : decode cX3_snapshot 17 = .ok (.iconst 0, 1) := by decide +kernel
theorem dX3_snapshot_18 : decode cX3_snapshot 18 = .ok (.putfield 29, 3) := by decide +kernel
theorem dX3_snapshot_21 : decode cX3_snapshot 21 = .ok (.aload_n 0, 1) := by decide +kernel
theorem dX3_snapshot_22 : decode cX3_snapshot 22 = .ok (.getfield 29, 3) := by decide +kernel
theorem dX3_snapshot_25 : decode cX3_snapshot 25 = .ok (.ifCond .le 5, 3) := by decide +kernel
theorem dX3_snapshot_28 : decode cX3_snapshot 28 = .ok (.iconst 0, 1) := by decide +kernel
theorem dX3_snapshot_29 : decode cX3_snapshot 29 = .ok (.ireturn, 1) := by decide +kernel
theorem dX3_snapshot_30 : decode cX3_snapshot 30 = .ok (.aload_n 0, 1) := by decide +kernel
theorem dX3_snapshot_31 : decode cX3_snapshot 31 = .ok (.getfield 19, 3) := by decide +kernel
theorem dX3_snapshot_34 : decode cX3_snapshot 34 = .ok (.iload_n 1, 1) := by decide +kernel
theorem dX3_snapshot_35 : decode cX3_snapshot 35 = .ok (.iconst 1, 1) := by decide +kernel
theorem dX3_snapshot_36 : decode cX3_snapshot 36 = .ok (.bastore, 1) := by decide +kernel
theorem dX3_snapshot_37 : decode cX3_snapshot 37 = .ok (.aload_n 0, 1) := by decide +kernel
theorem dX3_snapshot_38 : decode cX3_snapshot 38 = .ok (.iconst 0, 1) := by decide +kernel
theorem dX3_snapshot_39 : decode cX3_snapshot 39 = .ok (.iload_n 1, 1) := by decide +kernel
theorem dX3_snapshot_40 : decode cX3_snapshot 40 = .ok (.invokevirtual 64, 3) := by decide +kernel
theorem dX3_snapshot_43 : decode cX3_snapshot 43 = .ok (.iload_n 1, 1) := by decide +kernel
theorem dX3_snapshot_44 : decode cX3_snapshot 44 = .ok (.ireturn, 1) := by decide +kernel
set_option maxRecDepth 20000 in
theorem ggX3_release_X3_isSnapshot : GoodIn wsX3_release wsX3_isSnapshot := goodIn_r _ [7, 8, 9, 10, 6, 11, 2, 12, 13, 14, 15, 16, 17, 18] (by decide +kernel) (by decide +kernel)
set_option maxRecDepth 20000 in
theorem gX3_release_X3_isSnapshot : GoodIn wsX3_release (wsV RX3 67 RX3 yX3_isSnapshot wsX3_isSnapshot) := goodIn_app (goodIn_of _ (by decide +kernel)) ggX3_release_X3_isSnapshot
theorem dX3_release_0 : decode cX3_release 0 = .ok (.aload_n 0, 1) := by decide +kernel
theorem dX3_release_1 : decode cX3_release 1 = .ok (.aload_n 0, 1) := by decide +kernel
theorem dX3_release_2 : decode cX3_release 2 = .ok (.iload_n 1, 1) := by decide +kernel
theorem dX3_release_3 : decode cX3_release 3 = .ok (.invokevirtual 67, 3) := by decide +kernel
theorem dX3_release_6 : decode cX3_release 6 = .ok (.ifCond .eq 7, 3) := by decide +kernel
theorem dX3_release_9 : decode cX3_release 9 = .ok (.iconst 0, 1) := by decide +kernel
theorem dX3_release_10 : decode cX3_release 10 = .ok (.goto 4, 3) := by decide +kernel
theorem dX3_release_13 : decode cX3_release 13 = .ok (.iconst 1, 1) := by decide +kernel
theorem dX3_release_14 : decode cX3_release 14 = .ok (.putfield 29, 3) := by decide +kernel
theorem dX3_release_17 : decode cX3_release 17 = .ok (.aload_n 0, 1) := by decide +kernel
theorem dX3_release_18 : decode cX3_release 18 = .ok (.getfield 29, 3) := by decide +kernel
theorem dX3_release_21 : decode cX3_release 21 = .ok (.ifCond .le 5, 3) := by decide +kernel
theorem dX3_release_24 : decode cX3_release 24 = .ok (.iconst 0, 1) := by decide +kernel
theorem dX3_release_25 : decode cX3_release 25 = .ok (.ireturn, 1) := by decide +kernel
theorem dX3_release_26 : decode cX3_release 26 = .ok (.aload_n 0, 1) := by decide +kernel
theorem dX3_release_27 : decode cX3_release 27 = .ok (.getfield 19, 3) := by decide +kernel
theorem dX3_release_30 : decode cX3_release 30 = .ok (.iload_n 1, 1) := by decide +kernel
theorem dX3_release_31 : decode cX3_release 31 = .ok (.iconst 0, 1) := by decide +kernel
theorem dX3_release_32 : decode cX3_release 32 = .ok (.bastore, 1) := by decide +kernel
theorem dX3_release_33 : decode cX3_release 33 = .ok (.iconst 0, 1) := by decide +kernel
theorem dX3_release_34 : decode cX3_release 34 = .ok (.istore_n 2, 1) := by decide +kernel
theorem dX3_release_35 : decode cX3_release 35 = .ok (.iconst 1, 1) := by decide +kernel
theorem dX3_release_36 : decode cX3_release 36 = .ok (.istore_n 3, 1) := by decide +kernel
theorem dX3_release_37 : decode cX3_release 37 = .ok (.iload_n 3, 1) := by decide +kernel
theorem dX3_release_38 : decode cX3_release 38 = .ok (.bipush 12, 2) := by decide +kernel
theorem dX3_release_40 : decode cX3_release 40 = .ok (.if_icmp .gt 26, 3) := by decide +kernel
theorem dX3_release_43 : decode cX3_release 43 = .ok (.iload_n 2, 1) := by decide +kernel
theorem dX3_release_44 : decode cX3_release 44 = .ok (.aload_n 0, 1) := by decide +kernel
theorem dX3_release_45 : decode cX3_release 45 = .ok (.getfield 19, 3) := by decide +kernel
theorem dX3_release_48 : decode cX3_release 48 = .ok (.iload_n 3, 1) := by decide +kernel
theorem dX3_release_49 : decode cX3_release 49 = .ok (.baload, 1) := by decide +kernel
theorem dX3_release_50 : decode cX3_release 50 = .ok (.ifCond .eq 7, 3) := by decide +kernel
theorem dX3_release_53 : decode cX3_release 53 = .ok (.iconst 1, 1) := by decide +kernel
theorem dX3_release_54 : decode cX3_release 54 = .ok (.goto 4, 3) := by decide +kernel
theorem dX3_release_57 : decode cX3_release 57 = .ok (.iconst 0, 1) := by decide +kernel
theorem dX3_release_58 : decode cX3_release 58 = .ok (.iadd, 1) := by decide +kernel
theorem dX3_release_59 : decode cX3_release 59 = .ok (.istore_n 2, 1) := by decide +kernel
theorem dX3_release_60 : decode cX3_release 60 = .ok (.iinc 3 1, 3) := by decide +kernel
theorem dX3_release_63 : decode cX3_release 63 = .ok (.goto (-26), 3) := by decide +kernel
theorem dX3_release_66 : decode cX3_release 66 = .ok (.iload_n 2, 1) := by decide +kernel
theorem dX3_release_67 : decode cX3_release 67 = .ok (.ireturn, 1) := by decide +kernel
set_option maxRecDepth 20000 in
theorem ggX3_restore_X3_isSnapshot : GoodIn wsX3_restore wsX3_isSnapshot := goodIn_r _ [7, 8, 9, 10, 6, 11, 12, 19, 20, 21, 22, 23, 24, 25] (by decide +kernel) (by decide +kernel)
set_option maxRecDepth 20000 in
theorem gX3_restore_X3_isSnapshot : GoodIn wsX3_restore (wsV RX3 67 RX3 yX3_isSnapshot wsX3_isSnapshot) := goodIn_app (goodIn_of _ (by decide +kernel)) ggX3_restore_X3_isSnapshot
set_option maxRecDepth 20000 in
theorem ggX3_restore_X3_copy : GoodIn wsX3_restore wsX3_copy := goodIn_r _ [16, 2, 17, 18, 19, 20, 21, 22, 23, 24, 25] (by decide +kernel) (by decide +kernel)
set_option maxRecDepth 20000 in
theorem gX3_restore_X3_copy : GoodIn wsX3_restore (wsV RX3 64 RX3 yX3_copy wsX3_copy) := goodIn_app (goodIn_of _ (by decide +kernel)) ggX3_restore_X3_copy
theorem dX3_restore_0 : decode cX3_restore 0 = .ok (.aload_n 0, 1) := by decide +kernel
theorem dX3_restore_1 : decode cX3_restore 1 = .ok (.aload_n 0, 1) := by decide +kernel
theorem dX3_restore_2 : decode cX3_restore 2 = .ok (.iload_n 1, 1) := by decide +kernel
theorem dX3_restore_3 : decode cX3_restore 3 = .ok (.invokevirtual 67, 3) := by decide +kernel
theorem dX3_restore_6 : decode cX3_restore 6 = .ok (.ifCond .eq 7, 3) := by decide +kernel
theorem dX3_restore_9 : decode cX3_restore 9 = .ok (.iconst 0, 1) := by decide +kernel
theorem dX3_restore_10 : decode cX3_restore 10 = .ok (.goto 4, 3) := by decide +kernel
theorem dX3_restore_13 : decode cX3_restore 13 = .ok (.iconst 1, 1) := by decide +kernel
theorem dX3_restore_14 : decode cX3_restore 14 = .ok (.putfield 29, 3) := by decide +kernel
theorem dX3_restore_17 : decode cX3_restore 17 = .ok (.aload_n 0, 1) := by decide +kernel
theorem dX3_restore_18 : decode cX3_restore 18 = .ok (.getfield 29, 3) := by decide +kernel
theorem dX3_restore_21 : decode cX3_restore 21 = .ok (.ifCond .le 5, 3) := by decide +kernel
theorem dX3_restore_24 : decode cX3_restore 24 = .ok (.iconst 0, 1) := by decide +kernel
theorem dX3_restore_25 : decode cX3_restore 25 = .ok (.ireturn, 1) := by decide +kernel
theorem dX3_restore_26 : decode cX3_restore 26 = .ok (.aload_n 0, 1) := by decide +kernel
theorem dX3_restore_27 : decode cX3_restore 27 = .ok (.iload_n 1, 1) := by decide +kernel
theorem dX3_restore_28 : decode cX3_restore 28 = .ok (.iconst 0, 1) := by decide +kernel
theorem dX3_restore_29 : decode cX3_restore 29 = .ok (.invokevirtual 64, 3) := by decide +kernel
theorem dX3_restore_32 : decode cX3_restore 32 = .ok (.aload_n 0, 1) := by decide +kernel
theorem dX3_restore_33 : decode cX3_restore 33 = .ok (.getfield 16, 3) := by decide +kernel
theorem dX3_restore_36 : decode cX3_restore 36 = .ok (.iconst 0, 1) := by decide +kernel
theorem dX3_restore_37 : decode cX3_restore 37 = .ok (.iaload, 1) := by decide +kernel
theorem dX3_restore_38 : decode cX3_restore 38 = .ok (.ireturn, 1) := by decide +kernel
set_option maxRecDepth 20000 in
theorem ggX3_size_X3_isVersion : GoodIn wsX3_size wsX3_isVersion := goodIn_r _ [7, 8, 9, 10, 11, 12, 13, 14, 15] (by decide +kernel) (by decide +kernel)
set_option maxRecDepth 20000 in
theorem gX3_size_X3_isVersion : GoodIn wsX3_size (wsV RX3 41 RX3 yX3_isVersion wsX3_isVersion) := goodIn_app (goodIn_of _ (by decide +kernel)) ggX3_size_X3_isVersion
theorem dX3_size_0 : decode cX3_size 0 = .ok (.aload_n 0, 1) := by decide +kernel
theorem dX3_size_1 : decode cX3_size 1 = .ok (.aload_n 0, 1) := by decide +kernel
theorem dX3_size_2 : decode cX3_size 2 = .ok (.iload_n 1, 1) := by decide +kernel
theorem dX3_size_3 : decode cX3_size 3 = .ok (.invokevirtual 41, 3) := by decide +kernel
theorem dX3_size_6 : decode cX3_size 6 = .ok (.ifCond .eq 7, 3) := by decide +kernel
theorem dX3_size_9 : decode cX3_size 9 = .ok (.iconst 0, 1) := by decide +kernel
theorem dX3_size_10 : decode cX3_size 10 = .ok (.goto 4, 3) := by decide +kernel
theorem dX3_size_13 : decode cX3_size 13 = .ok (.iconst 1, 1) := by decide +kernel
theorem dX3_size_14 : decode cX3_size 14 = .ok (.putfield 29, 3) := by decide +kernel
theorem dX3_size_17 : decode cX3_size 17 = .ok (.aload_n 0, 1) := by decide +kernel
theorem dX3_size_18 : decode cX3_size 18 = .ok (.getfield 29, 3) := by decide +kernel
theorem dX3_size_21 : decode cX3_size 21 = .ok (.ifCond .le 7, 3) := by decide +kernel
theorem dX3_size_24 : decode cX3_size 24 = .ok (.iconst 0, 1) := by decide +kernel
theorem dX3_size_25 : decode cX3_size 25 = .ok (.goto 9, 3) := by decide +kernel
theorem dX3_size_28 : decode cX3_size 28 = .ok (.aload_n 0, 1) := by decide +kernel
theorem dX3_size_29 : decode cX3_size 29 = .ok (.getfield 16, 3) := by decide +kernel
theorem dX3_size_32 : decode cX3_size 32 = .ok (.iload_n 1, 1) := by decide +kernel
theorem dX3_size_33 : decode cX3_size 33 = .ok (.iaload, 1) := by decide +kernel
theorem dX3_size_34 : decode cX3_size 34 = .ok (.ireturn, 1) := by decide +kernel
set_option maxRecDepth 20000 in
theorem ggX3_get_X3_isVersion : GoodIn wsX3_get wsX3_isVersion := goodIn_r _ [7, 8, 19, 20, 21, 22, 23, 24, 25] (by decide +kernel) (by decide +kernel)
set_option maxRecDepth 20000 in
theorem gX3_get_X3_isVersion : GoodIn wsX3_get (wsV RX3 41 RX3 yX3_isVersion wsX3_isVersion) := goodIn_app (goodIn_of _ (by decide +kernel)) ggX3_get_X3_isVersion
set_option maxRecDepth 20000 in
theorem ggX3_get_X3_has : GoodIn wsX3_get wsX3_has := goodIn_r _ [12, 13, 14, 15, 16, 17, 6, 18, 19, 20, 21, 22, 23, 24, 25] (by decide +kernel) (by decide +kernel)
set_option maxRecDepth 20000 in
theorem gX3_get_X3_has : GoodIn wsX3_get (wsV RX3 37 RX3 yX3_has wsX3_has) := goodIn_app (goodIn_of _ (by decide +kernel)) ggX3_get_X3_has
set_option maxRecDepth 20000 in
theorem ggX3_get_X3_below : GoodIn wsX3_get wsX3_below := goodIn_r _ [18, 13, 14, 19, 20, 21, 22, 23, 24, 25] (by decide +kernel) (by decide +kernel)
set_option maxRecDepth 20000 in
theorem gX3_get_X3_below : GoodIn wsX3_get (wsV RX3 33 RX3 yX3_below wsX3_below) := goodIn_app (goodIn_of _ (by decide +kernel)) ggX3_get_X3_below
theorem dX3_get_0 : decode cX3_get 0 = .ok (.aload_n 0, 1) := by decide +kernel
theorem dX3_get_1 : decode cX3_get 1 = .ok (.aload_n 0, 1) := by decide +kernel
theorem dX3_get_2 : decode cX3_get 2 = .ok (.iload_n 1, 1) := by decide +kernel
theorem dX3_get_3 : decode cX3_get 3 = .ok (.invokevirtual 41, 3) := by decide +kernel
theorem dX3_get_6 : decode cX3_get 6 = .ok (.ifCond .ne 7, 3) := by decide +kernel
theorem dX3_get_9 : decode cX3_get 9 = .ok (.iconst 1, 1) := by decide +kernel
theorem dX3_get_10 : decode cX3_get 10 = .ok (.goto 17, 3) := by decide +kernel
theorem dX3_get_13 : decode cX3_get 13 = .ok (.aload_n 0, 1) := by decide +kernel
theorem dX3_get_14 : decode cX3_get 14 = .ok (.iload_n 1, 1) := by decide +kernel
theorem dX3_get_15 : decode cX3_get 15 = .ok (.iload_n 2, 1) := by decide +kernel
theorem dX3_get_16 : decode cX3_get 16 = .ok (.invokevirtual 37, 3) := by decide +kernel
theorem dX3_get_19 : decode cX3_get 19 = .ok (.ifCond .eq 7, 3) := by decide +kernel
theorem dX3_get_22 : decode cX3_get 22 = .ok (.iconst 0, 1) := by decide +kernel
theorem dX3_get_23 : decode cX3_get 23 = .ok (.goto 4, 3) := by decide +kernel
theorem dX3_get_26 : decode cX3_get 26 = .ok (.iconst 2, 1) := by decide +kernel
theorem dX3_get_27 : decode cX3_get 27 = .ok (.putfield 29, 3) := by decide +kernel
theorem dX3_get_30 : decode cX3_get 30 = .ok (.aload_n 0, 1) := by decide +kernel
theorem dX3_get_31 : decode cX3_get 31 = .ok (.getfield 29, 3) := by decide +kernel
theorem dX3_get_34 : decode cX3_get 34 = .ok (.ifCond .le 7, 3) := by decide +kernel
theorem dX3_get_37 : decode cX3_get 37 = .ok (.iconst 0, 1) := by decide +kernel
theorem dX3_get_38 : decode cX3_get 38 = .ok (.goto 20, 3) := by decide +kernel
theorem dX3_get_41 : decode cX3_get 41 = .ok (.aload_n 0, 1) := by decide +kernel
theorem dX3_get_42 : decode cX3_get 42 = .ok (.getfield 13, 3) := by decide +kernel
theorem dX3_get_45 : decode cX3_get 45 = .ok (.sipush 600, 3) := by decide +kernel
theorem dX3_get_48 : decode cX3_get 48 = .ok (.iload_n 1, 1) := by decide +kernel
theorem dX3_get_49 : decode cX3_get 49 = .ok (.imul, 1) := by decide +kernel
theorem dX3_get_50 : decode cX3_get 50 = .ok (.aload_n 0, 1) := by decide +kernel
theorem dX3_get_51 : decode cX3_get 51 = .ok (.iload_n 1, 1) := by decide +kernel
theorem dX3_get_52 : decode cX3_get 52 = .ok (.iload_n 2, 1) := by decide +kernel
theorem dX3_get_53 : decode cX3_get 53 = .ok (.invokevirtual 33, 3) := by decide +kernel
theorem dX3_get_56 : decode cX3_get 56 = .ok (.iadd, 1) := by decide +kernel
theorem dX3_get_57 : decode cX3_get 57 = .ok (.iaload, 1) := by decide +kernel
theorem dX3_get_58 : decode cX3_get 58 = .ok (.ireturn, 1) := by decide +kernel
set_option maxRecDepth 20000 in
theorem ggX3_rank_X3_isVersion : GoodIn wsX3_rank wsX3_isVersion := goodIn_r _ [6, 7, 14, 15, 16, 17, 18, 19, 20] (by decide +kernel) (by decide +kernel)
set_option maxRecDepth 20000 in
theorem gX3_rank_X3_isVersion : GoodIn wsX3_rank (wsV RX3 41 RX3 yX3_isVersion wsX3_isVersion) := goodIn_app (goodIn_of _ (by decide +kernel)) ggX3_rank_X3_isVersion
set_option maxRecDepth 20000 in
theorem ggX3_rank_X3_below : GoodIn wsX3_rank wsX3_below := goodIn_r _ [11, 12, 13, 14, 15, 16, 17, 18, 19, 20] (by decide +kernel) (by decide +kernel)
set_option maxRecDepth 20000 in
theorem gX3_rank_X3_below : GoodIn wsX3_rank (wsV RX3 33 RX3 yX3_below wsX3_below) := goodIn_app (goodIn_of _ (by decide +kernel)) ggX3_rank_X3_below
theorem dX3_rank_0 : decode cX3_rank 0 = .ok (.aload_n 0, 1) := by decide +kernel
theorem dX3_rank_1 : decode cX3_rank 1 = .ok (.aload_n 0, 1) := by decide +kernel
theorem dX3_rank_2 : decode cX3_rank 2 = .ok (.iload_n 1, 1) := by decide +kernel
theorem dX3_rank_3 : decode cX3_rank 3 = .ok (.invokevirtual 41, 3) := by decide +kernel
theorem dX3_rank_6 : decode cX3_rank 6 = .ok (.ifCond .eq 7, 3) := by decide +kernel
theorem dX3_rank_9 : decode cX3_rank 9 = .ok (.iconst 0, 1) := by decide +kernel
theorem dX3_rank_10 : decode cX3_rank 10 = .ok (.goto 4, 3) := by decide +kernel
theorem dX3_rank_13 : decode cX3_rank 13 = .ok (.iconst 1, 1) := by decide +kernel
theorem dX3_rank_14 : decode cX3_rank 14 = .ok (.putfield 29, 3) := by decide +kernel
theorem dX3_rank_17 : decode cX3_rank 17 = .ok (.aload_n 0, 1) := by decide +kernel
theorem dX3_rank_18 : decode cX3_rank 18 = .ok (.getfield 29, 3) := by decide +kernel
theorem dX3_rank_21 : decode cX3_rank 21 = .ok (.ifCond .le 7, 3) := by decide +kernel
theorem dX3_rank_24 : decode cX3_rank 24 = .ok (.iconst 0, 1) := by decide +kernel
theorem dX3_rank_25 : decode cX3_rank 25 = .ok (.goto 9, 3) := by decide +kernel
theorem dX3_rank_28 : decode cX3_rank 28 = .ok (.aload_n 0, 1) := by decide +kernel
theorem dX3_rank_29 : decode cX3_rank 29 = .ok (.iload_n 1, 1) := by decide +kernel
theorem dX3_rank_30 : decode cX3_rank 30 = .ok (.iload_n 2, 1) := by decide +kernel
theorem dX3_rank_31 : decode cX3_rank 31 = .ok (.invokevirtual 33, 3) := by decide +kernel
theorem dX3_rank_34 : decode cX3_rank 34 = .ok (.ireturn, 1) := by decide +kernel
set_option maxRecDepth 20000 in
theorem ggX3_select_X3_isVersion : GoodIn wsX3_select wsX3_isVersion := goodIn_r _ [8, 9, 10, 11, 12, 13, 14, 15, 16] (by decide +kernel) (by decide +kernel)
set_option maxRecDepth 20000 in
theorem gX3_select_X3_isVersion : GoodIn wsX3_select (wsV RX3 41 RX3 yX3_isVersion wsX3_isVersion) := goodIn_app (goodIn_of _ (by decide +kernel)) ggX3_select_X3_isVersion
theorem dX3_select_0 : decode cX3_select 0 = .ok (.aload_n 0, 1) := by decide +kernel
theorem dX3_select_1 : decode cX3_select 1 = .ok (.aload_n 0, 1) := by decide +kernel
theorem dX3_select_2 : decode cX3_select 2 = .ok (.iload_n 1, 1) := by decide +kernel
theorem dX3_select_3 : decode cX3_select 3 = .ok (.invokevirtual 41, 3) := by decide +kernel
theorem dX3_select_6 : decode cX3_select 6 = .ok (.ifCond .ne 7, 3) := by decide +kernel
theorem dX3_select_9 : decode cX3_select 9 = .ok (.iconst 1, 1) := by decide +kernel
theorem dX3_select_10 : decode cX3_select 10 = .ok (.goto 22, 3) := by decide +kernel
theorem dX3_select_13 : decode cX3_select 13 = .ok (.iload_n 2, 1) := by decide +kernel
theorem dX3_select_14 : decode cX3_select 14 = .ok (.ifCond .lt 13, 3) := by decide +kernel
theorem dX3_select_17 : decode cX3_select 17 = .ok (.iload_n 2, 1) := by decide +kernel
theorem dX3_select_18 : decode cX3_select 18 = .ok (.aload_n 0, 1) := by decide +kernel
theorem dX3_select_19 : decode cX3_select 19 = .ok (.getfield 16, 3) := by decide +kernel
theorem dX3_select_22 : decode cX3_select 22 = .ok (.iload_n 1, 1) := by decide +kernel
theorem dX3_select_23 : decode cX3_select 23 = .ok (.iaload, 1) := by decide +kernel
theorem dX3_select_24 : decode cX3_select 24 = .ok (.if_icmp .lt 7, 3) := by decide +kernel
theorem dX3_select_27 : decode cX3_select 27 = .ok (.iconst 2, 1) := by decide +kernel
theorem dX3_select_28 : decode cX3_select 28 = .ok (.goto 4, 3) := by decide +kernel
theorem dX3_select_31 : decode cX3_select 31 = .ok (.iconst 0, 1) := by decide +kernel
theorem dX3_select_32 : decode cX3_select 32 = .ok (.putfield 29, 3) := by decide +kernel
theorem dX3_select_35 : decode cX3_select 35 = .ok (.aload_n 0, 1) := by decide +kernel
theorem dX3_select_36 : decode cX3_select 36 = .ok (.getfield 29, 3) := by decide +kernel
theorem dX3_select_39 : decode cX3_select 39 = .ok (.ifCond .le 7, 3) := by decide +kernel
theorem dX3_select_42 : decode cX3_select 42 = .ok (.iconst 0, 1) := by decide +kernel
theorem dX3_select_43 : decode cX3_select 43 = .ok (.goto 15, 3) := by decide +kernel
theorem dX3_select_46 : decode cX3_select 46 = .ok (.aload_n 0, 1) := by decide +kernel
theorem dX3_select_47 : decode cX3_select 47 = .ok (.getfield 7, 3) := by decide +kernel
theorem dX3_select_50 : decode cX3_select 50 = .ok (.sipush 600, 3) := by decide +kernel
theorem dX3_select_53 : decode cX3_select 53 = .ok (.iload_n 1, 1) := by decide +kernel
theorem dX3_select_54 : decode cX3_select 54 = .ok (.imul, 1) := by decide +kernel
theorem dX3_select_55 : decode cX3_select 55 = .ok (.iload_n 2, 1) := by decide +kernel
theorem dX3_select_56 : decode cX3_select 56 = .ok (.iadd, 1) := by decide +kernel
theorem dX3_select_57 : decode cX3_select 57 = .ok (.iaload, 1) := by decide +kernel
theorem dX3_select_58 : decode cX3_select 58 = .ok (.ireturn, 1) := by decide +kernel
set_option maxRecDepth 20000 in
theorem ggX3_near_X3_isVersion : GoodIn wsX3_near wsX3_isVersion := goodIn_r _ [8, 9, 22, 23, 24, 25, 26, 27, 28] (by decide +kernel) (by decide +kernel)
set_option maxRecDepth 20000 in
theorem gX3_near_X3_isVersion : GoodIn wsX3_near (wsV RX3 41 RX3 yX3_isVersion wsX3_isVersion) := goodIn_app (goodIn_of _ (by decide +kernel)) ggX3_near_X3_isVersion
set_option maxRecDepth 20000 in
theorem ggX3_near_X3_below : GoodIn wsX3_near wsX3_below := goodIn_r _ [13, 2, 3, 22, 23, 24, 25, 26, 27, 28] (by decide +kernel) (by decide +kernel)
set_option maxRecDepth 20000 in
theorem gX3_near_X3_below : GoodIn wsX3_near (wsV RX3 33 RX3 yX3_below wsX3_below) := goodIn_app (goodIn_of _ (by decide +kernel)) ggX3_near_X3_below
set_option maxRecDepth 20000 in
theorem ggX3_near_X3_upTo : GoodIn wsX3_near wsX3_upTo := goodIn_r _ [17, 10, 11, 12, 7, 13, 2, 3, 18, 19, 20, 21, 22, 23, 24, 25, 26, 27, 28] (by decide +kernel) (by decide +kernel)
set_option maxRecDepth 20000 in
theorem gX3_near_X3_upTo : GoodIn wsX3_near (wsV RX3 54 RX3 yX3_upTo wsX3_upTo) := goodIn_app (goodIn_of _ (by decide +kernel)) ggX3_near_X3_upTo
theorem dX3_near_0 : decode cX3_near 0 = .ok (.aload_n 0, 1) := by decide +kernel
theorem dX3_near_1 : decode cX3_near 1 = .ok (.aload_n 0, 1) := by decide +kernel
theorem dX3_near_2 : decode cX3_near 2 = .ok (.iload_n 1, 1) := by decide +kernel
theorem dX3_near_3 : decode cX3_near 3 = .ok (.invokevirtual 41, 3) := by decide +kernel
theorem dX3_near_6 : decode cX3_near 6 = .ok (.ifCond .eq 7, 3) := by decide +kernel
theorem dX3_near_9 : decode cX3_near 9 = .ok (.iconst 0, 1) := by decide +kernel
theorem dX3_near_10 : decode cX3_near 10 = .ok (.goto 4, 3) := by decide +kernel
theorem dX3_near_13 : decode cX3_near 13 = .ok (.iconst 1, 1) := by decide +kernel
theorem dX3_near_14 : decode cX3_near 14 = .ok (.putfield 29, 3) := by decide +kernel
theorem dX3_near_17 : decode cX3_near 17 = .ok (.aload_n 0, 1) := by decide +kernel
theorem dX3_near_18 : decode cX3_near 18 = .ok (.getfield 29, 3) := by decide +kernel
theorem dX3_near_21 : decode cX3_near 21 = .ok (.ifCond .le 5, 3) := by decide +kernel
theorem dX3_near_24 : decode cX3_near 24 = .ok (.iconst 0, 1) := by decide +kernel
theorem dX3_near_25 : decode cX3_near 25 = .ok (.ireturn, 1) := by decide +kernel
theorem dX3_near_26 : decode cX3_near 26 = .ok (.iload_n 3, 1) := by decide +kernel
theorem dX3_near_27 : decode cX3_near 27 = .ok (.ifCond .eq 12, 3) := by decide +kernel
theorem dX3_near_30 : decode cX3_near 30 = .ok (.aload_n 0, 1) := by decide +kernel
theorem dX3_near_31 : decode cX3_near 31 = .ok (.iload_n 1, 1) := by decide +kernel
theorem dX3_near_32 : decode cX3_near 32 = .ok (.iload_n 2, 1) := by decide +kernel
theorem dX3_near_33 : decode cX3_near 33 = .ok (.invokevirtual 33, 3) := by decide +kernel
theorem dX3_near_36 : decode cX3_near 36 = .ok (.goto 11, 3) := by decide +kernel
theorem dX3_near_39 : decode cX3_near 39 = .ok (.aload_n 0, 1) := by decide +kernel
theorem dX3_near_40 : decode cX3_near 40 = .ok (.iload_n 1, 1) := by decide +kernel
theorem dX3_near_41 : decode cX3_near 41 = .ok (.iload_n 2, 1) := by decide +kernel
theorem dX3_near_42 : decode cX3_near 42 = .ok (.invokevirtual 54, 3) := by decide +kernel
theorem dX3_near_45 : decode cX3_near 45 = .ok (.iconst 1, 1) := by decide +kernel
theorem dX3_near_46 : decode cX3_near 46 = .ok (.isub, 1) := by decide +kernel
theorem dX3_near_47 : decode cX3_near 47 = .ok (.istore 4, 2) := by decide +kernel
theorem dX3_near_49 : decode cX3_near 49 = .ok (.aload_n 0, 1) := by decide +kernel
theorem dX3_near_50 : decode cX3_near 50 = .ok (.iload 4, 2) := by decide +kernel
theorem dX3_near_52 : decode cX3_near 52 = .ok (.ifCond .lt 14, 3) := by decide +kernel
theorem dX3_near_55 : decode cX3_near 55 = .ok (.iload 4, 2) := by decide +kernel
theorem dX3_near_57 : decode cX3_near 57 = .ok (.aload_n 0, 1) := by decide +kernel
theorem dX3_near_58 : decode cX3_near 58 = .ok (.getfield 16, 3) := by decide +kernel
theorem dX3_near_61 : decode cX3_near 61 = .ok (.iload_n 1, 1) := by decide +kernel
theorem dX3_near_62 : decode cX3_near 62 = .ok (.iaload, 1) := by decide +kernel
theorem dX3_near_63 : decode cX3_near 63 = .ok (.if_icmp .lt 7, 3) := by decide +kernel
theorem dX3_near_66 : decode cX3_near 66 = .ok (.iconst 2, 1) := by decide +kernel
theorem dX3_near_67 : decode cX3_near 67 = .ok (.goto 4, 3) := by decide +kernel
theorem dX3_near_70 : decode cX3_near 70 = .ok (.iconst 0, 1) := by decide +kernel
theorem dX3_near_71 : decode cX3_near 71 = .ok (.putfield 29, 3) := by decide +kernel
theorem dX3_near_74 : decode cX3_near 74 = .ok (.aload_n 0, 1) := by decide +kernel
theorem dX3_near_75 : decode cX3_near 75 = .ok (.getfield 29, 3) := by decide +kernel
theorem dX3_near_78 : decode cX3_near 78 = .ok (.ifCond .le 7, 3) := by decide +kernel
theorem dX3_near_81 : decode cX3_near 81 = .ok (.iconst 0, 1) := by decide +kernel
theorem dX3_near_82 : decode cX3_near 82 = .ok (.goto 16, 3) := by decide +kernel
theorem dX3_near_85 : decode cX3_near 85 = .ok (.aload_n 0, 1) := by decide +kernel
theorem dX3_near_86 : decode cX3_near 86 = .ok (.getfield 7, 3) := by decide +kernel
theorem dX3_near_89 : decode cX3_near 89 = .ok (.sipush 600, 3) := by decide +kernel
theorem dX3_near_92 : decode cX3_near 92 = .ok (.iload_n 1, 1) := by decide +kernel
theorem dX3_near_93 : decode cX3_near 93 = .ok (.imul, 1) := by decide +kernel
theorem dX3_near_94 : decode cX3_near 94 = .ok (.iload 4, 2) := by decide +kernel
theorem dX3_near_96 : decode cX3_near 96 = .ok (.iadd, 1) := by decide +kernel
theorem dX3_near_97 : decode cX3_near 97 = .ok (.iaload, 1) := by decide +kernel
theorem dX3_near_98 : decode cX3_near 98 = .ok (.ireturn, 1) := by decide +kernel
set_option maxRecDepth 20000 in
theorem ggX3_sum_X3_isVersion : GoodIn wsX3_sum wsX3_isVersion := goodIn_r _ [9, 10, 11, 12, 13, 14, 15, 16, 17] (by decide +kernel) (by decide +kernel)
set_option maxRecDepth 20000 in
theorem gX3_sum_X3_isVersion : GoodIn wsX3_sum (wsV RX3 41 RX3 yX3_isVersion wsX3_isVersion) := goodIn_app (goodIn_of _ (by decide +kernel)) ggX3_sum_X3_isVersion
theorem dX3_sum_0 : decode cX3_sum 0 = .ok (.aload_n 0, 1) := by decide +kernel
theorem dX3_sum_1 : decode cX3_sum 1 = .ok (.aload_n 0, 1) := by decide +kernel
theorem dX3_sum_2 : decode cX3_sum 2 = .ok (.iload_n 1, 1) := by decide +kernel
theorem dX3_sum_3 : decode cX3_sum 3 = .ok (.invokevirtual 41, 3) := by decide +kernel
theorem dX3_sum_6 : decode cX3_sum 6 = .ok (.ifCond .eq 7, 3) := by decide +kernel
theorem dX3_sum_9 : decode cX3_sum 9 = .ok (.iconst 0, 1) := by decide +kernel
theorem dX3_sum_10 : decode cX3_sum 10 = .ok (.goto 4, 3) := by decide +kernel
theorem dX3_sum_13 : decode cX3_sum 13 = .ok (.iconst 1, 1) := by decide +kernel
theorem dX3_sum_14 : decode cX3_sum 14 = .ok (.putfield 29, 3) := by decide +kernel
theorem dX3_sum_17 : decode cX3_sum 17 = .ok (.lconst 0, 1) := by decide +kernel
theorem dX3_sum_18 : decode cX3_sum 18 = .ok (.lstore 4, 2) := by decide +kernel
theorem dX3_sum_20 : decode cX3_sum 20 = .ok (.iconst 0, 1) := by decide +kernel
theorem dX3_sum_21 : decode cX3_sum 21 = .ok (.istore 6, 2) := by decide +kernel
theorem dX3_sum_23 : decode cX3_sum 23 = .ok (.aload_n 0, 1) := by decide +kernel
theorem dX3_sum_24 : decode cX3_sum 24 = .ok (.getfield 29, 3) := by decide +kernel
theorem dX3_sum_27 : decode cX3_sum 27 = .ok (.ifCond .ne 70, 3) := by decide +kernel
theorem dX3_sum_30 : decode cX3_sum 30 = .ok (.iload 6, 2) := by decide +kernel
theorem dX3_sum_32 : decode cX3_sum 32 = .ok (.aload_n 0, 1) := by decide +kernel
theorem dX3_sum_33 : decode cX3_sum 33 = .ok (.getfield 16, 3) := by decide +kernel
theorem dX3_sum_36 : decode cX3_sum 36 = .ok (.iload_n 1, 1) := by decide +kernel
theorem dX3_sum_37 : decode cX3_sum 37 = .ok (.iaload, 1) := by decide +kernel
theorem dX3_sum_38 : decode cX3_sum 38 = .ok (.if_icmp .ge 59, 3) := by decide +kernel
theorem dX3_sum_41 : decode cX3_sum 41 = .ok (.aload_n 0, 1) := by decide +kernel
theorem dX3_sum_42 : decode cX3_sum 42 = .ok (.getfield 7, 3) := by decide +kernel
theorem dX3_sum_45 : decode cX3_sum 45 = .ok (.sipush 600, 3) := by decide +kernel
theorem dX3_sum_48 : decode cX3_sum 48 = .ok (.iload_n 1, 1) := by decide +kernel
theorem dX3_sum_49 : decode cX3_sum 49 = .ok (.imul, 1) := by decide +kernel
theorem dX3_sum_50 : decode cX3_sum 50 = .ok (.iload 6, 2) := by decide +kernel
theorem dX3_sum_52 : decode cX3_sum 52 = .ok (.iadd, 1) := by decide +kernel
theorem dX3_sum_53 : decode cX3_sum 53 = .ok (.iaload, 1) := by decide +kernel
theorem dX3_sum_54 : decode cX3_sum 54 = .ok (.istore 7, 2) := by decide +kernel
theorem dX3_sum_56 : decode cX3_sum 56 = .ok (.lload 4, 2) := by decide +kernel
theorem dX3_sum_58 : decode cX3_sum 58 = .ok (.iload 7, 2) := by decide +kernel
theorem dX3_sum_60 : decode cX3_sum 60 = .ok (.iload_n 2, 1) := by decide +kernel
theorem dX3_sum_61 : decode cX3_sum 61 = .ok (.if_icmp .lt 26, 3) := by decide +kernel
theorem dX3_sum_64 : decode cX3_sum 64 = .ok (.iload 7, 2) := by decide +kernel
theorem dX3_sum_66 : decode cX3_sum 66 = .ok (.iload_n 3, 1) := by decide +kernel
theorem dX3_sum_67 : decode cX3_sum 67 = .ok (.if_icmp .gt 20, 3) := by decide +kernel
theorem dX3_sum_70 : decode cX3_sum 70 = .ok (.aload_n 0, 1) := by decide +kernel
theorem dX3_sum_71 : decode cX3_sum 71 = .ok (.getfield 13, 3) := by decide +kernel
theorem dX3_sum_74 : decode cX3_sum 74 = .ok (.sipush 600, 3) := by decide +kernel
theorem dX3_sum_77 : decode cX3_sum 77 = .ok (.iload_n 1, 1) := by decide +kernel
theorem dX3_sum_78 : decode cX3_sum 78 = .ok (.imul, 1) := by decide +kernel
theorem dX3_sum_79 : decode cX3_sum 79 = .ok (.iload 6, 2) := by decide +kernel
theorem dX3_sum_81 : decode cX3_sum 81 = .ok (.iadd, 1) := by decide +kernel
theorem dX3_sum_82 : decode cX3_sum 82 = .ok (.iaload, 1) := by decide +kernel
theorem dX3_sum_83 : decode cX3_sum 83 = .ok (.i2l, 1) := by decide +kernel
theorem dX3_sum_84 : decode cX3_sum 84 = .ok (.goto 4, 3) := by decide +kernel
theorem dX3_sum_87 : decode cX3_sum 87 = .ok (.lconst 0, 1) := by decide +kernel
theorem dX3_sum_88 : decode cX3_sum 88 = .ok (.ladd, 1) := by decide +kernel
theorem dX3_sum_89 : decode cX3_sum 89 = .ok (.lstore 4, 2) := by decide +kernel
theorem dX3_sum_91 : decode cX3_sum 91 = .ok (.iinc 6 1, 3) := by decide +kernel
theorem dX3_sum_94 : decode cX3_sum 94 = .ok (.goto (-71), 3) := by decide +kernel
theorem dX3_sum_97 : decode cX3_sum 97 = .ok (.lload 4, 2) := by decide +kernel
theorem dX3_sum_99 : decode cX3_sum 99 = .ok (.lreturn, 1) := by decide +kernel
set_option maxRecDepth 20000 in
theorem ggX3_greatest_X3_isVersion : GoodIn wsX3_greatest wsX3_isVersion := goodIn_r _ [10, 11, 28, 29, 30, 31, 32, 33, 34] (by decide +kernel) (by decide +kernel)
set_option maxRecDepth 20000 in
theorem gX3_greatest_X3_isVersion : GoodIn wsX3_greatest (wsV RX3 41 RX3 yX3_isVersion wsX3_isVersion) := goodIn_app (goodIn_of _ (by decide +kernel)) ggX3_greatest_X3_isVersion
set_option maxRecDepth 20000 in
theorem ggX3_greatest_X3_many : GoodIn wsX3_greatest wsX3_many := goodIn_r _ [15, 16, 17, 18, 9, 19, 20, 21, 22, 23, 3, 4, 24, 25, 26, 27, 28, 29, 30, 31, 32, 33, 34] (by decide +kernel) (by decide +kernel)
set_option maxRecDepth 20000 in
theorem gX3_greatest_X3_many : GoodIn wsX3_greatest (wsV RX3 57 RX3 yX3_many wsX3_many) := goodIn_app (goodIn_of _ (by decide +kernel)) ggX3_greatest_X3_many
theorem dX3_greatest_0 : decode cX3_greatest 0 = .ok (.aload_n 0, 1) := by decide +kernel
theorem dX3_greatest_1 : decode cX3_greatest 1 = .ok (.aload_n 0, 1) := by decide +kernel
theorem dX3_greatest_2 : decode cX3_greatest 2 = .ok (.iload_n 1, 1) := by decide +kernel
theorem dX3_greatest_3 : decode cX3_greatest 3 = .ok (.invokevirtual 41, 3) := by decide +kernel
theorem dX3_greatest_6 : decode cX3_greatest 6 = .ok (.ifCond .eq 7, 3) := by decide +kernel
theorem dX3_greatest_9 : decode cX3_greatest 9 = .ok (.iconst 0, 1) := by decide +kernel
theorem dX3_greatest_10 : decode cX3_greatest 10 = .ok (.goto 4, 3) := by decide +kernel
theorem dX3_greatest_13 : decode cX3_greatest 13 = .ok (.iconst 1, 1) := by decide +kernel
theorem dX3_greatest_14 : decode cX3_greatest 14 = .ok (.putfield 29, 3) := by decide +kernel
theorem dX3_greatest_17 : decode cX3_greatest 17 = .ok (.aload_n 0, 1) := by decide +kernel
theorem dX3_greatest_18 : decode cX3_greatest 18 = .ok (.aload_n 0, 1) := by decide +kernel
theorem dX3_greatest_19 : decode cX3_greatest 19 = .ok (.getfield 29, 3) := by decide +kernel
theorem dX3_greatest_22 : decode cX3_greatest 22 = .ok (.ifCond .ne 17, 3) := by decide +kernel
theorem dX3_greatest_25 : decode cX3_greatest 25 = .ok (.aload_n 0, 1) := by decide +kernel
theorem dX3_greatest_26 : decode cX3_greatest 26 = .ok (.iload_n 1, 1) := by decide +kernel
theorem dX3_greatest_27 : decode cX3_greatest 27 = .ok (.iload_n 2, 1) := by decide +kernel
theorem dX3_greatest_28 : decode cX3_greatest 28 = .ok (.iload_n 3, 1) := by decide +kernel
theorem dX3_greatest_29 : decode cX3_greatest 29 = .ok (.invokevirtual 57, 3) := by decide +kernel
theorem dX3_greatest_32 : decode cX3_greatest 32 = .ok (.ifCond .ne 7, 3) := by decide +kernel
theorem dX3_greatest_35 : decode cX3_greatest 35 = .ok (.iconst 2, 1) := by decide +kernel
theorem dX3_greatest_36 : decode cX3_greatest 36 = .ok (.goto 7, 3) := by decide +kernel
theorem dX3_greatest_39 : decode cX3_greatest 39 = .ok (.aload_n 0, 1) := by decide +kernel
theorem dX3_greatest_40 : decode cX3_greatest 40 = .ok (.getfield 29, 3) := by decide +kernel
theorem dX3_greatest_43 : decode cX3_greatest 43 = .ok (.putfield 29, 3) := by decide +kernel
theorem dX3_greatest_46 : decode cX3_greatest 46 = .ok (.aload_n 0, 1) := by decide +kernel
theorem dX3_greatest_47 : decode cX3_greatest 47 = .ok (.getfield 29, 3) := by decide +kernel
theorem dX3_greatest_50 : decode cX3_greatest 50 = .ok (.ifCond .le 5, 3) := by decide +kernel
theorem dX3_greatest_53 : decode cX3_greatest 53 = .ok (.iconst 0, 1) := by decide +kernel
theorem dX3_greatest_54 : decode cX3_greatest 54 = .ok (.ireturn, 1) := by decide +kernel
theorem dX3_greatest_55 : decode cX3_greatest 55 = .ok (.ldc 70, 2) := by decide +kernel
theorem dX3_greatest_57 : decode cX3_greatest 57 = .ok (.istore 4, 2) := by decide +kernel
theorem dX3_greatest_59 : decode cX3_greatest 59 = .ok (.iconst 0, 1) := by decide +kernel
theorem dX3_greatest_60 : decode cX3_greatest 60 = .ok (.istore 5, 2) := by decide +kernel
theorem dX3_greatest_62 : decode cX3_greatest 62 = .ok (.iload 5, 2) := by decide +kernel
theorem dX3_greatest_64 : decode cX3_greatest 64 = .ok (.aload_n 0, 1) := by decide +kernel
theorem dX3_greatest_65 : decode cX3_greatest 65 = .ok (.getfield 16, 3) := by decide +kernel
theorem dX3_greatest_68 : decode cX3_greatest 68 = .ok (.iload_n 1, 1) := by decide +kernel
theorem dX3_greatest_69 : decode cX3_greatest 69 = .ok (.iaload, 1) := by decide +kernel
theorem dX3_greatest_70 : decode cX3_greatest 70 = .ok (.if_icmp .ge 67, 3) := by decide +kernel
theorem dX3_greatest_73 : decode cX3_greatest 73 = .ok (.aload_n 0, 1) := by decide +kernel
theorem dX3_greatest_74 : decode cX3_greatest 74 = .ok (.getfield 7, 3) := by decide +kernel
theorem dX3_greatest_77 : decode cX3_greatest 77 = .ok (.sipush 600, 3) := by decide +kernel
theorem dX3_greatest_80 : decode cX3_greatest 80 = .ok (.iload_n 1, 1) := by decide +kernel
theorem dX3_greatest_81 : decode cX3_greatest 81 = .ok (.imul, 1) := by decide +kernel
theorem dX3_greatest_82 : decode cX3_greatest 82 = .ok (.iload 5, 2) := by decide +kernel
theorem dX3_greatest_84 : decode cX3_greatest 84 = .ok (.iadd, 1) := by decide +kernel
theorem dX3_greatest_85 : decode cX3_greatest 85 = .ok (.iaload, 1) := by decide +kernel
theorem dX3_greatest_86 : decode cX3_greatest 86 = .ok (.istore 6, 2) := by decide +kernel
theorem dX3_greatest_88 : decode cX3_greatest 88 = .ok (.aload_n 0, 1) := by decide +kernel
theorem dX3_greatest_89 : decode cX3_greatest 89 = .ok (.getfield 13, 3) := by decide +kernel
theorem dX3_greatest_92 : decode cX3_greatest 92 = .ok (.sipush 600, 3) := by decide +kernel
theorem dX3_greatest_95 : decode cX3_greatest 95 = .ok (.iload_n 1, 1) := by decide +kernel
theorem dX3_greatest_96 : decode cX3_greatest 96 = .ok (.imul, 1) := by decide +kernel
theorem dX3_greatest_97 : decode cX3_greatest 97 = .ok (.iload 5, 2) := by decide +kernel
theorem dX3_greatest_99 : decode cX3_greatest 99 = .ok (.iadd, 1) := by decide +kernel
theorem dX3_greatest_100 : decode cX3_greatest 100 = .ok (.iaload, 1) := by decide +kernel
theorem dX3_greatest_101 : decode cX3_greatest 101 = .ok (.istore 7, 2) := by decide +kernel
theorem dX3_greatest_103 : decode cX3_greatest 103 = .ok (.iload 6, 2) := by decide +kernel
theorem dX3_greatest_105 : decode cX3_greatest 105 = .ok (.iload_n 2, 1) := by decide +kernel
theorem dX3_greatest_106 : decode cX3_greatest 106 = .ok (.if_icmp .lt 21, 3) := by decide +kernel
theorem dX3_greatest_109 : decode cX3_greatest 109 = .ok (.iload 6, 2) := by decide +kernel
theorem dX3_greatest_111 : decode cX3_greatest 111 = .ok (.iload_n 3, 1) := by decide +kernel
theorem dX3_greatest_112 : decode cX3_greatest 112 = .ok (.if_icmp .gt 15, 3) := by decide +kernel
theorem dX3_greatest_115 : decode cX3_greatest 115 = .ok (.iload 7, 2) := by decide +kernel
theorem dX3_greatest_117 : decode cX3_greatest 117 = .ok (.iload 4, 2) := by decide +kernel
theorem dX3_greatest_119 : decode cX3_greatest 119 = .ok (.if_icmp .le 8, 3) := by decide +kernel
theorem dX3_greatest_122 : decode cX3_greatest 122 = .ok (.iload 7, 2) := by decide +kernel
theorem dX3_greatest_124 : decode cX3_greatest 124 = .ok (.goto 5, 3) := by decide +kernel
theorem dX3_greatest_127 : decode cX3_greatest 127 = .ok (.iload 4, 2) := by decide +kernel
theorem dX3_greatest_129 : decode cX3_greatest 129 = .ok (.istore 4, 2) := by decide +kernel
theorem dX3_greatest_131 : decode cX3_greatest 131 = .ok (.iinc 5 1, 3) := by decide +kernel
theorem dX3_greatest_134 : decode cX3_greatest 134 = .ok (.goto (-72), 3) := by decide +kernel
theorem dX3_greatest_137 : decode cX3_greatest 137 = .ok (.iload 4, 2) := by decide +kernel
theorem dX3_greatest_139 : decode cX3_greatest 139 = .ok (.ireturn, 1) := by decide +kernel
set_option maxRecDepth 20000 in
theorem ggX3_isOther_X3_has : GoodIn wsX3_isOther wsX3_has := goodIn_r _ [7, 8, 1, 9, 10, 11, 6, 12, 13, 14, 15, 16, 17, 18, 19] (by decide +kernel) (by decide +kernel)
set_option maxRecDepth 20000 in
theorem gX3_isOther_X3_has : GoodIn wsX3_isOther (wsV RX3 37 RX3 yX3_has wsX3_has) := goodIn_app (goodIn_of _ (by decide +kernel)) ggX3_isOther_X3_has
set_option maxRecDepth 20000 in
theorem ggX3_isOther_X3_below : GoodIn wsX3_isOther wsX3_below := goodIn_r _ [12, 8, 1, 13, 14, 15, 16, 17, 18, 19] (by decide +kernel) (by decide +kernel)
set_option maxRecDepth 20000 in
theorem gX3_isOther_X3_below : GoodIn wsX3_isOther (wsV RX3 33 RX3 yX3_below wsX3_below) := goodIn_app (goodIn_of _ (by decide +kernel)) ggX3_isOther_X3_below
theorem dX3_isOther_0 : decode cX3_isOther 0 = .ok (.aload_n 0, 1) := by decide +kernel
theorem dX3_isOther_1 : decode cX3_isOther 1 = .ok (.getfield 7, 3) := by decide +kernel
theorem dX3_isOther_4 : decode cX3_isOther 4 = .ok (.sipush 600, 3) := by decide +kernel
theorem dX3_isOther_7 : decode cX3_isOther 7 = .ok (.iload_n 1, 1) := by decide +kernel
theorem dX3_isOther_8 : decode cX3_isOther 8 = .ok (.imul, 1) := by decide +kernel
theorem dX3_isOther_9 : decode cX3_isOther 9 = .ok (.iload_n 2, 1) := by decide +kernel
theorem dX3_isOther_10 : decode cX3_isOther 10 = .ok (.iadd, 1) := by decide +kernel
theorem dX3_isOther_11 : decode cX3_isOther 11 = .ok (.iaload, 1) := by decide +kernel
theorem dX3_isOther_12 : decode cX3_isOther 12 = .ok (.istore 4, 2) := by decide +kernel
theorem dX3_isOther_14 : decode cX3_isOther 14 = .ok (.aload_n 0, 1) := by decide +kernel
theorem dX3_isOther_15 : decode cX3_isOther 15 = .ok (.iload_n 3, 1) := by decide +kernel
theorem dX3_isOther_16 : decode cX3_isOther 16 = .ok (.iload 4, 2) := by decide +kernel
theorem dX3_isOther_18 : decode cX3_isOther 18 = .ok (.invokevirtual 37, 3) := by decide +kernel
theorem dX3_isOther_21 : decode cX3_isOther 21 = .ok (.ifCond .eq 36, 3) := by decide +kernel
theorem dX3_isOther_24 : decode cX3_isOther 24 = .ok (.aload_n 0, 1) := by decide +kernel
theorem dX3_isOther_25 : decode cX3_isOther 25 = .ok (.getfield 13, 3) := by decide +kernel
theorem dX3_isOther_28 : decode cX3_isOther 28 = .ok (.sipush 600, 3) := by decide +kernel
theorem dX3_isOther_31 : decode cX3_isOther 31 = .ok (.iload_n 3, 1) := by decide +kernel
theorem dX3_isOther_32 : decode cX3_isOther 32 = .ok (.imul, 1) := by decide +kernel
theorem dX3_isOther_33 : decode cX3_isOther 33 = .ok (.aload_n 0, 1) := by decide +kernel
theorem dX3_isOther_34 : decode cX3_isOther 34 = .ok (.iload_n 3, 1) := by decide +kernel
theorem dX3_isOther_35 : decode cX3_isOther 35 = .ok (.iload 4, 2) := by decide +kernel
theorem dX3_isOther_37 : decode cX3_isOther 37 = .ok (.invokevirtual 33, 3) := by decide +kernel
theorem dX3_isOther_40 : decode cX3_isOther 40 = .ok (.iadd, 1) := by decide +kernel
theorem dX3_isOther_41 : decode cX3_isOther 41 = .ok (.iaload, 1) := by decide +kernel
theorem dX3_isOther_42 : decode cX3_isOther 42 = .ok (.aload_n 0, 1) := by decide +kernel
theorem dX3_isOther_43 : decode cX3_isOther 43 = .ok (.getfield 13, 3) := by decide +kernel
theorem dX3_isOther_46 : decode cX3_isOther 46 = .ok (.sipush 600, 3) := by decide +kernel
theorem dX3_isOther_49 : decode cX3_isOther 49 = .ok (.iload_n 1, 1) := by decide +kernel
theorem dX3_isOther_50 : decode cX3_isOther 50 = .ok (.imul, 1) := by decide +kernel
theorem dX3_isOther_51 : decode cX3_isOther 51 = .ok (.iload_n 2, 1) := by decide +kernel
theorem dX3_isOther_52 : decode cX3_isOther 52 = .ok (.iadd, 1) := by decide +kernel
theorem dX3_isOther_53 : decode cX3_isOther 53 = .ok (.iaload, 1) := by decide +kernel
theorem dX3_isOther_54 : decode cX3_isOther 54 = .ok (.if_icmp .eq 7, 3) := by decide +kernel
theorem dX3_isOther_57 : decode cX3_isOther 57 = .ok (.iconst 1, 1) := by decide +kernel
theorem dX3_isOther_58 : decode cX3_isOther 58 = .ok (.goto 4, 3) := by decide +kernel
theorem dX3_isOther_61 : decode cX3_isOther 61 = .ok (.iconst 0, 1) := by decide +kernel
theorem dX3_isOther_62 : decode cX3_isOther 62 = .ok (.ireturn, 1) := by decide +kernel
set_option maxRecDepth 20000 in
theorem ggX3_differs_X3_isVersion : GoodIn wsX3_differs wsX3_isVersion := goodIn_r _ [8, 9, 23, 24, 25, 26, 27, 28, 29] (by decide +kernel) (by decide +kernel)
set_option maxRecDepth 20000 in
theorem gX3_differs_X3_isVersion : GoodIn wsX3_differs (wsV RX3 41 RX3 yX3_isVersion wsX3_isVersion) := goodIn_app (goodIn_of _ (by decide +kernel)) ggX3_differs_X3_isVersion
set_option maxRecDepth 20000 in
theorem ggX3_differs_X3_isOther : GoodIn wsX3_differs wsX3_isOther := goodIn_r _ [13, 3, 14, 15, 16, 17, 7, 18, 2, 19, 20, 21, 22, 23, 24, 25, 26, 27, 28, 29] (by decide +kernel) (by decide +kernel)
set_option maxRecDepth 20000 in
theorem gX3_differs_X3_isOther : GoodIn wsX3_differs (wsV RX3 71 RX3 yX3_isOther wsX3_isOther) := goodIn_app (goodIn_of _ (by decide +kernel)) ggX3_differs_X3_isOther
set_option maxRecDepth 20000 in
theorem ggX3_differs_X3_has : GoodIn wsX3_differs wsX3_has := goodIn_r _ [18, 2, 3, 19, 20, 21, 7, 22, 23, 24, 25, 26, 27, 28, 29] (by decide +kernel) (by decide +kernel)
set_option maxRecDepth 20000 in
theorem gX3_differs_X3_has : GoodIn wsX3_differs (wsV RX3 37 RX3 yX3_has wsX3_has) := goodIn_app (goodIn_of _ (by decide +kernel)) ggX3_differs_X3_has
theorem dX3_differs_0 : decode cX3_differs 0 = .ok (.aload_n 0, 1) := by decide +kernel
theorem dX3_differs_1 : decode cX3_differs 1 = .ok (.aload_n 0, 1) := by decide +kernel
theorem dX3_differs_2 : decode cX3_differs 2 = .ok (.iload_n 1, 1) := by decide +kernel
theorem dX3_differs_3 : decode cX3_differs 3 = .ok (.invokevirtual 41, 3) := by decide +kernel
theorem dX3_differs_6 : decode cX3_differs 6 = .ok (.ifCond .eq 15, 3) := by decide +kernel
theorem dX3_differs_9 : decode cX3_differs 9 = .ok (.aload_n 0, 1) := by decide +kernel
theorem dX3_differs_10 : decode cX3_differs 10 = .ok (.iload_n 2, 1) := by decide +kernel
theorem dX3_differs_11 : decode cX3_differs 11 = .ok (.invokevirtual 41, 3) := by decide +kernel
theorem dX3_differs_14 : decode cX3_differs 14 = .ok (.ifCond .eq 7, 3) := by decide +kernel
theorem dX3_differs_17 : decode cX3_differs 17 = .ok (.iconst 0, 1) := by decide +kernel
theorem dX3_differs_18 : decode cX3_differs 18 = .ok (.goto 4, 3) := by decide +kernel
theorem dX3_differs_21 : decode cX3_differs 21 = .ok (.iconst 1, 1) := by decide +kernel
theorem dX3_differs_22 : decode cX3_differs 22 = .ok (.putfield 29, 3) := by decide +kernel
theorem dX3_differs_25 : decode cX3_differs 25 = .ok (.aload_n 0, 1) := by decide +kernel
theorem dX3_differs_26 : decode cX3_differs 26 = .ok (.getfield 29, 3) := by decide +kernel
theorem dX3_differs_29 : decode cX3_differs 29 = .ok (.ifCond .le 5, 3) := by decide +kernel
theorem dX3_differs_32 : decode cX3_differs 32 = .ok (.iconst 0, 1) := by decide +kernel
theorem dX3_differs_33 : decode cX3_differs 33 = .ok (.ireturn, 1) := by decide +kernel
theorem dX3_differs_34 : decode cX3_differs 34 = .ok (.iconst 0, 1) := by decide +kernel
theorem dX3_differs_35 : decode cX3_differs 35 = .ok (.istore_n 3, 1) := by decide +kernel
theorem dX3_differs_36 : decode cX3_differs 36 = .ok (.iconst 0, 1) := by decide +kernel
theorem dX3_differs_37 : decode cX3_differs 37 = .ok (.istore 4, 2) := by decide +kernel
theorem dX3_differs_39 : decode cX3_differs 39 = .ok (.iload 4, 2) := by decide +kernel
theorem dX3_differs_41 : decode cX3_differs 41 = .ok (.aload_n 0, 1) := by decide +kernel
theorem dX3_differs_42 : decode cX3_differs 42 = .ok (.getfield 16, 3) := by decide +kernel
theorem dX3_differs_45 : decode cX3_differs 45 = .ok (.iload_n 1, 1) := by decide +kernel
theorem dX3_differs_46 : decode cX3_differs 46 = .ok (.iaload, 1) := by decide +kernel
theorem dX3_differs_47 : decode cX3_differs 47 = .ok (.if_icmp .ge 28, 3) := by decide +kernel
theorem dX3_differs_50 : decode cX3_differs 50 = .ok (.iload_n 3, 1) := by decide +kernel
theorem dX3_differs_51 : decode cX3_differs 51 = .ok (.aload_n 0, 1) := by decide +kernel
theorem dX3_differs_52 : decode cX3_differs 52 = .ok (.iload_n 1, 1) := by decide +kernel
theorem dX3_differs_53 : decode cX3_differs 53 = .ok (.iload 4, 2) := by decide +kernel
theorem dX3_differs_55 : decode cX3_differs 55 = .ok (.iload_n 2, 1) := by decide +kernel
theorem dX3_differs_56 : decode cX3_differs 56 = .ok (.invokevirtual 71, 3) := by decide +kernel
theorem dX3_differs_59 : decode cX3_differs 59 = .ok (.ifCond .eq 7, 3) := by decide +kernel
theorem dX3_differs_62 : decode cX3_differs 62 = .ok (.iconst 1, 1) := by decide +kernel
theorem dX3_differs_63 : decode cX3_differs 63 = .ok (.goto 4, 3) := by decide +kernel
theorem dX3_differs_66 : decode cX3_differs 66 = .ok (.iconst 0, 1) := by decide +kernel
theorem dX3_differs_67 : decode cX3_differs 67 = .ok (.iadd, 1) := by decide +kernel
theorem dX3_differs_68 : decode cX3_differs 68 = .ok (.istore_n 3, 1) := by decide +kernel
theorem dX3_differs_69 : decode cX3_differs 69 = .ok (.iinc 4 1, 3) := by decide +kernel
theorem dX3_differs_72 : decode cX3_differs 72 = .ok (.goto (-33), 3) := by decide +kernel
theorem dX3_differs_75 : decode cX3_differs 75 = .ok (.iconst 0, 1) := by decide +kernel
theorem dX3_differs_76 : decode cX3_differs 76 = .ok (.istore 4, 2) := by decide +kernel
theorem dX3_differs_78 : decode cX3_differs 78 = .ok (.iload 4, 2) := by decide +kernel
theorem dX3_differs_80 : decode cX3_differs 80 = .ok (.aload_n 0, 1) := by decide +kernel
theorem dX3_differs_81 : decode cX3_differs 81 = .ok (.getfield 16, 3) := by decide +kernel
theorem dX3_differs_84 : decode cX3_differs 84 = .ok (.iload_n 2, 1) := by decide +kernel
theorem dX3_differs_85 : decode cX3_differs 85 = .ok (.iaload, 1) := by decide +kernel
theorem dX3_differs_86 : decode cX3_differs 86 = .ok (.if_icmp .ge 38, 3) := by decide +kernel
theorem dX3_differs_89 : decode cX3_differs 89 = .ok (.iload_n 3, 1) := by decide +kernel
theorem dX3_differs_90 : decode cX3_differs 90 = .ok (.aload_n 0, 1) := by decide +kernel
theorem dX3_differs_91 : decode cX3_differs 91 = .ok (.iload_n 1, 1) := by decide +kernel
theorem dX3_differs_92 : decode cX3_differs 92 = .ok (.aload_n 0, 1) := by decide +kernel
theorem dX3_differs_93 : decode cX3_differs 93 = .ok (.getfield 7, 3) := by decide +kernel
theorem dX3_differs_96 : decode cX3_differs 96 = .ok (.sipush 600, 3) := by decide +kernel
theorem dX3_differs_99 : decode cX3_differs 99 = .ok (.iload_n 2, 1) := by decide +kernel
theorem dX3_differs_100 : decode cX3_differs 100 = .ok (.imul, 1) := by decide +kernel
theorem dX3_differs_101 : decode cX3_differs 101 = .ok (.iload 4, 2) := by decide +kernel
theorem dX3_differs_103 : decode cX3_differs 103 = .ok (.iadd, 1) := by decide +kernel
theorem dX3_differs_104 : decode cX3_differs 104 = .ok (.iaload, 1) := by decide +kernel
theorem dX3_differs_105 : decode cX3_differs 105 = .ok (.invokevirtual 37, 3) := by decide +kernel
theorem dX3_differs_108 : decode cX3_differs 108 = .ok (.ifCond .eq 7, 3) := by decide +kernel
theorem dX3_differs_111 : decode cX3_differs 111 = .ok (.iconst 0, 1) := by decide +kernel
theorem dX3_differs_112 : decode cX3_differs 112 = .ok (.goto 4, 3) := by decide +kernel
theorem dX3_differs_115 : decode cX3_differs 115 = .ok (.iconst 1, 1) := by decide +kernel
theorem dX3_differs_116 : decode cX3_differs 116 = .ok (.iadd, 1) := by decide +kernel
theorem dX3_differs_117 : decode cX3_differs 117 = .ok (.istore_n 3, 1) := by decide +kernel
theorem dX3_differs_118 : decode cX3_differs 118 = .ok (.iinc 4 1, 3) := by decide +kernel
theorem dX3_differs_121 : decode cX3_differs 121 = .ok (.goto (-43), 3) := by decide +kernel
theorem dX3_differs_124 : decode cX3_differs 124 = .ok (.iload_n 3, 1) := by decide +kernel
theorem dX3_differs_125 : decode cX3_differs 125 = .ok (.ireturn, 1) := by decide +kernel
set_option maxRecDepth 20000 in
theorem ggX3_firstOther_X3_isOther : GoodIn wsX3_firstOther wsX3_isOther := goodIn_r _ [6, 7, 8, 9, 10, 11, 5, 12, 1, 13, 14, 15, 16, 17, 18, 19, 20, 21, 22, 23] (by decide +kernel) (by decide +kernel)
set_option maxRecDepth 20000 in
theorem gX3_firstOther_X3_isOther : GoodIn wsX3_firstOther (wsV RX3 71 RX3 yX3_isOther wsX3_isOther) := goodIn_app (goodIn_of _ (by decide +kernel)) ggX3_firstOther_X3_isOther
theorem dX3_firstOther_0 : decode cX3_firstOther 0 = .ok (.iconst 0, 1) := by decide +kernel
theorem dX3_firstOther_1 : decode cX3_firstOther 1 = .ok (.istore_n 3, 1) := by decide +kernel
theorem dX3_firstOther_2 : decode cX3_firstOther 2 = .ok (.iload_n 3, 1) := by decide +kernel
theorem dX3_firstOther_3 : decode cX3_firstOther 3 = .ok (.aload_n 0, 1) := by decide +kernel
theorem dX3_firstOther_4 : decode cX3_firstOther 4 = .ok (.getfield 16, 3) := by decide +kernel
theorem dX3_firstOther_7 : decode cX3_firstOther 7 = .ok (.iload_n 1, 1) := by decide +kernel
theorem dX3_firstOther_8 : decode cX3_firstOther 8 = .ok (.iaload, 1) := by decide +kernel
theorem dX3_firstOther_9 : decode cX3_firstOther 9 = .ok (.if_icmp .ge 19, 3) := by decide +kernel
theorem dX3_firstOther_12 : decode cX3_firstOther 12 = .ok (.aload_n 0, 1) := by decide +kernel
theorem dX3_firstOther_13 : decode cX3_firstOther 13 = .ok (.iload_n 1, 1) := by decide +kernel
theorem dX3_firstOther_14 : decode cX3_firstOther 14 = .ok (.iload_n 3, 1) := by decide +kernel
theorem dX3_firstOther_15 : decode cX3_firstOther 15 = .ok (.iload_n 2, 1) := by decide +kernel
theorem dX3_firstOther_16 : decode cX3_firstOther 16 = .ok (.invokevirtual 71, 3) := by decide +kernel
theorem dX3_firstOther_19 : decode cX3_firstOther 19 = .ok (.ifCond .ne 9, 3) := by decide +kernel
theorem dX3_firstOther_22 : decode cX3_firstOther 22 = .ok (.iinc 3 1, 3) := by decide +kernel
theorem dX3_firstOther_25 : decode cX3_firstOther 25 = .ok (.goto (-23), 3) := by decide +kernel
theorem dX3_firstOther_28 : decode cX3_firstOther 28 = .ok (.iload_n 3, 1) := by decide +kernel
theorem dX3_firstOther_29 : decode cX3_firstOther 29 = .ok (.ireturn, 1) := by decide +kernel
set_option maxRecDepth 20000 in
theorem ggX3_firstDifference_X3_isVersion : GoodIn wsX3_firstDifference wsX3_isVersion := goodIn_r _ [8, 9, 27, 28, 29, 30, 31, 32, 33] (by decide +kernel) (by decide +kernel)
set_option maxRecDepth 20000 in
theorem gX3_firstDifference_X3_isVersion : GoodIn wsX3_firstDifference (wsV RX3 41 RX3 yX3_isVersion wsX3_isVersion) := goodIn_app (goodIn_of _ (by decide +kernel)) ggX3_firstDifference_X3_isVersion
set_option maxRecDepth 20000 in
theorem ggX3_firstDifference_X3_firstOther : GoodIn wsX3_firstDifference wsX3_firstOther := goodIn_r _ [13, 2, 14, 15, 16, 7, 17, 3, 18, 19, 20, 21, 22, 23, 24, 25, 26, 27, 28, 29, 30, 31, 32, 33] (by decide +kernel) (by decide +kernel)
set_option maxRecDepth 20000 in
theorem gX3_firstDifference_X3_firstOther : GoodIn wsX3_firstDifference (wsV RX3 75 RX3 yX3_firstOther wsX3_firstOther) := goodIn_app (goodIn_of _ (by decide +kernel)) ggX3_firstDifference_X3_firstOther
theorem dX3_firstDifference_0 : decode cX3_firstDifference 0 = .ok (.aload_n 0, 1) := by decide +kernel
theorem dX3_firstDifference_1 : decode cX3_firstDifference 1 = .ok (.aload_n 0, 1) := by decide +kernel
theorem dX3_firstDifference_2 : decode cX3_firstDifference 2 = .ok (.iload_n 1, 1) := by decide +kernel
theorem dX3_firstDifference_3 : decode cX3_firstDifference 3 = .ok (.invokevirtual 41, 3) := by decide +kernel
theorem dX3_firstDifference_6 : decode cX3_firstDifference 6 = .ok (.ifCond .eq 15, 3) := by decide +kernel
theorem dX3_firstDifference_9 : decode cX3_firstDifference 9 = .ok (.aload_n 0, 1) := by decide +kernel
theorem dX3_firstDifference_10 : decode cX3_firstDifference 10 = .ok (.iload_n 2, 1) := by decide +kernel
theorem dX3_firstDifference_11 : decode cX3_firstDifference 11 = .ok (.invokevirtual 41, 3) := by decide +kernel
theorem dX3_firstDifference_14 : decode cX3_firstDifference 14 = .ok (.ifCond .eq 7, 3) := by decide +kernel
theorem dX3_firstDifference_17 : decode cX3_firstDifference 17 = .ok (.iconst 0, 1) := by decide +kernel
theorem dX3_firstDifference_18 : decode cX3_firstDifference 18 = .ok (.goto 4, 3) := by decide +kernel
theorem dX3_firstDifference_21 : decode cX3_firstDifference 21 = .ok (.iconst 1, 1) := by decide +kernel
theorem dX3_firstDifference_22 : decode cX3_firstDifference 22 = .ok (.putfield 29, 3) := by decide +kernel
theorem dX3_firstDifference_25 : decode cX3_firstDifference 25 = .ok (.aload_n 0, 1) := by decide +kernel
theorem dX3_firstDifference_26 : decode cX3_firstDifference 26 = .ok (.getfield 29, 3) := by decide +kernel
theorem dX3_firstDifference_29 : decode cX3_firstDifference 29 = .ok (.ifCond .le 5, 3) := by decide +kernel
theorem dX3_firstDifference_32 : decode cX3_firstDifference 32 = .ok (.iconst 0, 1) := by decide +kernel
theorem dX3_firstDifference_33 : decode cX3_firstDifference 33 = .ok (.ireturn, 1) := by decide +kernel
theorem dX3_firstDifference_34 : decode cX3_firstDifference 34 = .ok (.aload_n 0, 1) := by decide +kernel
theorem dX3_firstDifference_35 : decode cX3_firstDifference 35 = .ok (.iload_n 1, 1) := by decide +kernel
theorem dX3_firstDifference_36 : decode cX3_firstDifference 36 = .ok (.iload_n 2, 1) := by decide +kernel
theorem dX3_firstDifference_37 : decode cX3_firstDifference 37 = .ok (.invokevirtual 75, 3) := by decide +kernel
theorem dX3_firstDifference_40 : decode cX3_firstDifference 40 = .ok (.istore_n 3, 1) := by decide +kernel
theorem dX3_firstDifference_41 : decode cX3_firstDifference 41 = .ok (.aload_n 0, 1) := by decide +kernel
theorem dX3_firstDifference_42 : decode cX3_firstDifference 42 = .ok (.iload_n 2, 1) := by decide +kernel
theorem dX3_firstDifference_43 : decode cX3_firstDifference 43 = .ok (.iload_n 1, 1) := by decide +kernel
theorem dX3_firstDifference_44 : decode cX3_firstDifference 44 = .ok (.invokevirtual 75, 3) := by decide +kernel
theorem dX3_firstDifference_47 : decode cX3_firstDifference 47 = .ok (.istore 4, 2) := by decide +kernel
theorem dX3_firstDifference_49 : decode cX3_firstDifference 49 = .ok (.iload_n 3, 1) := by decide +kernel
theorem dX3_firstDifference_50 : decode cX3_firstDifference 50 = .ok (.aload_n 0, 1) := by decide +kernel
theorem dX3_firstDifference_51 : decode cX3_firstDifference 51 = .ok (.getfield 16, 3) := by decide +kernel
theorem dX3_firstDifference_54 : decode cX3_firstDifference 54 = .ok (.iload_n 1, 1) := by decide +kernel
theorem dX3_firstDifference_55 : decode cX3_firstDifference 55 = .ok (.iaload, 1) := by decide +kernel
theorem dX3_firstDifference_56 : decode cX3_firstDifference 56 = .ok (.if_icmp .ge 7, 3) := by decide +kernel
theorem dX3_firstDifference_59 : decode cX3_firstDifference 59 = .ok (.iconst 1, 1) := by decide +kernel
theorem dX3_firstDifference_60 : decode cX3_firstDifference 60 = .ok (.goto 4, 3) := by decide +kernel
theorem dX3_firstDifference_63 : decode cX3_firstDifference 63 = .ok (.iconst 0, 1) := by decide +kernel
theorem dX3_firstDifference_64 : decode cX3_firstDifference 64 = .ok (.istore 5, 2) := by decide +kernel
theorem dX3_firstDifference_66 : decode cX3_firstDifference 66 = .ok (.iload 4, 2) := by decide +kernel
theorem dX3_firstDifference_68 : decode cX3_firstDifference 68 = .ok (.aload_n 0, 1) := by decide +kernel
theorem dX3_firstDifference_69 : decode cX3_firstDifference 69 = .ok (.getfield 16, 3) := by decide +kernel
theorem dX3_firstDifference_72 : decode cX3_firstDifference 72 = .ok (.iload_n 2, 1) := by decide +kernel
theorem dX3_firstDifference_73 : decode cX3_firstDifference 73 = .ok (.iaload, 1) := by decide +kernel
theorem dX3_firstDifference_74 : decode cX3_firstDifference 74 = .ok (.if_icmp .ge 7, 3) := by decide +kernel
theorem dX3_firstDifference_77 : decode cX3_firstDifference 77 = .ok (.iconst 1, 1) := by decide +kernel
theorem dX3_firstDifference_78 : decode cX3_firstDifference 78 = .ok (.goto 4, 3) := by decide +kernel
theorem dX3_firstDifference_81 : decode cX3_firstDifference 81 = .ok (.iconst 0, 1) := by decide +kernel
theorem dX3_firstDifference_82 : decode cX3_firstDifference 82 = .ok (.istore 6, 2) := by decide +kernel
theorem dX3_firstDifference_84 : decode cX3_firstDifference 84 = .ok (.aload_n 0, 1) := by decide +kernel
theorem dX3_firstDifference_85 : decode cX3_firstDifference 85 = .ok (.iload 5, 2) := by decide +kernel
theorem dX3_firstDifference_87 : decode cX3_firstDifference 87 = .ok (.ifCond .ne 8, 3) := by decide +kernel
theorem dX3_firstDifference_90 : decode cX3_firstDifference 90 = .ok (.iload 6, 2) := by decide +kernel
theorem dX3_firstDifference_92 : decode cX3_firstDifference 92 = .ok (.ifCond .eq 7, 3) := by decide +kernel
theorem dX3_firstDifference_95 : decode cX3_firstDifference 95 = .ok (.iconst 0, 1) := by decide +kernel
theorem dX3_firstDifference_96 : decode cX3_firstDifference 96 = .ok (.goto 4, 3) := by decide +kernel
theorem dX3_firstDifference_99 : decode cX3_firstDifference 99 = .ok (.iconst 2, 1) := by decide +kernel
theorem dX3_firstDifference_100 : decode cX3_firstDifference 100 = .ok (.putfield 29, 3) := by decide +kernel
theorem dX3_firstDifference_103 : decode cX3_firstDifference 103 = .ok (.aload_n 0, 1) := by decide +kernel
theorem dX3_firstDifference_104 : decode cX3_firstDifference 104 = .ok (.getfield 29, 3) := by decide +kernel
theorem dX3_firstDifference_107 : decode cX3_firstDifference 107 = .ok (.ifCond .le 5, 3) := by decide +kernel
theorem dX3_firstDifference_110 : decode cX3_firstDifference 110 = .ok (.iconst 0, 1) := by decide +kernel
theorem dX3_firstDifference_111 : decode cX3_firstDifference 111 = .ok (.ireturn, 1) := by decide +kernel
theorem dX3_firstDifference_112 : decode cX3_firstDifference 112 = .ok (.iload 5, 2) := by decide +kernel
theorem dX3_firstDifference_114 : decode cX3_firstDifference 114 = .ok (.ifCond .eq 18, 3) := by decide +kernel
theorem dX3_firstDifference_117 : decode cX3_firstDifference 117 = .ok (.aload_n 0, 1) := by decide +kernel
theorem dX3_firstDifference_118 : decode cX3_firstDifference 118 = .ok (.getfield 7, 3) := by decide +kernel
theorem dX3_firstDifference_121 : decode cX3_firstDifference 121 = .ok (.sipush 600, 3) := by decide +kernel
theorem dX3_firstDifference_124 : decode cX3_firstDifference 124 = .ok (.iload_n 1, 1) := by decide +kernel
theorem dX3_firstDifference_125 : decode cX3_firstDifference 125 = .ok (.imul, 1) := by decide +kernel
theorem dX3_firstDifference_126 : decode cX3_firstDifference 126 = .ok (.iload_n 3, 1) := by decide +kernel
theorem dX3_firstDifference_127 : decode cX3_firstDifference 127 = .ok (.iadd, 1) := by decide +kernel
theorem dX3_firstDifference_128 : decode cX3_firstDifference 128 = .ok (.iaload, 1) := by decide +kernel
theorem dX3_firstDifference_129 : decode cX3_firstDifference 129 = .ok (.goto 16, 3) := by decide +kernel
theorem dX3_firstDifference_132 : decode cX3_firstDifference 132 = .ok (.aload_n 0, 1) := by decide +kernel
theorem dX3_firstDifference_133 : decode cX3_firstDifference 133 = .ok (.getfield 7, 3) := by decide +kernel
theorem dX3_firstDifference_136 : decode cX3_firstDifference 136 = .ok (.sipush 600, 3) := by decide +kernel
theorem dX3_firstDifference_139 : decode cX3_firstDifference 139 = .ok (.iload_n 2, 1) := by decide +kernel
theorem dX3_firstDifference_140 : decode cX3_firstDifference 140 = .ok (.imul, 1) := by decide +kernel
theorem dX3_firstDifference_141 : decode cX3_firstDifference 141 = .ok (.iload 4, 2) := by decide +kernel
theorem dX3_firstDifference_143 : decode cX3_firstDifference 143 = .ok (.iadd, 1) := by decide +kernel
theorem dX3_firstDifference_144 : decode cX3_firstDifference 144 = .ok (.iaload, 1) := by decide +kernel
theorem dX3_firstDifference_145 : decode cX3_firstDifference 145 = .ok (.istore 7, 2) := by decide +kernel
theorem dX3_firstDifference_147 : decode cX3_firstDifference 147 = .ok (.iload 6, 2) := by decide +kernel
theorem dX3_firstDifference_149 : decode cX3_firstDifference 149 = .ok (.ifCond .eq 19, 3) := by decide +kernel
theorem dX3_firstDifference_152 : decode cX3_firstDifference 152 = .ok (.aload_n 0, 1) := by decide +kernel
theorem dX3_firstDifference_153 : decode cX3_firstDifference 153 = .ok (.getfield 7, 3) := by decide +kernel
theorem dX3_firstDifference_156 : decode cX3_firstDifference 156 = .ok (.sipush 600, 3) := by decide +kernel
theorem dX3_firstDifference_159 : decode cX3_firstDifference 159 = .ok (.iload_n 2, 1) := by decide +kernel
theorem dX3_firstDifference_160 : decode cX3_firstDifference 160 = .ok (.imul, 1) := by decide +kernel
theorem dX3_firstDifference_161 : decode cX3_firstDifference 161 = .ok (.iload 4, 2) := by decide +kernel
theorem dX3_firstDifference_163 : decode cX3_firstDifference 163 = .ok (.iadd, 1) := by decide +kernel
theorem dX3_firstDifference_164 : decode cX3_firstDifference 164 = .ok (.iaload, 1) := by decide +kernel
theorem dX3_firstDifference_165 : decode cX3_firstDifference 165 = .ok (.goto 5, 3) := by decide +kernel
theorem dX3_firstDifference_168 : decode cX3_firstDifference 168 = .ok (.iload 7, 2) := by decide +kernel
theorem dX3_firstDifference_170 : decode cX3_firstDifference 170 = .ok (.istore 8, 2) := by decide +kernel
theorem dX3_firstDifference_172 : decode cX3_firstDifference 172 = .ok (.iload 7, 2) := by decide +kernel
theorem dX3_firstDifference_174 : decode cX3_firstDifference 174 = .ok (.iload 8, 2) := by decide +kernel
theorem dX3_firstDifference_176 : decode cX3_firstDifference 176 = .ok (.if_icmp .ge 8, 3) := by decide +kernel
theorem dX3_firstDifference_179 : decode cX3_firstDifference 179 = .ok (.iload 7, 2) := by decide +kernel
theorem dX3_firstDifference_181 : decode cX3_firstDifference 181 = .ok (.goto 5, 3) := by decide +kernel
theorem dX3_firstDifference_184 : decode cX3_firstDifference 184 = .ok (.iload 8, 2) := by decide +kernel
theorem dX3_firstDifference_186 : decode cX3_firstDifference 186 = .ok (.ireturn, 1) := by decide +kernel
set_option maxRecDepth 20000 in
theorem ggX3_open_X3_spare : GoodIn wsX3_open wsX3_spare := goodIn_r _ [9, 2, 33, 34, 35, 36, 37, 38, 39] (by decide +kernel) (by decide +kernel)
set_option maxRecDepth 20000 in
theorem gX3_open_X3_spare : GoodIn wsX3_open (wsV RX3 61 RX3 yX3_spare wsX3_spare) := goodIn_app (goodIn_of _ (by decide +kernel)) ggX3_open_X3_spare
set_option maxRecDepth 20000 in
theorem ggX3_open_X3_isVersion : GoodIn wsX3_open wsX3_isVersion := goodIn_r _ [13, 2, 33, 34, 35, 36, 37, 38, 39] (by decide +kernel) (by decide +kernel)
set_option maxRecDepth 20000 in
theorem gX3_open_X3_isVersion : GoodIn wsX3_open (wsV RX3 41 RX3 yX3_isVersion wsX3_isVersion) := goodIn_app (goodIn_of _ (by decide +kernel)) ggX3_open_X3_isVersion
set_option maxRecDepth 20000 in
theorem ggX3_open_X3_copy : GoodIn wsX3_open wsX3_copy := goodIn_r _ [17, 18, 19, 20, 33, 34, 35, 36, 37, 38, 39] (by decide +kernel) (by decide +kernel)
set_option maxRecDepth 20000 in
theorem gX3_open_X3_copy : GoodIn wsX3_open (wsV RX3 64 RX3 yX3_copy wsX3_copy) := goodIn_app (goodIn_of _ (by decide +kernel)) ggX3_open_X3_copy
set_option maxRecDepth 20000 in
theorem ggX3_open_X3_upTo : GoodIn wsX3_open wsX3_upTo := goodIn_r _ [24, 25, 26, 27, 8, 28, 18, 19, 29, 30, 31, 32, 33, 34, 35, 36, 37, 38, 39] (by decide +kernel) (by decide +kernel)
set_option maxRecDepth 20000 in
theorem gX3_open_X3_upTo : GoodIn wsX3_open (wsV RX3 54 RX3 yX3_upTo wsX3_upTo) := goodIn_app (goodIn_of _ (by decide +kernel)) ggX3_open_X3_upTo
set_option maxRecDepth 20000 in
theorem ggX3_open_X3_below : GoodIn wsX3_open wsX3_below := goodIn_r _ [28, 18, 19, 33, 34, 35, 36, 37, 38, 39] (by decide +kernel) (by decide +kernel)
set_option maxRecDepth 20000 in
theorem gX3_open_X3_below : GoodIn wsX3_open (wsV RX3 33 RX3 yX3_below wsX3_below) := goodIn_app (goodIn_of _ (by decide +kernel)) ggX3_open_X3_below
theorem dX3_open_0 : decode cX3_open 0 = .ok (.aload_n 0, 1) := by decide +kernel
theorem dX3_open_1 : decode cX3_open 1 = .ok (.bipush 13, 2) := by decide +kernel
theorem dX3_open_3 : decode cX3_open 3 = .ok (.bipush 20, 2) := by decide +kernel
theorem dX3_open_5 : decode cX3_open 5 = .ok (.invokevirtual 61, 3) := by decide +kernel
theorem dX3_open_8 : decode cX3_open 8 = .ok (.istore 4, 2) := by decide +kernel
theorem dX3_open_10 : decode cX3_open 10 = .ok (.aload_n 0, 1) := by decide +kernel
theorem dX3_open_11 : decode cX3_open 11 = .ok (.aload_n 0, 1) := by decide +kernel
theorem dX3_open_12 : decode cX3_open 12 = .ok (.iload_n 1, 1) := by decide +kernel
theorem dX3_open_13 : decode cX3_open 13 = .ok (.invokevirtual 41, 3) := by decide +kernel
theorem dX3_open_16 : decode cX3_open 16 = .ok (.ifCond .ne 7, 3) := by decide +kernel
theorem dX3_open_19 : decode cX3_open 19 = .ok (.iconst 1, 1) := by decide +kernel
theorem dX3_open_20 : decode cX3_open 20 = .ok (.goto 13, 3) := by decide +kernel
theorem dX3_open_23 : decode cX3_open 23 = .ok (.iload 4, 2) := by decide +kernel
theorem dX3_open_25 : decode cX3_open 25 = .ok (.ifCond .ge 7, 3) := by decide +kernel
theorem dX3_open_28 : decode cX3_open 28 = .ok (.iconst 2, 1) := by decide +kernel
theorem dX3_open_29 : decode cX3_open 29 = .ok (.goto 4, 3) := by decide +kernel
theorem dX3_open_32 : decode cX3_open 32 = .ok (.iconst 0, 1) := by decide +kernel
theorem dX3_open_33 : decode cX3_open 33 = .ok (.putfield 29, 3) := by decide +kernel
theorem dX3_open_36 : decode cX3_open 36 = .ok (.aload_n 0, 1) := by decide +kernel
theorem dX3_open_37 : decode cX3_open 37 = .ok (.getfield 29, 3) := by decide +kernel
theorem dX3_open_40 : decode cX3_open 40 = .ok (.ifCond .le 5, 3) := by decide +kernel
theorem dX3_open_43 : decode cX3_open 43 = .ok (.iconst 0, 1) := by decide +kernel
theorem dX3_open_44 : decode cX3_open 44 = .ok (.ireturn, 1) := by decide +kernel
theorem dX3_open_45 : decode cX3_open 45 = .ok (.aload_n 0, 1) := by decide +kernel
theorem dX3_open_46 : decode cX3_open 46 = .ok (.getfield 19, 3) := by decide +kernel
theorem dX3_open_49 : decode cX3_open 49 = .ok (.iload 4, 2) := by decide +kernel
theorem dX3_open_51 : decode cX3_open 51 = .ok (.iconst 1, 1) := by decide +kernel
theorem dX3_open_52 : decode cX3_open 52 = .ok (.bastore, 1) := by decide +kernel
theorem dX3_open_53 : decode cX3_open 53 = .ok (.aload_n 0, 1) := by decide +kernel
theorem dX3_open_54 : decode cX3_open 54 = .ok (.iload_n 1, 1) := by decide +kernel
theorem dX3_open_55 : decode cX3_open 55 = .ok (.iload 4, 2) := by decide +kernel
theorem dX3_open_57 : decode cX3_open 57 = .ok (.invokevirtual 64, 3) := by decide +kernel
theorem dX3_open_60 : decode cX3_open 60 = .ok (.aload_n 0, 1) := by decide +kernel
theorem dX3_open_61 : decode cX3_open 61 = .ok (.getfield 23, 3) := by decide +kernel
theorem dX3_open_64 : decode cX3_open 64 = .ok (.iload 4, 2) := by decide +kernel
theorem dX3_open_66 : decode cX3_open 66 = .ok (.bipush 13, 2) := by decide +kernel
theorem dX3_open_68 : decode cX3_open 68 = .ok (.isub, 1) := by decide +kernel
theorem dX3_open_69 : decode cX3_open 69 = .ok (.iload_n 3, 1) := by decide +kernel
theorem dX3_open_70 : decode cX3_open 70 = .ok (.ifCond .eq 15, 3) := by decide +kernel
theorem dX3_open_73 : decode cX3_open 73 = .ok (.aload_n 0, 1) := by decide +kernel
theorem dX3_open_74 : decode cX3_open 74 = .ok (.iload 4, 2) := by decide +kernel
theorem dX3_open_76 : decode cX3_open 76 = .ok (.iload_n 2, 1) := by decide +kernel
theorem dX3_open_77 : decode cX3_open 77 = .ok (.invokevirtual 54, 3) := by decide +kernel
theorem dX3_open_80 : decode cX3_open 80 = .ok (.iconst 1, 1) := by decide +kernel
theorem dX3_open_81 : decode cX3_open 81 = .ok (.isub, 1) := by decide +kernel
theorem dX3_open_82 : decode cX3_open 82 = .ok (.goto 10, 3) := by decide +kernel
theorem dX3_open_85 : decode cX3_open 85 = .ok (.aload_n 0, 1) := by decide +kernel
theorem dX3_open_86 : decode cX3_open 86 = .ok (.iload 4, 2) := by decide +kernel
theorem dX3_open_88 : decode cX3_open 88 = .ok (.iload_n 2, 1) := by decide +kernel
theorem dX3_open_89 : decode cX3_open 89 = .ok (.invokevirtual 33, 3) := by decide +kernel
theorem dX3_open_92 : decode cX3_open 92 = .ok (.iastore, 1) := by decide +kernel
theorem dX3_open_93 : decode cX3_open 93 = .ok (.aload_n 0, 1) := by decide +kernel
theorem dX3_open_94 : decode cX3_open 94 = .ok (.getfield 26, 3) := by decide +kernel
theorem dX3_open_97 : decode cX3_open 97 = .ok (.iload 4, 2) := by decide +kernel
theorem dX3_open_99 : decode cX3_open 99 = .ok (.bipush 13, 2) := by decide +kernel
theorem dX3_open_101 : decode cX3_open 101 = .ok (.isub, 1) := by decide +kernel
theorem dX3_open_102 : decode cX3_open 102 = .ok (.iload_n 3, 1) := by decide +kernel
theorem dX3_open_103 : decode cX3_open 103 = .ok (.bastore, 1) := by decide +kernel
theorem dX3_open_104 : decode cX3_open 104 = .ok (.iload 4, 2) := by decide +kernel
theorem dX3_open_106 : decode cX3_open 106 = .ok (.bipush 13, 2) := by decide +kernel
theorem dX3_open_108 : decode cX3_open 108 = .ok (.isub, 1) := by decide +kernel
theorem dX3_open_109 : decode cX3_open 109 = .ok (.ireturn, 1) := by decide +kernel
theorem dX3_isAtEnd_0 : decode cX3_isAtEnd 0 = .ok (.aload_n 0, 1) := by decide +kernel
theorem dX3_isAtEnd_1 : decode cX3_isAtEnd 1 = .ok (.getfield 23, 3) := by decide +kernel
theorem dX3_isAtEnd_4 : decode cX3_isAtEnd 4 = .ok (.iload_n 1, 1) := by decide +kernel
theorem dX3_isAtEnd_5 : decode cX3_isAtEnd 5 = .ok (.iaload, 1) := by decide +kernel
theorem dX3_isAtEnd_6 : decode cX3_isAtEnd 6 = .ok (.ifCond .lt 21, 3) := by decide +kernel
theorem dX3_isAtEnd_9 : decode cX3_isAtEnd 9 = .ok (.aload_n 0, 1) := by decide +kernel
theorem dX3_isAtEnd_10 : decode cX3_isAtEnd 10 = .ok (.getfield 23, 3) := by decide +kernel
theorem dX3_isAtEnd_13 : decode cX3_isAtEnd 13 = .ok (.iload_n 1, 1) := by decide +kernel
theorem dX3_isAtEnd_14 : decode cX3_isAtEnd 14 = .ok (.iaload, 1) := by decide +kernel
theorem dX3_isAtEnd_15 : decode cX3_isAtEnd 15 = .ok (.aload_n 0, 1) := by decide +kernel
theorem dX3_isAtEnd_16 : decode cX3_isAtEnd 16 = .ok (.getfield 16, 3) := by decide +kernel
theorem dX3_isAtEnd_19 : decode cX3_isAtEnd 19 = .ok (.bipush 13, 2) := by decide +kernel
theorem dX3_isAtEnd_21 : decode cX3_isAtEnd 21 = .ok (.iload_n 1, 1) := by decide +kernel
theorem dX3_isAtEnd_22 : decode cX3_isAtEnd 22 = .ok (.iadd, 1) := by decide +kernel
theorem dX3_isAtEnd_23 : decode cX3_isAtEnd 23 = .ok (.iaload, 1) := by decide +kernel
theorem dX3_isAtEnd_24 : decode cX3_isAtEnd 24 = .ok (.if_icmp .lt 7, 3) := by decide +kernel
theorem dX3_isAtEnd_27 : decode cX3_isAtEnd 27 = .ok (.iconst 1, 1) := by decide +kernel
theorem dX3_isAtEnd_28 : decode cX3_isAtEnd 28 = .ok (.goto 4, 3) := by decide +kernel
theorem dX3_isAtEnd_31 : decode cX3_isAtEnd 31 = .ok (.iconst 0, 1) := by decide +kernel
theorem dX3_isAtEnd_32 : decode cX3_isAtEnd 32 = .ok (.ireturn, 1) := by decide +kernel
theorem dX3_goOn_0 : decode cX3_goOn 0 = .ok (.aload_n 0, 1) := by decide +kernel
theorem dX3_goOn_1 : decode cX3_goOn 1 = .ok (.getfield 23, 3) := by decide +kernel
theorem dX3_goOn_4 : decode cX3_goOn 4 = .ok (.iload_n 1, 1) := by decide +kernel
theorem dX3_goOn_5 : decode cX3_goOn 5 = .ok (.dup2, 1) := by decide +kernel
theorem dX3_goOn_6 : decode cX3_goOn 6 = .ok (.iaload, 1) := by decide +kernel
theorem dX3_goOn_7 : decode cX3_goOn 7 = .ok (.aload_n 0, 1) := by decide +kernel
theorem dX3_goOn_8 : decode cX3_goOn 8 = .ok (.getfield 26, 3) := by decide +kernel
theorem dX3_goOn_11 : decode cX3_goOn 11 = .ok (.iload_n 1, 1) := by decide +kernel
theorem dX3_goOn_12 : decode cX3_goOn 12 = .ok (.baload, 1) := by decide +kernel
theorem dX3_goOn_13 : decode cX3_goOn 13 = .ok (.ifCond .eq 7, 3) := by decide +kernel
theorem dX3_goOn_16 : decode cX3_goOn 16 = .ok (.iconst (-1), 1) := by decide +kernel
theorem dX3_goOn_17 : decode cX3_goOn 17 = .ok (.goto 4, 3) := by decide +kernel
theorem dX3_goOn_20 : decode cX3_goOn 20 = .ok (.iconst 1, 1) := by decide +kernel
theorem dX3_goOn_21 : decode cX3_goOn 21 = .ok (.iadd, 1) := by decide +kernel
theorem dX3_goOn_22 : decode cX3_goOn 22 = .ok (.iastore, 1) := by decide +kernel
theorem dX3_goOn_23 : decode cX3_goOn 23 = .ok (.return_, 1) := by decide +kernel
set_option maxRecDepth 20000 in
theorem ggX3_next_X3_isCursor : GoodIn wsX3_next wsX3_isCursor := goodIn_r _ [8, 9, 20, 21, 22, 23, 24, 25, 26] (by decide +kernel) (by decide +kernel)
set_option maxRecDepth 20000 in
theorem gX3_next_X3_isCursor : GoodIn wsX3_next (wsV RX3 78 RX3 yX3_isCursor wsX3_isCursor) := goodIn_app (goodIn_of _ (by decide +kernel)) ggX3_next_X3_isCursor
set_option maxRecDepth 20000 in
theorem ggX3_next_X3_isAtEnd : GoodIn wsX3_next wsX3_isAtEnd := goodIn_r _ [13, 3, 14, 20, 21, 22, 23, 24, 25, 26] (by decide +kernel) (by decide +kernel)
set_option maxRecDepth 20000 in
theorem gX3_next_X3_isAtEnd : GoodIn wsX3_next (wsV RX3 81 RX3 yX3_isAtEnd wsX3_isAtEnd) := goodIn_app (goodIn_of _ (by decide +kernel)) ggX3_next_X3_isAtEnd
set_option maxRecDepth 20000 in
theorem ggX3_next_X3_goOn : GoodIn wsX3_next wsX3_goOn := goodIn_r _ [18, 3, 19, 20, 21, 22, 23, 24, 25, 26] (by decide +kernel) (by decide +kernel)
set_option maxRecDepth 20000 in
theorem gX3_next_X3_goOn : GoodIn wsX3_next (wsV RX3 84 RX3 yX3_goOn wsX3_goOn) := goodIn_app (goodIn_of _ (by decide +kernel)) ggX3_next_X3_goOn
theorem dX3_next_0 : decode cX3_next 0 = .ok (.aload_n 0, 1) := by decide +kernel
theorem dX3_next_1 : decode cX3_next 1 = .ok (.aload_n 0, 1) := by decide +kernel
theorem dX3_next_2 : decode cX3_next 2 = .ok (.iload_n 1, 1) := by decide +kernel
theorem dX3_next_3 : decode cX3_next 3 = .ok (.invokevirtual 78, 3) := by decide +kernel
theorem dX3_next_6 : decode cX3_next 6 = .ok (.ifCond .ne 7, 3) := by decide +kernel
theorem dX3_next_9 : decode cX3_next 9 = .ok (.iconst 1, 1) := by decide +kernel
theorem dX3_next_10 : decode cX3_next 10 = .ok (.goto 16, 3) := by decide +kernel
theorem dX3_next_13 : decode cX3_next 13 = .ok (.aload_n 0, 1) := by decide +kernel
theorem dX3_next_14 : decode cX3_next 14 = .ok (.iload_n 1, 1) := by decide +kernel
theorem dX3_next_15 : decode cX3_next 15 = .ok (.invokevirtual 81, 3) := by decide +kernel
theorem dX3_next_18 : decode cX3_next 18 = .ok (.ifCond .eq 7, 3) := by decide +kernel
theorem dX3_next_21 : decode cX3_next 21 = .ok (.iconst 2, 1) := by decide +kernel
theorem dX3_next_22 : decode cX3_next 22 = .ok (.goto 4, 3) := by decide +kernel
theorem dX3_next_25 : decode cX3_next 25 = .ok (.iconst 0, 1) := by decide +kernel
theorem dX3_next_26 : decode cX3_next 26 = .ok (.putfield 29, 3) := by decide +kernel
theorem dX3_next_29 : decode cX3_next 29 = .ok (.aload_n 0, 1) := by decide +kernel
theorem dX3_next_30 : decode cX3_next 30 = .ok (.getfield 29, 3) := by decide +kernel
theorem dX3_next_33 : decode cX3_next 33 = .ok (.ifCond .le 5, 3) := by decide +kernel
theorem dX3_next_36 : decode cX3_next 36 = .ok (.iconst 0, 1) := by decide +kernel
theorem dX3_next_37 : decode cX3_next 37 = .ok (.ireturn, 1) := by decide +kernel
theorem dX3_next_38 : decode cX3_next 38 = .ok (.aload_n 0, 1) := by decide +kernel
theorem dX3_next_39 : decode cX3_next 39 = .ok (.getfield 7, 3) := by decide +kernel
theorem dX3_next_42 : decode cX3_next 42 = .ok (.sipush 600, 3) := by decide +kernel
theorem dX3_next_45 : decode cX3_next 45 = .ok (.bipush 13, 2) := by decide +kernel
theorem dX3_next_47 : decode cX3_next 47 = .ok (.iload_n 1, 1) := by decide +kernel
theorem dX3_next_48 : decode cX3_next 48 = .ok (.iadd, 1) := by decide +kernel
theorem dX3_next_49 : decode cX3_next 49 = .ok (.imul, 1) := by decide +kernel
theorem dX3_next_50 : decode cX3_next 50 = .ok (.aload_n 0, 1) := by decide +kernel
theorem dX3_next_51 : decode cX3_next 51 = .ok (.getfield 23, 3) := by decide +kernel
theorem dX3_next_54 : decode cX3_next 54 = .ok (.iload_n 1, 1) := by decide +kernel
theorem dX3_next_55 : decode cX3_next 55 = .ok (.iaload, 1) := by decide +kernel
theorem dX3_next_56 : decode cX3_next 56 = .ok (.iadd, 1) := by decide +kernel
theorem dX3_next_57 : decode cX3_next 57 = .ok (.iaload, 1) := by decide +kernel
theorem dX3_next_58 : decode cX3_next 58 = .ok (.istore_n 2, 1) := by decide +kernel
theorem dX3_next_59 : decode cX3_next 59 = .ok (.aload_n 0, 1) := by decide +kernel
theorem dX3_next_60 : decode cX3_next 60 = .ok (.iload_n 1, 1) := by decide +kernel
theorem dX3_next_61 : decode cX3_next 61 = .ok (.invokevirtual 84, 3) := by decide +kernel
theorem dX3_next_64 : decode cX3_next 64 = .ok (.iload_n 2, 1) := by decide +kernel
theorem dX3_next_65 : decode cX3_next 65 = .ok (.ireturn, 1) := by decide +kernel
set_option maxRecDepth 20000 in
theorem ggX3_skip_X3_isCursor : GoodIn wsX3_skip wsX3_isCursor := goodIn_r _ [6, 7, 19, 20, 21, 22, 23, 24, 25] (by decide +kernel) (by decide +kernel)
set_option maxRecDepth 20000 in
theorem gX3_skip_X3_isCursor : GoodIn wsX3_skip (wsV RX3 78 RX3 yX3_isCursor wsX3_isCursor) := goodIn_app (goodIn_of _ (by decide +kernel)) ggX3_skip_X3_isCursor
set_option maxRecDepth 20000 in
theorem ggX3_skip_X3_isAtEnd : GoodIn wsX3_skip wsX3_isAtEnd := goodIn_r _ [11, 12, 13, 19, 20, 21, 22, 23, 24, 25] (by decide +kernel) (by decide +kernel)
set_option maxRecDepth 20000 in
theorem gX3_skip_X3_isAtEnd : GoodIn wsX3_skip (wsV RX3 81 RX3 yX3_isAtEnd wsX3_isAtEnd) := goodIn_app (goodIn_of _ (by decide +kernel)) ggX3_skip_X3_isAtEnd
set_option maxRecDepth 20000 in
theorem ggX3_skip_X3_goOn : GoodIn wsX3_skip wsX3_goOn := goodIn_r _ [17, 12, 18, 19, 20, 21, 22, 23, 24, 25] (by decide +kernel) (by decide +kernel)
set_option maxRecDepth 20000 in
theorem gX3_skip_X3_goOn : GoodIn wsX3_skip (wsV RX3 84 RX3 yX3_goOn wsX3_goOn) := goodIn_app (goodIn_of _ (by decide +kernel)) ggX3_skip_X3_goOn
theorem dX3_skip_0 : decode cX3_skip 0 = .ok (.aload_n 0, 1) := by decide +kernel
theorem dX3_skip_1 : decode cX3_skip 1 = .ok (.aload_n 0, 1) := by decide +kernel
theorem dX3_skip_2 : decode cX3_skip 2 = .ok (.iload_n 1, 1) := by decide +kernel
theorem dX3_skip_3 : decode cX3_skip 3 = .ok (.invokevirtual 78, 3) := by decide +kernel
theorem dX3_skip_6 : decode cX3_skip 6 = .ok (.ifCond .ne 7, 3) := by decide +kernel
theorem dX3_skip_9 : decode cX3_skip 9 = .ok (.iconst 1, 1) := by decide +kernel
theorem dX3_skip_10 : decode cX3_skip 10 = .ok (.goto 12, 3) := by decide +kernel
theorem dX3_skip_13 : decode cX3_skip 13 = .ok (.iload_n 2, 1) := by decide +kernel
theorem dX3_skip_14 : decode cX3_skip 14 = .ok (.ifCond .ge 7, 3) := by decide +kernel
theorem dX3_skip_17 : decode cX3_skip 17 = .ok (.iconst 2, 1) := by decide +kernel
theorem dX3_skip_18 : decode cX3_skip 18 = .ok (.goto 4, 3) := by decide +kernel
theorem dX3_skip_21 : decode cX3_skip 21 = .ok (.iconst 0, 1) := by decide +kernel
theorem dX3_skip_22 : decode cX3_skip 22 = .ok (.putfield 29, 3) := by decide +kernel
theorem dX3_skip_25 : decode cX3_skip 25 = .ok (.iconst 0, 1) := by decide +kernel
theorem dX3_skip_26 : decode cX3_skip 26 = .ok (.istore_n 3, 1) := by decide +kernel
theorem dX3_skip_27 : decode cX3_skip 27 = .ok (.aload_n 0, 1) := by decide +kernel
theorem dX3_skip_28 : decode cX3_skip 28 = .ok (.getfield 29, 3) := by decide +kernel
theorem dX3_skip_31 : decode cX3_skip 31 = .ok (.ifCond .ne 27, 3) := by decide +kernel
theorem dX3_skip_34 : decode cX3_skip 34 = .ok (.iload_n 3, 1) := by decide +kernel
theorem dX3_skip_35 : decode cX3_skip 35 = .ok (.iload_n 2, 1) := by decide +kernel
theorem dX3_skip_36 : decode cX3_skip 36 = .ok (.if_icmp .ge 22, 3) := by decide +kernel
theorem dX3_skip_39 : decode cX3_skip 39 = .ok (.aload_n 0, 1) := by decide +kernel
theorem dX3_skip_40 : decode cX3_skip 40 = .ok (.iload_n 1, 1) := by decide +kernel
theorem dX3_skip_41 : decode cX3_skip 41 = .ok (.invokevirtual 81, 3) := by decide +kernel
theorem dX3_skip_44 : decode cX3_skip 44 = .ok (.ifCond .ne 14, 3) := by decide +kernel
theorem dX3_skip_47 : decode cX3_skip 47 = .ok (.aload_n 0, 1) := by decide +kernel
theorem dX3_skip_48 : decode cX3_skip 48 = .ok (.iload_n 1, 1) := by decide +kernel
theorem dX3_skip_49 : decode cX3_skip 49 = .ok (.invokevirtual 84, 3) := by decide +kernel
theorem dX3_skip_52 : decode cX3_skip 52 = .ok (.iinc 3 1, 3) := by decide +kernel
theorem dX3_skip_55 : decode cX3_skip 55 = .ok (.goto (-28), 3) := by decide +kernel
theorem dX3_skip_58 : decode cX3_skip 58 = .ok (.iload_n 3, 1) := by decide +kernel
theorem dX3_skip_59 : decode cX3_skip 59 = .ok (.ireturn, 1) := by decide +kernel
set_option maxRecDepth 20000 in
theorem ggX3_peek_X3_isCursor : GoodIn wsX3_peek wsX3_isCursor := goodIn_r _ [8, 9, 15, 16, 17, 18, 19, 20, 21] (by decide +kernel) (by decide +kernel)
set_option maxRecDepth 20000 in
theorem gX3_peek_X3_isCursor : GoodIn wsX3_peek (wsV RX3 78 RX3 yX3_isCursor wsX3_isCursor) := goodIn_app (goodIn_of _ (by decide +kernel)) ggX3_peek_X3_isCursor
set_option maxRecDepth 20000 in
theorem ggX3_peek_X3_isAtEnd : GoodIn wsX3_peek wsX3_isAtEnd := goodIn_r _ [13, 3, 14, 15, 16, 17, 18, 19, 20, 21] (by decide +kernel) (by decide +kernel)
set_option maxRecDepth 20000 in
theorem gX3_peek_X3_isAtEnd : GoodIn wsX3_peek (wsV RX3 81 RX3 yX3_isAtEnd wsX3_isAtEnd) := goodIn_app (goodIn_of _ (by decide +kernel)) ggX3_peek_X3_isAtEnd
theorem dX3_peek_0 : decode cX3_peek 0 = .ok (.aload_n 0, 1) := by decide +kernel
theorem dX3_peek_1 : decode cX3_peek 1 = .ok (.aload_n 0, 1) := by decide +kernel
theorem dX3_peek_2 : decode cX3_peek 2 = .ok (.iload_n 1, 1) := by decide +kernel
theorem dX3_peek_3 : decode cX3_peek 3 = .ok (.invokevirtual 78, 3) := by decide +kernel
theorem dX3_peek_6 : decode cX3_peek 6 = .ok (.ifCond .ne 7, 3) := by decide +kernel
theorem dX3_peek_9 : decode cX3_peek 9 = .ok (.iconst 1, 1) := by decide +kernel
theorem dX3_peek_10 : decode cX3_peek 10 = .ok (.goto 16, 3) := by decide +kernel
theorem dX3_peek_13 : decode cX3_peek 13 = .ok (.aload_n 0, 1) := by decide +kernel
theorem dX3_peek_14 : decode cX3_peek 14 = .ok (.iload_n 1, 1) := by decide +kernel
theorem dX3_peek_15 : decode cX3_peek 15 = .ok (.invokevirtual 81, 3) := by decide +kernel
theorem dX3_peek_18 : decode cX3_peek 18 = .ok (.ifCond .eq 7, 3) := by decide +kernel
theorem dX3_peek_21 : decode cX3_peek 21 = .ok (.iconst 2, 1) := by decide +kernel
theorem dX3_peek_22 : decode cX3_peek 22 = .ok (.goto 4, 3) := by decide +kernel
theorem dX3_peek_25 : decode cX3_peek 25 = .ok (.iconst 0, 1) := by decide +kernel
theorem dX3_peek_26 : decode cX3_peek 26 = .ok (.putfield 29, 3) := by decide +kernel
theorem dX3_peek_29 : decode cX3_peek 29 = .ok (.aload_n 0, 1) := by decide +kernel
theorem dX3_peek_30 : decode cX3_peek 30 = .ok (.getfield 29, 3) := by decide +kernel
theorem dX3_peek_33 : decode cX3_peek 33 = .ok (.ifCond .le 7, 3) := by decide +kernel
theorem dX3_peek_36 : decode cX3_peek 36 = .ok (.iconst 0, 1) := by decide +kernel
theorem dX3_peek_37 : decode cX3_peek 37 = .ok (.goto 23, 3) := by decide +kernel
theorem dX3_peek_40 : decode cX3_peek 40 = .ok (.aload_n 0, 1) := by decide +kernel
theorem dX3_peek_41 : decode cX3_peek 41 = .ok (.getfield 13, 3) := by decide +kernel
theorem dX3_peek_44 : decode cX3_peek 44 = .ok (.sipush 600, 3) := by decide +kernel
theorem dX3_peek_47 : decode cX3_peek 47 = .ok (.bipush 13, 2) := by decide +kernel
theorem dX3_peek_49 : decode cX3_peek 49 = .ok (.iload_n 1, 1) := by decide +kernel
theorem dX3_peek_50 : decode cX3_peek 50 = .ok (.iadd, 1) := by decide +kernel
theorem dX3_peek_51 : decode cX3_peek 51 = .ok (.imul, 1) := by decide +kernel
theorem dX3_peek_52 : decode cX3_peek 52 = .ok (.aload_n 0, 1) := by decide +kernel
theorem dX3_peek_53 : decode cX3_peek 53 = .ok (.getfield 23, 3) := by decide +kernel
theorem dX3_peek_56 : decode cX3_peek 56 = .ok (.iload_n 1, 1) := by decide +kernel
theorem dX3_peek_57 : decode cX3_peek 57 = .ok (.iaload, 1) := by decide +kernel
theorem dX3_peek_58 : decode cX3_peek 58 = .ok (.iadd, 1) := by decide +kernel
theorem dX3_peek_59 : decode cX3_peek 59 = .ok (.iaload, 1) := by decide +kernel
theorem dX3_peek_60 : decode cX3_peek 60 = .ok (.ireturn, 1) := by decide +kernel
set_option maxRecDepth 20000 in
theorem ggX3_close_X3_isCursor : GoodIn wsX3_close wsX3_isCursor := goodIn_r _ [7, 2, 8, 9, 10, 11, 12, 13, 14] (by decide +kernel) (by decide +kernel)
set_option maxRecDepth 20000 in
theorem gX3_close_X3_isCursor : GoodIn wsX3_close (wsV RX3 78 RX3 yX3_isCursor wsX3_isCursor) := goodIn_app (goodIn_of _ (by decide +kernel)) ggX3_close_X3_isCursor
theorem dX3_close_0 : decode cX3_close 0 = .ok (.aload_n 0, 1) := by decide +kernel
theorem dX3_close_1 : decode cX3_close 1 = .ok (.aload_n 0, 1) := by decide +kernel
theorem dX3_close_2 : decode cX3_close 2 = .ok (.iload_n 1, 1) := by decide +kernel
theorem dX3_close_3 : decode cX3_close 3 = .ok (.invokevirtual 78, 3) := by decide +kernel
theorem dX3_close_6 : decode cX3_close 6 = .ok (.ifCond .eq 7, 3) := by decide +kernel
theorem dX3_close_9 : decode cX3_close 9 = .ok (.iconst 0, 1) := by decide +kernel
theorem dX3_close_10 : decode cX3_close 10 = .ok (.goto 4, 3) := by decide +kernel
theorem dX3_close_13 : decode cX3_close 13 = .ok (.iconst 1, 1) := by decide +kernel
theorem dX3_close_14 : decode cX3_close 14 = .ok (.putfield 29, 3) := by decide +kernel
theorem dX3_close_17 : decode cX3_close 17 = .ok (.aload_n 0, 1) := by decide +kernel
theorem dX3_close_18 : decode cX3_close 18 = .ok (.getfield 29, 3) := by decide +kernel
theorem dX3_close_21 : decode cX3_close 21 = .ok (.ifCond .le 5, 3) := by decide +kernel
theorem dX3_close_24 : decode cX3_close 24 = .ok (.iconst 0, 1) := by decide +kernel
theorem dX3_close_25 : decode cX3_close 25 = .ok (.ireturn, 1) := by decide +kernel
theorem dX3_close_26 : decode cX3_close 26 = .ok (.aload_n 0, 1) := by decide +kernel
theorem dX3_close_27 : decode cX3_close 27 = .ok (.getfield 19, 3) := by decide +kernel
theorem dX3_close_30 : decode cX3_close 30 = .ok (.bipush 13, 2) := by decide +kernel
theorem dX3_close_32 : decode cX3_close 32 = .ok (.iload_n 1, 1) := by decide +kernel
theorem dX3_close_33 : decode cX3_close 33 = .ok (.iadd, 1) := by decide +kernel
theorem dX3_close_34 : decode cX3_close 34 = .ok (.iconst 0, 1) := by decide +kernel
theorem dX3_close_35 : decode cX3_close 35 = .ok (.bastore, 1) := by decide +kernel
theorem dX3_close_36 : decode cX3_close 36 = .ok (.iconst 0, 1) := by decide +kernel
theorem dX3_close_37 : decode cX3_close 37 = .ok (.istore_n 2, 1) := by decide +kernel
theorem dX3_close_38 : decode cX3_close 38 = .ok (.iconst 0, 1) := by decide +kernel
theorem dX3_close_39 : decode cX3_close 39 = .ok (.istore_n 3, 1) := by decide +kernel
theorem dX3_close_40 : decode cX3_close 40 = .ok (.iload_n 3, 1) := by decide +kernel
theorem dX3_close_41 : decode cX3_close 41 = .ok (.bipush 8, 2) := by decide +kernel
theorem dX3_close_43 : decode cX3_close 43 = .ok (.if_icmp .ge 29, 3) := by decide +kernel
theorem dX3_close_46 : decode cX3_close 46 = .ok (.iload_n 2, 1) := by decide +kernel
theorem dX3_close_47 : decode cX3_close 47 = .ok (.aload_n 0, 1) := by decide +kernel
theorem dX3_close_48 : decode cX3_close 48 = .ok (.getfield 19, 3) := by decide +kernel
theorem dX3_close_51 : decode cX3_close 51 = .ok (.bipush 13, 2) := by decide +kernel
theorem dX3_close_53 : decode cX3_close 53 = .ok (.iload_n 3, 1) := by decide +kernel
theorem dX3_close_54 : decode cX3_close 54 = .ok (.iadd, 1) := by decide +kernel
theorem dX3_close_55 : decode cX3_close 55 = .ok (.baload, 1) := by decide +kernel
theorem dX3_close_56 : decode cX3_close 56 = .ok (.ifCond .eq 7, 3) := by decide +kernel
theorem dX3_close_59 : decode cX3_close 59 = .ok (.iconst 1, 1) := by decide +kernel
theorem dX3_close_60 : decode cX3_close 60 = .ok (.goto 4, 3) := by decide +kernel
theorem dX3_close_63 : decode cX3_close 63 = .ok (.iconst 0, 1) := by decide +kernel
theorem dX3_close_64 : decode cX3_close 64 = .ok (.iadd, 1) := by decide +kernel
theorem dX3_close_65 : decode cX3_close 65 = .ok (.istore_n 2, 1) := by decide +kernel
theorem dX3_close_66 : decode cX3_close 66 = .ok (.iinc 3 1, 3) := by decide +kernel
theorem dX3_close_69 : decode cX3_close 69 = .ok (.goto (-29), 3) := by decide +kernel
theorem dX3_close_72 : decode cX3_close 72 = .ok (.iload_n 2, 1) := by decide +kernel
theorem dX3_close_73 : decode cX3_close 73 = .ok (.ireturn, 1) := by decide +kernel
theorem dX3_astray_0 : decode cX3_astray 0 = .ok (.aload_n 0, 1) := by decide +kernel
theorem dX3_astray_1 : decode cX3_astray 1 = .ok (.iconst 0, 1) := by decide +kernel
theorem dX3_astray_2 : decode cX3_astray 2 = .ok (.putfield 29, 3) := by decide +kernel
theorem dX3_astray_5 : decode cX3_astray 5 = .ok (.iconst 0, 1) := by decide +kernel
theorem dX3_astray_6 : decode cX3_astray 6 = .ok (.ireturn, 1) := by decide +kernel

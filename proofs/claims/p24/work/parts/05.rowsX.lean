set_option maxRecDepth 20000 in
theorem ggX0_init_X5_init : GoodIn wsX0_init wsX5_init := goodIn_r _ [13, 14, 2, 3, 15, 16, 17] (by decide +kernel) (by decide +kernel)
set_option maxRecDepth 20000 in
theorem gX0_init_X5_init : GoodIn wsX0_init (wsX5_init) := ggX0_init_X5_init
theorem dX0_init_0 : decode cX0_init 0 = .ok (.aload_n 0, 1) := by decide +kernel
theorem dX0_init_1 : decode cX0_init 1 = .ok (.invokespecial 3, 3) := by decide +kernel
theorem dX0_init_4 : decode cX0_init 4 = .ok (.aload_n 0, 1) := by decide +kernel
theorem dX0_init_5 : decode cX0_init 5 = .ok (.new 9, 3) := by decide +kernel
theorem dX0_init_8 : decode cX0_init 8 = .ok (.dup, 1) := by decide +kernel
theorem dX0_init_9 : decode cX0_init 9 = .ok (.sipush 1000, 3) := by decide +kernel
theorem dX0_init_12 : decode cX0_init 12 = .ok (.invokespecial 11, 3) := by decide +kernel
theorem dX0_init_15 : decode cX0_init 15 = .ok (.putfield 14, 3) := by decide +kernel
theorem dX0_init_18 : decode cX0_init 18 = .ok (.aload_n 0, 1) := by decide +kernel
theorem dX0_init_19 : decode cX0_init 19 = .ok (.new 9, 3) := by decide +kernel
theorem dX0_init_22 : decode cX0_init 22 = .ok (.dup, 1) := by decide +kernel
theorem dX0_init_23 : decode cX0_init 23 = .ok (.sipush 1000, 3) := by decide +kernel
theorem dX0_init_26 : decode cX0_init 26 = .ok (.invokespecial 11, 3) := by decide +kernel
theorem dX0_init_29 : decode cX0_init 29 = .ok (.putfield 20, 3) := by decide +kernel
theorem dX0_init_32 : decode cX0_init 32 = .ok (.aload_n 0, 1) := by decide +kernel
theorem dX0_init_33 : decode cX0_init 33 = .ok (.lconst 0, 1) := by decide +kernel
theorem dX0_init_34 : decode cX0_init 34 = .ok (.putfield 23, 3) := by decide +kernel
theorem dX0_init_37 : decode cX0_init 37 = .ok (.aload_n 0, 1) := by decide +kernel
theorem dX0_init_38 : decode cX0_init 38 = .ok (.aload_n 1, 1) := by decide +kernel
theorem dX0_init_39 : decode cX0_init 39 = .ok (.putfield 27, 3) := by decide +kernel
theorem dX0_init_42 : decode cX0_init 42 = .ok (.return_, 1) := by decide +kernel
theorem dX0_owed_0 : decode cX0_owed 0 = .ok (.aload_n 0, 1) := by decide +kernel
theorem dX0_owed_1 : decode cX0_owed 1 = .ok (.getfield 23, 3) := by decide +kernel
theorem dX0_owed_4 : decode cX0_owed 4 = .ok (.lreturn, 1) := by decide +kernel
theorem dX0_owe_0 : decode cX0_owe 0 = .ok (.aload_n 0, 1) := by decide +kernel
theorem dX0_owe_1 : decode cX0_owe 1 = .ok (.dup, 1) := by decide +kernel
theorem dX0_owe_2 : decode cX0_owe 2 = .ok (.getfield 23, 3) := by decide +kernel
theorem dX0_owe_5 : decode cX0_owe 5 = .ok (.lload_n 1, 1) := by decide +kernel
theorem dX0_owe_6 : decode cX0_owe 6 = .ok (.ladd, 1) := by decide +kernel
theorem dX0_owe_7 : decode cX0_owe 7 = .ok (.putfield 23, 3) := by decide +kernel
theorem dX0_owe_10 : decode cX0_owe 10 = .ok (.return_, 1) := by decide +kernel
set_option maxRecDepth 20000 in
theorem ggX0_putRight_X5_get : GoodIn wsX0_putRight wsX5_get := goodIn_r _ [8, 9, 29] (by decide +kernel) (by decide +kernel)
set_option maxRecDepth 20000 in
theorem gX0_putRight_X5_get : GoodIn wsX0_putRight (wsV RX0 30 RX5 yX5_get wsX5_get) := goodIn_app (goodIn_of _ (by decide +kernel)) ggX0_putRight_X5_get
set_option maxRecDepth 20000 in
theorem ggX0_putRight_X0_takeBack : GoodIn wsX0_putRight wsX0_takeBack := goodIn_r _ [14, 2, 3, 1, 4, 5, 6, 7, 8, 9, 15, 16, 17, 18, 19, 20, 21, 22, 23, 24, 25, 26, 27, 28, 29] (by decide +kernel) (by decide +kernel)
set_option maxRecDepth 20000 in
theorem gX0_putRight_X0_takeBack : GoodIn wsX0_putRight (wsV RX0 34 RX0 yX0_takeBack wsX0_takeBack) := goodIn_app (goodIn_of _ (by decide +kernel)) ggX0_putRight_X0_takeBack
set_option maxRecDepth 20000 in
theorem ggX0_putRight_X5_set : GoodIn wsX0_putRight wsX5_set := goodIn_r _ [23, 9, 29] (by decide +kernel) (by decide +kernel)
set_option maxRecDepth 20000 in
theorem gX0_putRight_X5_set : GoodIn wsX0_putRight (wsV RX0 37 RX5 yX5_set wsX5_set) := goodIn_app (goodIn_of _ (by decide +kernel)) ggX0_putRight_X5_set
set_option maxRecDepth 20000 in
theorem ggX0_putRight_X5_add : GoodIn wsX0_putRight wsX5_add := goodIn_r _ [18, 19, 5, 6, 7, 8, 9, 20, 21, 22, 23, 29] (by decide +kernel) (by decide +kernel)
set_option maxRecDepth 20000 in
theorem gX0_putRight_X5_add : GoodIn wsX0_putRight (wsV RX0 41 RX5 yX5_add wsX5_add) := goodIn_app (goodIn_of _ (by decide +kernel)) ggX0_putRight_X5_add
theorem dX0_putRight_0 : decode cX0_putRight 0 = .ok (.aload_n 0, 1) := by decide +kernel
theorem dX0_putRight_1 : decode cX0_putRight 1 = .ok (.getfield 20, 3) := by decide +kernel
theorem dX0_putRight_4 : decode cX0_putRight 4 = .ok (.iload_n 1, 1) := by decide +kernel
theorem dX0_putRight_5 : decode cX0_putRight 5 = .ok (.invokevirtual 30, 3) := by decide +kernel
theorem dX0_putRight_8 : decode cX0_putRight 8 = .ok (.iload_n 2, 1) := by decide +kernel
theorem dX0_putRight_9 : decode cX0_putRight 9 = .ok (.i2l, 1) := by decide +kernel
theorem dX0_putRight_10 : decode cX0_putRight 10 = .ok (.lcmp, 1) := by decide +kernel
theorem dX0_putRight_11 : decode cX0_putRight 11 = .ok (.ifCond .ne 7, 3) := by decide +kernel
theorem dX0_putRight_14 : decode cX0_putRight 14 = .ok (.lconst 0, 1) := by decide +kernel
theorem dX0_putRight_15 : decode cX0_putRight 15 = .ok (.goto 8, 3) := by decide +kernel
theorem dX0_putRight_18 : decode cX0_putRight 18 = .ok (.aload_n 0, 1) := by decide +kernel
theorem dX0_putRight_19 : decode cX0_putRight 19 = .ok (.iload_n 1, 1) := by decide +kernel
theorem dX0_putRight_20 : decode cX0_putRight 20 = .ok (.invokevirtual 34, 3) := by decide +kernel
theorem dX0_putRight_23 : decode cX0_putRight 23 = .ok (.lstore 6, 2) := by decide +kernel
theorem dX0_putRight_25 : decode cX0_putRight 25 = .ok (.lload_n 3, 1) := by decide +kernel
theorem dX0_putRight_26 : decode cX0_putRight 26 = .ok (.aload_n 0, 1) := by decide +kernel
theorem dX0_putRight_27 : decode cX0_putRight 27 = .ok (.getfield 14, 3) := by decide +kernel
theorem dX0_putRight_30 : decode cX0_putRight 30 = .ok (.iload_n 1, 1) := by decide +kernel
theorem dX0_putRight_31 : decode cX0_putRight 31 = .ok (.invokevirtual 30, 3) := by decide +kernel
theorem dX0_putRight_34 : decode cX0_putRight 34 = .ok (.lsub, 1) := by decide +kernel
theorem dX0_putRight_35 : decode cX0_putRight 35 = .ok (.lstore 8, 2) := by decide +kernel
theorem dX0_putRight_37 : decode cX0_putRight 37 = .ok (.lload 8, 2) := by decide +kernel
theorem dX0_putRight_39 : decode cX0_putRight 39 = .ok (.lconst 0, 1) := by decide +kernel
theorem dX0_putRight_40 : decode cX0_putRight 40 = .ok (.lcmp, 1) := by decide +kernel
theorem dX0_putRight_41 : decode cX0_putRight 41 = .ok (.ifCond .le 11, 3) := by decide +kernel
theorem dX0_putRight_44 : decode cX0_putRight 44 = .ok (.iload 5, 2) := by decide +kernel
theorem dX0_putRight_46 : decode cX0_putRight 46 = .ok (.ifCond .ne 6, 3) := by decide +kernel
theorem dX0_putRight_49 : decode cX0_putRight 49 = .ok (.lconst 0, 1) := by decide +kernel
theorem dX0_putRight_50 : decode cX0_putRight 50 = .ok (.lstore 8, 2) := by decide +kernel
theorem dX0_putRight_52 : decode cX0_putRight 52 = .ok (.aload_n 0, 1) := by decide +kernel
theorem dX0_putRight_53 : decode cX0_putRight 53 = .ok (.getfield 20, 3) := by decide +kernel
theorem dX0_putRight_56 : decode cX0_putRight 56 = .ok (.iload_n 1, 1) := by decide +kernel
theorem dX0_putRight_57 : decode cX0_putRight 57 = .ok (.iload_n 2, 1) := by decide +kernel
theorem dX0_putRight_58 : decode cX0_putRight 58 = .ok (.i2l, 1) := by decide +kernel
theorem dX0_putRight_59 : decode cX0_putRight 59 = .ok (.invokevirtual 37, 3) := by decide +kernel
theorem dX0_putRight_62 : decode cX0_putRight 62 = .ok (.aload_n 0, 1) := by decide +kernel
theorem dX0_putRight_63 : decode cX0_putRight 63 = .ok (.getfield 14, 3) := by decide +kernel
theorem dX0_putRight_66 : decode cX0_putRight 66 = .ok (.iload_n 1, 1) := by decide +kernel
theorem dX0_putRight_67 : decode cX0_putRight 67 = .ok (.lload 8, 2) := by decide +kernel
theorem dX0_putRight_69 : decode cX0_putRight 69 = .ok (.invokevirtual 41, 3) := by decide +kernel
theorem dX0_putRight_72 : decode cX0_putRight 72 = .ok (.aload_n 0, 1) := by decide +kernel
theorem dX0_putRight_73 : decode cX0_putRight 73 = .ok (.getfield 27, 3) := by decide +kernel
theorem dX0_putRight_76 : decode cX0_putRight 76 = .ok (.iload_n 2, 1) := by decide +kernel
theorem dX0_putRight_77 : decode cX0_putRight 77 = .ok (.lload 8, 2) := by decide +kernel
theorem dX0_putRight_79 : decode cX0_putRight 79 = .ok (.invokevirtual 41, 3) := by decide +kernel
theorem dX0_putRight_82 : decode cX0_putRight 82 = .ok (.lload 8, 2) := by decide +kernel
theorem dX0_putRight_84 : decode cX0_putRight 84 = .ok (.lload 6, 2) := by decide +kernel
theorem dX0_putRight_86 : decode cX0_putRight 86 = .ok (.lsub, 1) := by decide +kernel
theorem dX0_putRight_87 : decode cX0_putRight 87 = .ok (.lreturn, 1) := by decide +kernel
set_option maxRecDepth 20000 in
theorem ggX0_takeBack_X5_get : GoodIn wsX0_takeBack wsX5_get := goodIn_r _ [8, 9, 24] (by decide +kernel) (by decide +kernel)
set_option maxRecDepth 20000 in
theorem gX0_takeBack_X5_get : GoodIn wsX0_takeBack (wsV RX0 30 RX5 yX5_get wsX5_get) := goodIn_app (goodIn_of _ (by decide +kernel)) ggX0_takeBack_X5_get
set_option maxRecDepth 20000 in
theorem ggX0_takeBack_X5_add : GoodIn wsX0_takeBack wsX5_add := goodIn_r _ [13, 14, 5, 6, 7, 8, 9, 15, 16, 17, 18, 24] (by decide +kernel) (by decide +kernel)
set_option maxRecDepth 20000 in
theorem gX0_takeBack_X5_add : GoodIn wsX0_takeBack (wsV RX0 41 RX5 yX5_add wsX5_add) := goodIn_app (goodIn_of _ (by decide +kernel)) ggX0_takeBack_X5_add
set_option maxRecDepth 20000 in
theorem ggX0_takeBack_X5_set : GoodIn wsX0_takeBack wsX5_set := goodIn_r _ [18, 9, 24] (by decide +kernel) (by decide +kernel)
set_option maxRecDepth 20000 in
theorem gX0_takeBack_X5_set : GoodIn wsX0_takeBack (wsV RX0 37 RX5 yX5_set wsX5_set) := goodIn_app (goodIn_of _ (by decide +kernel)) ggX0_takeBack_X5_set
theorem dX0_takeBack_0 : decode cX0_takeBack 0 = .ok (.aload_n 0, 1) := by decide +kernel
theorem dX0_takeBack_1 : decode cX0_takeBack 1 = .ok (.getfield 14, 3) := by decide +kernel
theorem dX0_takeBack_4 : decode cX0_takeBack 4 = .ok (.iload_n 1, 1) := by decide +kernel
theorem dX0_takeBack_5 : decode cX0_takeBack 5 = .ok (.invokevirtual 30, 3) := by decide +kernel
theorem dX0_takeBack_8 : decode cX0_takeBack 8 = .ok (.lstore_n 2, 1) := by decide +kernel
theorem dX0_takeBack_9 : decode cX0_takeBack 9 = .ok (.aload_n 0, 1) := by decide +kernel
theorem dX0_takeBack_10 : decode cX0_takeBack 10 = .ok (.getfield 27, 3) := by decide +kernel
theorem dX0_takeBack_13 : decode cX0_takeBack 13 = .ok (.aload_n 0, 1) := by decide +kernel
theorem dX0_takeBack_14 : decode cX0_takeBack 14 = .ok (.getfield 20, 3) := by decide +kernel
theorem dX0_takeBack_17 : decode cX0_takeBack 17 = .ok (.iload_n 1, 1) := by decide +kernel
theorem dX0_takeBack_18 : decode cX0_takeBack 18 = .ok (.invokevirtual 30, 3) := by decide +kernel
theorem dX0_takeBack_21 : decode cX0_takeBack 21 = .ok (.l2i, 1) := by decide +kernel
theorem dX0_takeBack_22 : decode cX0_takeBack 22 = .ok (.lload_n 2, 1) := by decide +kernel
theorem dX0_takeBack_23 : decode cX0_takeBack 23 = .ok (.lneg, 1) := by decide +kernel
theorem dX0_takeBack_24 : decode cX0_takeBack 24 = .ok (.invokevirtual 41, 3) := by decide +kernel
theorem dX0_takeBack_27 : decode cX0_takeBack 27 = .ok (.aload_n 0, 1) := by decide +kernel
theorem dX0_takeBack_28 : decode cX0_takeBack 28 = .ok (.getfield 14, 3) := by decide +kernel
theorem dX0_takeBack_31 : decode cX0_takeBack 31 = .ok (.iload_n 1, 1) := by decide +kernel
theorem dX0_takeBack_32 : decode cX0_takeBack 32 = .ok (.lconst 0, 1) := by decide +kernel
theorem dX0_takeBack_33 : decode cX0_takeBack 33 = .ok (.invokevirtual 37, 3) := by decide +kernel
theorem dX0_takeBack_36 : decode cX0_takeBack 36 = .ok (.lload_n 2, 1) := by decide +kernel
theorem dX0_takeBack_37 : decode cX0_takeBack 37 = .ok (.lreturn, 1) := by decide +kernel
set_option maxRecDepth 20000 in
theorem ggX1_init_X5_init : GoodIn wsX1_init wsX5_init := goodIn_r _ [12, 13, 2, 3, 14, 15, 16] (by decide +kernel) (by decide +kernel)
set_option maxRecDepth 20000 in
theorem gX1_init_X5_init : GoodIn wsX1_init (wsX5_init) := ggX1_init_X5_init
theorem dX1_init_0 : decode cX1_init 0 = .ok (.aload_n 0, 1) := by decide +kernel
theorem dX1_init_1 : decode cX1_init 1 = .ok (.invokespecial 3, 3) := by decide +kernel
theorem dX1_init_4 : decode cX1_init 4 = .ok (.aload_n 0, 1) := by decide +kernel
theorem dX1_init_5 : decode cX1_init 5 = .ok (.new 9, 3) := by decide +kernel
theorem dX1_init_8 : decode cX1_init 8 = .ok (.dup, 1) := by decide +kernel
theorem dX1_init_9 : decode cX1_init 9 = .ok (.iload_n 1, 1) := by decide +kernel
theorem dX1_init_10 : decode cX1_init 10 = .ok (.invokespecial 11, 3) := by decide +kernel
theorem dX1_init_13 : decode cX1_init 13 = .ok (.putfield 14, 3) := by decide +kernel
theorem dX1_init_16 : decode cX1_init 16 = .ok (.aload_n 0, 1) := by decide +kernel
theorem dX1_init_17 : decode cX1_init 17 = .ok (.new 9, 3) := by decide +kernel
theorem dX1_init_20 : decode cX1_init 20 = .ok (.dup, 1) := by decide +kernel
theorem dX1_init_21 : decode cX1_init 21 = .ok (.iload_n 1, 1) := by decide +kernel
theorem dX1_init_22 : decode cX1_init 22 = .ok (.invokespecial 11, 3) := by decide +kernel
theorem dX1_init_25 : decode cX1_init 25 = .ok (.putfield 20, 3) := by decide +kernel
theorem dX1_init_28 : decode cX1_init 28 = .ok (.aload_n 0, 1) := by decide +kernel
theorem dX1_init_29 : decode cX1_init 29 = .ok (.new 9, 3) := by decide +kernel
theorem dX1_init_32 : decode cX1_init 32 = .ok (.dup, 1) := by decide +kernel
theorem dX1_init_33 : decode cX1_init 33 = .ok (.iload_n 1, 1) := by decide +kernel
theorem dX1_init_34 : decode cX1_init 34 = .ok (.invokespecial 11, 3) := by decide +kernel
theorem dX1_init_37 : decode cX1_init 37 = .ok (.putfield 23, 3) := by decide +kernel
theorem dX1_init_40 : decode cX1_init 40 = .ok (.return_, 1) := by decide +kernel
set_option maxRecDepth 20000 in
theorem ggX1_setWeight_X5_set : GoodIn wsX1_setWeight wsX5_set := goodIn_r _ [6, 7, 11] (by decide +kernel) (by decide +kernel)
set_option maxRecDepth 20000 in
theorem gX1_setWeight_X5_set : GoodIn wsX1_setWeight (wsV RX1 26 RX5 yX5_set wsX5_set) := goodIn_app (goodIn_of _ (by decide +kernel)) ggX1_setWeight_X5_set
theorem dX1_setWeight_0 : decode cX1_setWeight 0 = .ok (.aload_n 0, 1) := by decide +kernel
theorem dX1_setWeight_1 : decode cX1_setWeight 1 = .ok (.getfield 14, 3) := by decide +kernel
theorem dX1_setWeight_4 : decode cX1_setWeight 4 = .ok (.iload_n 1, 1) := by decide +kernel
theorem dX1_setWeight_5 : decode cX1_setWeight 5 = .ok (.lload_n 2, 1) := by decide +kernel
theorem dX1_setWeight_6 : decode cX1_setWeight 6 = .ok (.invokevirtual 26, 3) := by decide +kernel
theorem dX1_setWeight_9 : decode cX1_setWeight 9 = .ok (.return_, 1) := by decide +kernel
set_option maxRecDepth 20000 in
theorem ggX1_addWeight_X5_add : GoodIn wsX1_addWeight wsX5_add := goodIn_r _ [6, 7, 8, 9, 5, 10, 11, 12, 13, 14, 15, 19] (by decide +kernel) (by decide +kernel)
set_option maxRecDepth 20000 in
theorem gX1_addWeight_X5_add : GoodIn wsX1_addWeight (wsV RX1 30 RX5 yX5_add wsX5_add) := goodIn_app (goodIn_of _ (by decide +kernel)) ggX1_addWeight_X5_add
theorem dX1_addWeight_0 : decode cX1_addWeight 0 = .ok (.aload_n 0, 1) := by decide +kernel
theorem dX1_addWeight_1 : decode cX1_addWeight 1 = .ok (.getfield 14, 3) := by decide +kernel
theorem dX1_addWeight_4 : decode cX1_addWeight 4 = .ok (.iload_n 1, 1) := by decide +kernel
theorem dX1_addWeight_5 : decode cX1_addWeight 5 = .ok (.lload_n 2, 1) := by decide +kernel
theorem dX1_addWeight_6 : decode cX1_addWeight 6 = .ok (.invokevirtual 30, 3) := by decide +kernel
theorem dX1_addWeight_9 : decode cX1_addWeight 9 = .ok (.return_, 1) := by decide +kernel
set_option maxRecDepth 20000 in
theorem ggX1_weightOf_X5_get : GoodIn wsX1_weightOf wsX5_get := goodIn_r _ [6, 7, 11] (by decide +kernel) (by decide +kernel)
set_option maxRecDepth 20000 in
theorem gX1_weightOf_X5_get : GoodIn wsX1_weightOf (wsV RX1 33 RX5 yX5_get wsX5_get) := goodIn_app (goodIn_of _ (by decide +kernel)) ggX1_weightOf_X5_get
theorem dX1_weightOf_0 : decode cX1_weightOf 0 = .ok (.aload_n 0, 1) := by decide +kernel
theorem dX1_weightOf_1 : decode cX1_weightOf 1 = .ok (.getfield 14, 3) := by decide +kernel
theorem dX1_weightOf_4 : decode cX1_weightOf 4 = .ok (.iload_n 1, 1) := by decide +kernel
theorem dX1_weightOf_5 : decode cX1_weightOf 5 = .ok (.invokevirtual 33, 3) := by decide +kernel
theorem dX1_weightOf_8 : decode cX1_weightOf 8 = .ok (.lreturn, 1) := by decide +kernel
set_option maxRecDepth 20000 in
theorem ggX1_partOf_X5_get : GoodIn wsX1_partOf wsX5_get := goodIn_r _ [6, 7, 11] (by decide +kernel) (by decide +kernel)
set_option maxRecDepth 20000 in
theorem gX1_partOf_X5_get : GoodIn wsX1_partOf (wsV RX1 33 RX5 yX5_get wsX5_get) := goodIn_app (goodIn_of _ (by decide +kernel)) ggX1_partOf_X5_get
theorem dX1_partOf_0 : decode cX1_partOf 0 = .ok (.aload_n 0, 1) := by decide +kernel
theorem dX1_partOf_1 : decode cX1_partOf 1 = .ok (.getfield 20, 3) := by decide +kernel
theorem dX1_partOf_4 : decode cX1_partOf 4 = .ok (.iload_n 1, 1) := by decide +kernel
theorem dX1_partOf_5 : decode cX1_partOf 5 = .ok (.invokevirtual 33, 3) := by decide +kernel
theorem dX1_partOf_8 : decode cX1_partOf 8 = .ok (.lreturn, 1) := by decide +kernel
set_option maxRecDepth 20000 in
theorem ggX1_all_X5_get : GoodIn wsX1_all wsX5_get := goodIn_r _ [6, 7, 11] (by decide +kernel) (by decide +kernel)
set_option maxRecDepth 20000 in
theorem gX1_all_X5_get : GoodIn wsX1_all (wsV RX1 33 RX5 yX5_get wsX5_get) := goodIn_app (goodIn_of _ (by decide +kernel)) ggX1_all_X5_get
theorem dX1_all_0 : decode cX1_all 0 = .ok (.lconst 0, 1) := by decide +kernel
theorem dX1_all_1 : decode cX1_all 1 = .ok (.lstore_n 3, 1) := by decide +kernel
theorem dX1_all_2 : decode cX1_all 2 = .ok (.iload_n 1, 1) := by decide +kernel
theorem dX1_all_3 : decode cX1_all 3 = .ok (.istore 5, 2) := by decide +kernel
theorem dX1_all_5 : decode cX1_all 5 = .ok (.iload 5, 2) := by decide +kernel
theorem dX1_all_7 : decode cX1_all 7 = .ok (.iload_n 2, 1) := by decide +kernel
theorem dX1_all_8 : decode cX1_all 8 = .ok (.if_icmp .ge 21, 3) := by decide +kernel
theorem dX1_all_11 : decode cX1_all 11 = .ok (.lload_n 3, 1) := by decide +kernel
theorem dX1_all_12 : decode cX1_all 12 = .ok (.aload_n 0, 1) := by decide +kernel
theorem dX1_all_13 : decode cX1_all 13 = .ok (.getfield 14, 3) := by decide +kernel
theorem dX1_all_16 : decode cX1_all 16 = .ok (.iload 5, 2) := by decide +kernel
theorem dX1_all_18 : decode cX1_all 18 = .ok (.invokevirtual 33, 3) := by decide +kernel
theorem dX1_all_21 : decode cX1_all 21 = .ok (.ladd, 1) := by decide +kernel
theorem dX1_all_22 : decode cX1_all 22 = .ok (.lstore_n 3, 1) := by decide +kernel
theorem dX1_all_23 : decode cX1_all 23 = .ok (.iinc 5 1, 3) := by decide +kernel
theorem dX1_all_26 : decode cX1_all 26 = .ok (.goto (-21), 3) := by decide +kernel
theorem dX1_all_29 : decode cX1_all 29 = .ok (.lload_n 3, 1) := by decide +kernel
theorem dX1_all_30 : decode cX1_all 30 = .ok (.lreturn, 1) := by decide +kernel
set_option maxRecDepth 20000 in
theorem ggX1_divide_X1_all : GoodIn wsX1_divide wsX1_all := goodIn_r _ [8, 1, 9, 10, 11, 12, 13, 14, 34, 35, 36, 37] (by decide +kernel) (by decide +kernel)
set_option maxRecDepth 20000 in
theorem gX1_divide_X1_all : GoodIn wsX1_divide (wsV RX1 37 RX1 yX1_all wsX1_all) := goodIn_app (goodIn_of _ (by decide +kernel)) ggX1_divide_X1_all
set_option maxRecDepth 20000 in
theorem ggX1_divide_X5_get : GoodIn wsX1_divide wsX5_get := goodIn_r _ [13, 14, 37] (by decide +kernel) (by decide +kernel)
set_option maxRecDepth 20000 in
theorem gX1_divide_X5_get : GoodIn wsX1_divide (wsV RX1 33 RX5 yX5_get wsX5_get) := goodIn_app (goodIn_of _ (by decide +kernel)) ggX1_divide_X5_get
set_option maxRecDepth 20000 in
theorem ggX1_divide_X5_set : GoodIn wsX1_divide wsX5_set := goodIn_r _ [18, 14, 37] (by decide +kernel) (by decide +kernel)
set_option maxRecDepth 20000 in
theorem gX1_divide_X5_set : GoodIn wsX1_divide (wsV RX1 26 RX5 yX5_set wsX5_set) := goodIn_app (goodIn_of _ (by decide +kernel)) ggX1_divide_X5_set
set_option maxRecDepth 20000 in
theorem ggX1_divide_X1_giveLeft : GoodIn wsX1_divide wsX1_giveLeft := goodIn_r _ [22, 3, 2, 23, 24, 25, 7, 26, 27, 9, 10, 11, 12, 13, 14, 28, 29, 30, 31, 32, 33, 16, 17, 18, 34, 35, 36, 37] (by decide +kernel) (by decide +kernel)
set_option maxRecDepth 20000 in
theorem gX1_divide_X1_giveLeft : GoodIn wsX1_divide (wsV RX1 41 RX1 yX1_giveLeft wsX1_giveLeft) := goodIn_app (goodIn_of _ (by decide +kernel)) ggX1_divide_X1_giveLeft
theorem dX1_divide_0 : decode cX1_divide 0 = .ok (.aload_n 0, 1) := by decide +kernel
theorem dX1_divide_1 : decode cX1_divide 1 = .ok (.iload_n 3, 1) := by decide +kernel
theorem dX1_divide_2 : decode cX1_divide 2 = .ok (.iload 4, 2) := by decide +kernel
theorem dX1_divide_4 : decode cX1_divide 4 = .ok (.invokevirtual 37, 3) := by decide +kernel
theorem dX1_divide_7 : decode cX1_divide 7 = .ok (.lstore 5, 2) := by decide +kernel
theorem dX1_divide_9 : decode cX1_divide 9 = .ok (.lload 5, 2) := by decide +kernel
theorem dX1_divide_11 : decode cX1_divide 11 = .ok (.lconst 0, 1) := by decide +kernel
theorem dX1_divide_12 : decode cX1_divide 12 = .ok (.lcmp, 1) := by decide +kernel
theorem dX1_divide_13 : decode cX1_divide 13 = .ok (.ifCond .le 7, 3) := by decide +kernel
theorem dX1_divide_16 : decode cX1_divide 16 = .ok (.lload_n 1, 1) := by decide +kernel
theorem dX1_divide_17 : decode cX1_divide 17 = .ok (.goto 4, 3) := by decide +kernel
theorem dX1_divide_20 : decode cX1_divide 20 = .ok (.lconst 0, 1) := by decide +kernel
theorem dX1_divide_21 : decode cX1_divide 21 = .ok (.lstore 7, 2) := by decide +kernel
theorem dX1_divide_23 : decode cX1_divide 23 = .ok (.iload_n 3, 1) := by decide +kernel
theorem dX1_divide_24 : decode cX1_divide 24 = .ok (.istore 9, 2) := by decide +kernel
theorem dX1_divide_26 : decode cX1_divide 26 = .ok (.iload 9, 2) := by decide +kernel
theorem dX1_divide_28 : decode cX1_divide 28 = .ok (.iload 4, 2) := by decide +kernel
theorem dX1_divide_30 : decode cX1_divide 30 = .ok (.if_icmp .ge 83, 3) := by decide +kernel
theorem dX1_divide_33 : decode cX1_divide 33 = .ok (.lload_n 1, 1) := by decide +kernel
theorem dX1_divide_34 : decode cX1_divide 34 = .ok (.aload_n 0, 1) := by decide +kernel
theorem dX1_divide_35 : decode cX1_divide 35 = .ok (.getfield 14, 3) := by decide +kernel
theorem dX1_divide_38 : decode cX1_divide 38 = .ok (.iload 9, 2) := by decide +kernel
theorem dX1_divide_40 : decode cX1_divide 40 = .ok (.invokevirtual 33, 3) := by decide +kernel
theorem dX1_divide_43 : decode cX1_divide 43 = .ok (.lmul, 1) := by decide +kernel
theorem dX1_divide_44 : decode cX1_divide 44 = .ok (.lstore 10, 2) := by decide +kernel
theorem dX1_divide_46 : decode cX1_divide 46 = .ok (.lload 5, 2) := by decide +kernel
theorem dX1_divide_48 : decode cX1_divide 48 = .ok (.lconst 0, 1) := by decide +kernel
theorem dX1_divide_49 : decode cX1_divide 49 = .ok (.lcmp, 1) := by decide +kernel
theorem dX1_divide_50 : decode cX1_divide 50 = .ok (.ifCond .le 11, 3) := by decide +kernel
theorem dX1_divide_53 : decode cX1_divide 53 = .ok (.lload 10, 2) := by decide +kernel
theorem dX1_divide_55 : decode cX1_divide 55 = .ok (.lload 5, 2) := by decide +kernel
theorem dX1_divide_57 : decode cX1_divide 57 = .ok (.ldiv, 1) := by decide +kernel
theorem dX1_divide_58 : decode cX1_divide 58 = .ok (.goto 4, 3) := by decide +kernel
theorem dX1_divide_61 : decode cX1_divide 61 = .ok (.lconst 0, 1) := by decide +kernel
theorem dX1_divide_62 : decode cX1_divide 62 = .ok (.lstore 12, 2) := by decide +kernel
theorem dX1_divide_64 : decode cX1_divide 64 = .ok (.aload_n 0, 1) := by decide +kernel
theorem dX1_divide_65 : decode cX1_divide 65 = .ok (.getfield 20, 3) := by decide +kernel
theorem dX1_divide_68 : decode cX1_divide 68 = .ok (.iload 9, 2) := by decide +kernel
theorem dX1_divide_70 : decode cX1_divide 70 = .ok (.lload 12, 2) := by decide +kernel
theorem dX1_divide_72 : decode cX1_divide 72 = .ok (.invokevirtual 26, 3) := by decide +kernel
theorem dX1_divide_75 : decode cX1_divide 75 = .ok (.aload_n 0, 1) := by decide +kernel
theorem dX1_divide_76 : decode cX1_divide 76 = .ok (.getfield 23, 3) := by decide +kernel
theorem dX1_divide_79 : decode cX1_divide 79 = .ok (.iload 9, 2) := by decide +kernel
theorem dX1_divide_81 : decode cX1_divide 81 = .ok (.lload 5, 2) := by decide +kernel
theorem dX1_divide_83 : decode cX1_divide 83 = .ok (.lconst 0, 1) := by decide +kernel
theorem dX1_divide_84 : decode cX1_divide 84 = .ok (.lcmp, 1) := by decide +kernel
theorem dX1_divide_85 : decode cX1_divide 85 = .ok (.ifCond .le 11, 3) := by decide +kernel
theorem dX1_divide_88 : decode cX1_divide 88 = .ok (.lload 10, 2) := by decide +kernel
theorem dX1_divide_90 : decode cX1_divide 90 = .ok (.lload 5, 2) := by decide +kernel
theorem dX1_divide_92 : decode cX1_divide 92 = .ok (.lrem, 1) := by decide +kernel
theorem dX1_divide_93 : decode cX1_divide 93 = .ok (.goto 4, 3) := by decide +kernel
theorem dX1_divide_96 : decode cX1_divide 96 = .ok (.lconst 0, 1) := by decide +kernel
theorem dX1_divide_97 : decode cX1_divide 97 = .ok (.invokevirtual 26, 3) := by decide +kernel
theorem dX1_divide_100 : decode cX1_divide 100 = .ok (.lload 7, 2) := by decide +kernel
theorem dX1_divide_102 : decode cX1_divide 102 = .ok (.lload 12, 2) := by decide +kernel
theorem dX1_divide_104 : decode cX1_divide 104 = .ok (.lsub, 1) := by decide +kernel
theorem dX1_divide_105 : decode cX1_divide 105 = .ok (.lstore 7, 2) := by decide +kernel
theorem dX1_divide_107 : decode cX1_divide 107 = .ok (.iinc 9 1, 3) := by decide +kernel
theorem dX1_divide_110 : decode cX1_divide 110 = .ok (.goto (-84), 3) := by decide +kernel
theorem dX1_divide_113 : decode cX1_divide 113 = .ok (.aload_n 0, 1) := by decide +kernel
theorem dX1_divide_114 : decode cX1_divide 114 = .ok (.lload 7, 2) := by decide +kernel
theorem dX1_divide_116 : decode cX1_divide 116 = .ok (.lload 5, 2) := by decide +kernel
theorem dX1_divide_118 : decode cX1_divide 118 = .ok (.iload_n 3, 1) := by decide +kernel
theorem dX1_divide_119 : decode cX1_divide 119 = .ok (.iload 4, 2) := by decide +kernel
theorem dX1_divide_121 : decode cX1_divide 121 = .ok (.invokevirtual 41, 3) := by decide +kernel
theorem dX1_divide_124 : decode cX1_divide 124 = .ok (.return_, 1) := by decide +kernel
set_option maxRecDepth 20000 in
theorem ggX1_giveLeft_X1_greatestRestBelow : GoodIn wsX1_giveLeft wsX1_greatestRestBelow := goodIn_r _ [7, 8, 1, 9, 10, 11, 12, 13, 14, 24, 25, 26, 27] (by decide +kernel) (by decide +kernel)
set_option maxRecDepth 20000 in
theorem gX1_giveLeft_X1_greatestRestBelow : GoodIn wsX1_giveLeft (wsV RX1 45 RX1 yX1_greatestRestBelow wsX1_greatestRestBelow) := goodIn_app (goodIn_of _ (by decide +kernel)) ggX1_giveLeft_X1_greatestRestBelow
set_option maxRecDepth 20000 in
theorem ggX1_giveLeft_X5_get : GoodIn wsX1_giveLeft wsX5_get := goodIn_r _ [13, 14, 27] (by decide +kernel) (by decide +kernel)
set_option maxRecDepth 20000 in
theorem gX1_giveLeft_X5_get : GoodIn wsX1_giveLeft (wsV RX1 33 RX5 yX5_get wsX5_get) := goodIn_app (goodIn_of _ (by decide +kernel)) ggX1_giveLeft_X5_get
set_option maxRecDepth 20000 in
theorem ggX1_giveLeft_X5_add : GoodIn wsX1_giveLeft wsX5_add := goodIn_r _ [18, 19, 10, 11, 12, 13, 14, 20, 21, 22, 23, 27] (by decide +kernel) (by decide +kernel)
set_option maxRecDepth 20000 in
theorem gX1_giveLeft_X5_add : GoodIn wsX1_giveLeft (wsV RX1 30 RX5 yX5_add wsX5_add) := goodIn_app (goodIn_of _ (by decide +kernel)) ggX1_giveLeft_X5_add
theorem dX1_giveLeft_0 : decode cX1_giveLeft 0 = .ok (.lload_n 1, 1) := by decide +kernel
theorem dX1_giveLeft_1 : decode cX1_giveLeft 1 = .ok (.lstore 7, 2) := by decide +kernel
theorem dX1_giveLeft_3 : decode cX1_giveLeft 3 = .ok (.aload_n 0, 1) := by decide +kernel
theorem dX1_giveLeft_4 : decode cX1_giveLeft 4 = .ok (.lload_n 3, 1) := by decide +kernel
theorem dX1_giveLeft_5 : decode cX1_giveLeft 5 = .ok (.iload 5, 2) := by decide +kernel
theorem dX1_giveLeft_7 : decode cX1_giveLeft 7 = .ok (.iload 6, 2) := by decide +kernel
theorem dX1_giveLeft_9 : decode cX1_giveLeft 9 = .ok (.invokevirtual 45, 3) := by decide +kernel
theorem dX1_giveLeft_12 : decode cX1_giveLeft 12 = .ok (.lstore 9, 2) := by decide +kernel
theorem dX1_giveLeft_14 : decode cX1_giveLeft 14 = .ok (.iload 5, 2) := by decide +kernel
theorem dX1_giveLeft_16 : decode cX1_giveLeft 16 = .ok (.istore 11, 2) := by decide +kernel
theorem dX1_giveLeft_18 : decode cX1_giveLeft 18 = .ok (.iload 11, 2) := by decide +kernel
theorem dX1_giveLeft_20 : decode cX1_giveLeft 20 = .ok (.iload 6, 2) := by decide +kernel
theorem dX1_giveLeft_22 : decode cX1_giveLeft 22 = .ok (.if_icmp .ge 83, 3) := by decide +kernel
theorem dX1_giveLeft_25 : decode cX1_giveLeft 25 = .ok (.lload 7, 2) := by decide +kernel
theorem dX1_giveLeft_27 : decode cX1_giveLeft 27 = .ok (.lconst 0, 1) := by decide +kernel
theorem dX1_giveLeft_28 : decode cX1_giveLeft 28 = .ok (.lcmp, 1) := by decide +kernel
theorem dX1_giveLeft_29 : decode cX1_giveLeft 29 = .ok (.ifCond .le 76, 3) := by decide +kernel
theorem dX1_giveLeft_32 : decode cX1_giveLeft 32 = .ok (.iload 5, 2) := by decide +kernel
theorem dX1_giveLeft_34 : decode cX1_giveLeft 34 = .ok (.istore 12, 2) := by decide +kernel
theorem dX1_giveLeft_36 : decode cX1_giveLeft 36 = .ok (.iload 12, 2) := by decide +kernel
theorem dX1_giveLeft_38 : decode cX1_giveLeft 38 = .ok (.iload 6, 2) := by decide +kernel
theorem dX1_giveLeft_40 : decode cX1_giveLeft 40 = .ok (.if_icmp .ge 47, 3) := by decide +kernel
theorem dX1_giveLeft_43 : decode cX1_giveLeft 43 = .ok (.lload 7, 2) := by decide +kernel
theorem dX1_giveLeft_45 : decode cX1_giveLeft 45 = .ok (.lconst 0, 1) := by decide +kernel
theorem dX1_giveLeft_46 : decode cX1_giveLeft 46 = .ok (.lcmp, 1) := by decide +kernel
theorem dX1_giveLeft_47 : decode cX1_giveLeft 47 = .ok (.ifCond .le 40, 3) := by decide +kernel
theorem dX1_giveLeft_50 : decode cX1_giveLeft 50 = .ok (.aload_n 0, 1) := by decide +kernel
theorem dX1_giveLeft_51 : decode cX1_giveLeft 51 = .ok (.getfield 23, 3) := by decide +kernel
theorem dX1_giveLeft_54 : decode cX1_giveLeft 54 = .ok (.iload 12, 2) := by decide +kernel
theorem dX1_giveLeft_56 : decode cX1_giveLeft 56 = .ok (.invokevirtual 33, 3) := by decide +kernel
theorem dX1_giveLeft_59 : decode cX1_giveLeft 59 = .ok (.lload 9, 2) := by decide +kernel
theorem dX1_giveLeft_61 : decode cX1_giveLeft 61 = .ok (.lcmp, 1) := by decide +kernel
theorem dX1_giveLeft_62 : decode cX1_giveLeft 62 = .ok (.ifCond .ne 19, 3) := by decide +kernel
theorem dX1_giveLeft_65 : decode cX1_giveLeft 65 = .ok (.aload_n 0, 1) := by decide +kernel
theorem dX1_giveLeft_66 : decode cX1_giveLeft 66 = .ok (.getfield 20, 3) := by decide +kernel
theorem dX1_giveLeft_69 : decode cX1_giveLeft 69 = .ok (.iload 12, 2) := by decide +kernel
theorem dX1_giveLeft_71 : decode cX1_giveLeft 71 = .ok (.lconst 1, 1) := by decide +kernel
theorem dX1_giveLeft_72 : decode cX1_giveLeft 72 = .ok (.invokevirtual 30, 3) := by decide +kernel
theorem dX1_giveLeft_75 : decode cX1_giveLeft 75 = .ok (.lload 7, 2) := by decide +kernel
theorem dX1_giveLeft_77 : decode cX1_giveLeft 77 = .ok (.lconst 1, 1) := by decide +kernel
theorem dX1_giveLeft_78 : decode cX1_giveLeft 78 = .ok (.lsub, 1) := by decide +kernel
theorem dX1_giveLeft_79 : decode cX1_giveLeft 79 = .ok (.lstore 7, 2) := by decide +kernel
theorem dX1_giveLeft_81 : decode cX1_giveLeft 81 = .ok (.iinc 12 1, 3) := by decide +kernel
theorem dX1_giveLeft_84 : decode cX1_giveLeft 84 = .ok (.goto (-48), 3) := by decide +kernel
theorem dX1_giveLeft_87 : decode cX1_giveLeft 87 = .ok (.aload_n 0, 1) := by decide +kernel
theorem dX1_giveLeft_88 : decode cX1_giveLeft 88 = .ok (.lload 9, 2) := by decide +kernel
theorem dX1_giveLeft_90 : decode cX1_giveLeft 90 = .ok (.iload 5, 2) := by decide +kernel
theorem dX1_giveLeft_92 : decode cX1_giveLeft 92 = .ok (.iload 6, 2) := by decide +kernel
theorem dX1_giveLeft_94 : decode cX1_giveLeft 94 = .ok (.invokevirtual 45, 3) := by decide +kernel
theorem dX1_giveLeft_97 : decode cX1_giveLeft 97 = .ok (.lstore 9, 2) := by decide +kernel
theorem dX1_giveLeft_99 : decode cX1_giveLeft 99 = .ok (.iinc 11 1, 3) := by decide +kernel
theorem dX1_giveLeft_102 : decode cX1_giveLeft 102 = .ok (.goto (-84), 3) := by decide +kernel
theorem dX1_giveLeft_105 : decode cX1_giveLeft 105 = .ok (.return_, 1) := by decide +kernel
set_option maxRecDepth 20000 in
theorem ggX1_greatestRestBelow_X5_get : GoodIn wsX1_greatestRestBelow wsX5_get := goodIn_r _ [7, 8, 12] (by decide +kernel) (by decide +kernel)
set_option maxRecDepth 20000 in
theorem gX1_greatestRestBelow_X5_get : GoodIn wsX1_greatestRestBelow (wsV RX1 33 RX5 yX5_get wsX5_get) := goodIn_app (goodIn_of _ (by decide +kernel)) ggX1_greatestRestBelow_X5_get
theorem dX1_greatestRestBelow_0 : decode cX1_greatestRestBelow 0 = .ok (.ldc2_w 49, 3) := by decide +kernel
theorem dX1_greatestRestBelow_3 : decode cX1_greatestRestBelow 3 = .ok (.lstore 5, 2) := by decide +kernel
theorem dX1_greatestRestBelow_5 : decode cX1_greatestRestBelow 5 = .ok (.iload_n 3, 1) := by decide +kernel
theorem dX1_greatestRestBelow_6 : decode cX1_greatestRestBelow 6 = .ok (.istore 7, 2) := by decide +kernel
theorem dX1_greatestRestBelow_8 : decode cX1_greatestRestBelow 8 = .ok (.iload 7, 2) := by decide +kernel
theorem dX1_greatestRestBelow_10 : decode cX1_greatestRestBelow 10 = .ok (.iload 4, 2) := by decide +kernel
theorem dX1_greatestRestBelow_12 : decode cX1_greatestRestBelow 12 = .ok (.if_icmp .ge 39, 3) := by decide +kernel
theorem dX1_greatestRestBelow_15 : decode cX1_greatestRestBelow 15 = .ok (.aload_n 0, 1) := by decide +kernel
theorem dX1_greatestRestBelow_16 : decode cX1_greatestRestBelow 16 = .ok (.getfield 23, 3) := by decide +kernel
theorem dX1_greatestRestBelow_19 : decode cX1_greatestRestBelow 19 = .ok (.iload 7, 2) := by decide +kernel
theorem dX1_greatestRestBelow_21 : decode cX1_greatestRestBelow 21 = .ok (.invokevirtual 33, 3) := by decide +kernel
theorem dX1_greatestRestBelow_24 : decode cX1_greatestRestBelow 24 = .ok (.lstore 8, 2) := by decide +kernel
theorem dX1_greatestRestBelow_26 : decode cX1_greatestRestBelow 26 = .ok (.lload 8, 2) := by decide +kernel
theorem dX1_greatestRestBelow_28 : decode cX1_greatestRestBelow 28 = .ok (.lload_n 1, 1) := by decide +kernel
theorem dX1_greatestRestBelow_29 : decode cX1_greatestRestBelow 29 = .ok (.lcmp, 1) := by decide +kernel
theorem dX1_greatestRestBelow_30 : decode cX1_greatestRestBelow 30 = .ok (.ifCond .ge 15, 3) := by decide +kernel
theorem dX1_greatestRestBelow_33 : decode cX1_greatestRestBelow 33 = .ok (.lload 8, 2) := by decide +kernel
theorem dX1_greatestRestBelow_35 : decode cX1_greatestRestBelow 35 = .ok (.lload 5, 2) := by decide +kernel
theorem dX1_greatestRestBelow_37 : decode cX1_greatestRestBelow 37 = .ok (.lcmp, 1) := by decide +kernel
theorem dX1_greatestRestBelow_38 : decode cX1_greatestRestBelow 38 = .ok (.ifCond .le 7, 3) := by decide +kernel
theorem dX1_greatestRestBelow_41 : decode cX1_greatestRestBelow 41 = .ok (.lload 8, 2) := by decide +kernel
theorem dX1_greatestRestBelow_43 : decode cX1_greatestRestBelow 43 = .ok (.lstore 5, 2) := by decide +kernel
theorem dX1_greatestRestBelow_45 : decode cX1_greatestRestBelow 45 = .ok (.iinc 7 1, 3) := by decide +kernel
theorem dX1_greatestRestBelow_48 : decode cX1_greatestRestBelow 48 = .ok (.goto (-40), 3) := by decide +kernel
theorem dX1_greatestRestBelow_51 : decode cX1_greatestRestBelow 51 = .ok (.lload 5, 2) := by decide +kernel
theorem dX1_greatestRestBelow_53 : decode cX1_greatestRestBelow 53 = .ok (.lreturn, 1) := by decide +kernel
theorem dX2_init_0 : decode cX2_init 0 = .ok (.aload_n 0, 1) := by decide +kernel
theorem dX2_init_1 : decode cX2_init 1 = .ok (.invokespecial 1, 3) := by decide +kernel
theorem dX2_init_4 : decode cX2_init 4 = .ok (.lconst 1, 1) := by decide +kernel
theorem dX2_init_5 : decode cX2_init 5 = .ok (.lstore 4, 2) := by decide +kernel
theorem dX2_init_7 : decode cX2_init 7 = .ok (.iconst 0, 1) := by decide +kernel
theorem dX2_init_8 : decode cX2_init 8 = .ok (.istore 6, 2) := by decide +kernel
theorem dX2_init_10 : decode cX2_init 10 = .ok (.iload 6, 2) := by decide +kernel
theorem dX2_init_12 : decode cX2_init 12 = .ok (.iload_n 1, 1) := by decide +kernel
theorem dX2_init_13 : decode cX2_init 13 = .ok (.if_icmp .ge 17, 3) := by decide +kernel
theorem dX2_init_16 : decode cX2_init 16 = .ok (.lload 4, 2) := by decide +kernel
theorem dX2_init_18 : decode cX2_init 18 = .ok (.ldc2_w 7, 3) := by decide +kernel
theorem dX2_init_21 : decode cX2_init 21 = .ok (.lmul, 1) := by decide +kernel
theorem dX2_init_22 : decode cX2_init 22 = .ok (.lstore 4, 2) := by decide +kernel
theorem dX2_init_24 : decode cX2_init 24 = .ok (.iinc 6 1, 3) := by decide +kernel
theorem dX2_init_27 : decode cX2_init 27 = .ok (.goto (-17), 3) := by decide +kernel
theorem dX2_init_30 : decode cX2_init 30 = .ok (.aload_n 0, 1) := by decide +kernel
theorem dX2_init_31 : decode cX2_init 31 = .ok (.lload 4, 2) := by decide +kernel
theorem dX2_init_33 : decode cX2_init 33 = .ok (.putfield 9, 3) := by decide +kernel
theorem dX2_init_36 : decode cX2_init 36 = .ok (.aload_n 0, 1) := by decide +kernel
theorem dX2_init_37 : decode cX2_init 37 = .ok (.iload_n 2, 1) := by decide +kernel
theorem dX2_init_38 : decode cX2_init 38 = .ok (.putfield 15, 3) := by decide +kernel
theorem dX2_init_41 : decode cX2_init 41 = .ok (.aload_n 0, 1) := by decide +kernel
theorem dX2_init_42 : decode cX2_init 42 = .ok (.iload_n 3, 1) := by decide +kernel
theorem dX2_init_43 : decode cX2_init 43 = .ok (.putfield 19, 3) := by decide +kernel
theorem dX2_init_46 : decode cX2_init 46 = .ok (.return_, 1) := by decide +kernel
theorem dX2_canShow_0 : decode cX2_canShow 0 = .ok (.iload_n 1, 1) := by decide +kernel
theorem dX2_canShow_1 : decode cX2_canShow 1 = .ok (.ifCond .lt 17, 3) := by decide +kernel
theorem dX2_canShow_4 : decode cX2_canShow 4 = .ok (.iload_n 1, 1) := by decide +kernel
theorem dX2_canShow_5 : decode cX2_canShow 5 = .ok (.i2l, 1) := by decide +kernel
theorem dX2_canShow_6 : decode cX2_canShow 6 = .ok (.aload_n 0, 1) := by decide +kernel
theorem dX2_canShow_7 : decode cX2_canShow 7 = .ok (.getfield 9, 3) := by decide +kernel
theorem dX2_canShow_10 : decode cX2_canShow 10 = .ok (.lcmp, 1) := by decide +kernel
theorem dX2_canShow_11 : decode cX2_canShow 11 = .ok (.ifCond .ge 7, 3) := by decide +kernel
theorem dX2_canShow_14 : decode cX2_canShow 14 = .ok (.iconst 1, 1) := by decide +kernel
theorem dX2_canShow_15 : decode cX2_canShow 15 = .ok (.goto 4, 3) := by decide +kernel
theorem dX2_canShow_18 : decode cX2_canShow 18 = .ok (.iconst 0, 1) := by decide +kernel
theorem dX2_canShow_19 : decode cX2_canShow 19 = .ok (.ireturn, 1) := by decide +kernel
theorem dX2_useAt_0 : decode cX2_useAt 0 = .ok (.iload_n 1, 1) := by decide +kernel
theorem dX2_useAt_1 : decode cX2_useAt 1 = .ok (.i2l, 1) := by decide +kernel
theorem dX2_useAt_2 : decode cX2_useAt 2 = .ok (.aload_n 0, 1) := by decide +kernel
theorem dX2_useAt_3 : decode cX2_useAt 3 = .ok (.getfield 19, 3) := by decide +kernel
theorem dX2_useAt_6 : decode cX2_useAt 6 = .ok (.i2l, 1) := by decide +kernel
theorem dX2_useAt_7 : decode cX2_useAt 7 = .ok (.lsub, 1) := by decide +kernel
theorem dX2_useAt_8 : decode cX2_useAt 8 = .ok (.lstore_n 2, 1) := by decide +kernel
theorem dX2_useAt_9 : decode cX2_useAt 9 = .ok (.lload_n 2, 1) := by decide +kernel
theorem dX2_useAt_10 : decode cX2_useAt 10 = .ok (.lconst 0, 1) := by decide +kernel
theorem dX2_useAt_11 : decode cX2_useAt 11 = .ok (.lcmp, 1) := by decide +kernel
theorem dX2_useAt_12 : decode cX2_useAt 12 = .ok (.ifCond .ge 12, 3) := by decide +kernel
theorem dX2_useAt_15 : decode cX2_useAt 15 = .ok (.lload_n 2, 1) := by decide +kernel
theorem dX2_useAt_16 : decode cX2_useAt 16 = .ok (.aload_n 0, 1) := by decide +kernel
theorem dX2_useAt_17 : decode cX2_useAt 17 = .ok (.getfield 9, 3) := by decide +kernel
theorem dX2_useAt_20 : decode cX2_useAt 20 = .ok (.ladd, 1) := by decide +kernel
theorem dX2_useAt_21 : decode cX2_useAt 21 = .ok (.goto 4, 3) := by decide +kernel
theorem dX2_useAt_24 : decode cX2_useAt 24 = .ok (.lload_n 2, 1) := by decide +kernel
theorem dX2_useAt_25 : decode cX2_useAt 25 = .ok (.aload_n 0, 1) := by decide +kernel
theorem dX2_useAt_26 : decode cX2_useAt 26 = .ok (.getfield 15, 3) := by decide +kernel
theorem dX2_useAt_29 : decode cX2_useAt 29 = .ok (.i2l, 1) := by decide +kernel
theorem dX2_useAt_30 : decode cX2_useAt 30 = .ok (.lmul, 1) := by decide +kernel
theorem dX2_useAt_31 : decode cX2_useAt 31 = .ok (.lreturn, 1) := by decide +kernel
theorem dX2_setShown_0 : decode cX2_setShown 0 = .ok (.aload_n 0, 1) := by decide +kernel
theorem dX2_setShown_1 : decode cX2_setShown 1 = .ok (.iload_n 1, 1) := by decide +kernel
theorem dX2_setShown_2 : decode cX2_setShown 2 = .ok (.putfield 19, 3) := by decide +kernel
theorem dX2_setShown_5 : decode cX2_setShown 5 = .ok (.return_, 1) := by decide +kernel
theorem dX3_init_0 : decode cX3_init 0 = .ok (.aload_n 0, 1) := by decide +kernel
theorem dX3_init_1 : decode cX3_init 1 = .ok (.invokespecial 1, 3) := by decide +kernel
theorem dX3_init_4 : decode cX3_init 4 = .ok (.aload_n 0, 1) := by decide +kernel
theorem dX3_init_5 : decode cX3_init 5 = .ok (.iload_n 1, 1) := by decide +kernel
theorem dX3_init_6 : decode cX3_init 6 = .ok (.putfield 7, 3) := by decide +kernel
theorem dX3_init_9 : decode cX3_init 9 = .ok (.aload_n 0, 1) := by decide +kernel
theorem dX3_init_10 : decode cX3_init 10 = .ok (.aload_n 2, 1) := by decide +kernel
theorem dX3_init_11 : decode cX3_init 11 = .ok (.putfield 13, 3) := by decide +kernel
theorem dX3_init_14 : decode cX3_init 14 = .ok (.aload_n 0, 1) := by decide +kernel
theorem dX3_init_15 : decode cX3_init 15 = .ok (.aload_n 3, 1) := by decide +kernel
theorem dX3_init_16 : decode cX3_init 16 = .ok (.putfield 17, 3) := by decide +kernel
theorem dX3_init_19 : decode cX3_init 19 = .ok (.aload_n 0, 1) := by decide +kernel
theorem dX3_init_20 : decode cX3_init 20 = .ok (.aload 4, 2) := by decide +kernel
theorem dX3_init_22 : decode cX3_init 22 = .ok (.putfield 21, 3) := by decide +kernel
theorem dX3_init_25 : decode cX3_init 25 = .ok (.return_, 1) := by decide +kernel
set_option maxRecDepth 20000 in
theorem ggX4_init_X5_init : GoodIn wsX4_init wsX5_init := goodIn_r _ [22, 23, 2, 3, 24, 25, 26] (by decide +kernel) (by decide +kernel)
set_option maxRecDepth 20000 in
theorem gX4_init_X5_init : GoodIn wsX4_init (wsX5_init) := ggX4_init_X5_init
theorem dX4_init_0 : decode cX4_init 0 = .ok (.aload_n 0, 1) := by decide +kernel
theorem dX4_init_1 : decode cX4_init 1 = .ok (.invokespecial 3, 3) := by decide +kernel
theorem dX4_init_4 : decode cX4_init 4 = .ok (.aload_n 0, 1) := by decide +kernel
theorem dX4_init_5 : decode cX4_init 5 = .ok (.new 9, 3) := by decide +kernel
theorem dX4_init_8 : decode cX4_init 8 = .ok (.dup, 1) := by decide +kernel
theorem dX4_init_9 : decode cX4_init 9 = .ok (.sipush 1000, 3) := by decide +kernel
theorem dX4_init_12 : decode cX4_init 12 = .ok (.invokespecial 11, 3) := by decide +kernel
theorem dX4_init_15 : decode cX4_init 15 = .ok (.putfield 14, 3) := by decide +kernel
theorem dX4_init_18 : decode cX4_init 18 = .ok (.aload_n 0, 1) := by decide +kernel
theorem dX4_init_19 : decode cX4_init 19 = .ok (.new 9, 3) := by decide +kernel
theorem dX4_init_22 : decode cX4_init 22 = .ok (.dup, 1) := by decide +kernel
theorem dX4_init_23 : decode cX4_init 23 = .ok (.sipush 1000, 3) := by decide +kernel
theorem dX4_init_26 : decode cX4_init 26 = .ok (.invokespecial 11, 3) := by decide +kernel
theorem dX4_init_29 : decode cX4_init 29 = .ok (.putfield 20, 3) := by decide +kernel
theorem dX4_init_32 : decode cX4_init 32 = .ok (.aload_n 0, 1) := by decide +kernel
theorem dX4_init_33 : decode cX4_init 33 = .ok (.iconst 1, 1) := by decide +kernel
theorem dX4_init_34 : decode cX4_init 34 = .ok (.putfield 23, 3) := by decide +kernel
theorem dX4_init_37 : decode cX4_init 37 = .ok (.aload_n 0, 1) := by decide +kernel
theorem dX4_init_38 : decode cX4_init 38 = .ok (.ldc2_w 27, 3) := by decide +kernel
theorem dX4_init_41 : decode cX4_init 41 = .ok (.putfield 29, 3) := by decide +kernel
theorem dX4_init_44 : decode cX4_init 44 = .ok (.aload_n 0, 1) := by decide +kernel
theorem dX4_init_45 : decode cX4_init 45 = .ok (.iconst (-1), 1) := by decide +kernel
theorem dX4_init_46 : decode cX4_init 46 = .ok (.putfield 33, 3) := by decide +kernel
theorem dX4_init_49 : decode cX4_init 49 = .ok (.aload_n 0, 1) := by decide +kernel
theorem dX4_init_50 : decode cX4_init 50 = .ok (.iconst 0, 1) := by decide +kernel
theorem dX4_init_51 : decode cX4_init 51 = .ok (.putfield 36, 3) := by decide +kernel
theorem dX4_init_54 : decode cX4_init 54 = .ok (.aload_n 0, 1) := by decide +kernel
theorem dX4_init_55 : decode cX4_init 55 = .ok (.aload_n 1, 1) := by decide +kernel
theorem dX4_init_56 : decode cX4_init 56 = .ok (.putfield 39, 3) := by decide +kernel
theorem dX4_init_59 : decode cX4_init 59 = .ok (.aload_n 0, 1) := by decide +kernel
theorem dX4_init_60 : decode cX4_init 60 = .ok (.iload_n 2, 1) := by decide +kernel
theorem dX4_init_61 : decode cX4_init 61 = .ok (.putfield 43, 3) := by decide +kernel
theorem dX4_init_64 : decode cX4_init 64 = .ok (.aload_n 0, 1) := by decide +kernel
theorem dX4_init_65 : decode cX4_init 65 = .ok (.iload_n 3, 1) := by decide +kernel
theorem dX4_init_66 : decode cX4_init 66 = .ok (.putfield 46, 3) := by decide +kernel
theorem dX4_init_69 : decode cX4_init 69 = .ok (.aload_n 0, 1) := by decide +kernel
theorem dX4_init_70 : decode cX4_init 70 = .ok (.aload 4, 2) := by decide +kernel
theorem dX4_init_72 : decode cX4_init 72 = .ok (.putfield 49, 3) := by decide +kernel
theorem dX4_init_75 : decode cX4_init 75 = .ok (.aload_n 0, 1) := by decide +kernel
theorem dX4_init_76 : decode cX4_init 76 = .ok (.aload 5, 2) := by decide +kernel
theorem dX4_init_78 : decode cX4_init 78 = .ok (.putfield 53, 3) := by decide +kernel
theorem dX4_init_81 : decode cX4_init 81 = .ok (.aload_n 0, 1) := by decide +kernel
theorem dX4_init_82 : decode cX4_init 82 = .ok (.iload_n 3, 1) := by decide +kernel
theorem dX4_init_83 : decode cX4_init 83 = .ok (.putfield 57, 3) := by decide +kernel
theorem dX4_init_86 : decode cX4_init 86 = .ok (.return_, 1) := by decide +kernel
set_option maxRecDepth 20000 in
theorem ggX4_canShow_X2_canShow : GoodIn wsX4_canShow wsX2_canShow := goodIn_r _ [6, 7, 20, 21, 22] (by decide +kernel) (by decide +kernel)
set_option maxRecDepth 20000 in
theorem gX4_canShow_X2_canShow : GoodIn wsX4_canShow (wsV RX4 60 RX2 yX2_canShow wsX2_canShow) := goodIn_app (goodIn_of _ (by decide +kernel)) ggX4_canShow_X2_canShow
theorem dX4_canShow_0 : decode cX4_canShow 0 = .ok (.aload_n 0, 1) := by decide +kernel
theorem dX4_canShow_1 : decode cX4_canShow 1 = .ok (.getfield 39, 3) := by decide +kernel
theorem dX4_canShow_4 : decode cX4_canShow 4 = .ok (.iload_n 1, 1) := by decide +kernel
theorem dX4_canShow_5 : decode cX4_canShow 5 = .ok (.invokevirtual 60, 3) := by decide +kernel
theorem dX4_canShow_8 : decode cX4_canShow 8 = .ok (.ireturn, 1) := by decide +kernel
theorem dX4_setMeter_0 : decode cX4_setMeter 0 = .ok (.aload_n 0, 1) := by decide +kernel
theorem dX4_setMeter_1 : decode cX4_setMeter 1 = .ok (.aload_n 1, 1) := by decide +kernel
theorem dX4_setMeter_2 : decode cX4_setMeter 2 = .ok (.putfield 39, 3) := by decide +kernel
theorem dX4_setMeter_5 : decode cX4_setMeter 5 = .ok (.return_, 1) := by decide +kernel
theorem dX4_pace_0 : decode cX4_pace 0 = .ok (.aload_n 0, 1) := by decide +kernel
theorem dX4_pace_1 : decode cX4_pace 1 = .ok (.getfield 29, 3) := by decide +kernel
theorem dX4_pace_4 : decode cX4_pace 4 = .ok (.lreturn, 1) := by decide +kernel
theorem dX4_latestDay_0 : decode cX4_latestDay 0 = .ok (.aload_n 0, 1) := by decide +kernel
theorem dX4_latestDay_1 : decode cX4_latestDay 1 = .ok (.getfield 57, 3) := by decide +kernel
theorem dX4_latestDay_4 : decode cX4_latestDay 4 = .ok (.ireturn, 1) := by decide +kernel
theorem dX4_count_0 : decode cX4_count 0 = .ok (.aload_n 0, 1) := by decide +kernel
theorem dX4_count_1 : decode cX4_count 1 = .ok (.getfield 23, 3) := by decide +kernel
theorem dX4_count_4 : decode cX4_count 4 = .ok (.ireturn, 1) := by decide +kernel
set_option maxRecDepth 20000 in
theorem ggX4_isPlausible_X2_useAt : GoodIn wsX4_isPlausible wsX2_useAt := goodIn_r _ [10, 11, 12, 13, 45, 46, 47] (by decide +kernel) (by decide +kernel)
set_option maxRecDepth 20000 in
theorem gX4_isPlausible_X2_useAt : GoodIn wsX4_isPlausible (wsV RX4 66 RX2 yX2_useAt wsX2_useAt) := goodIn_app (goodIn_of _ (by decide +kernel)) ggX4_isPlausible_X2_useAt
set_option maxRecDepth 20000 in
theorem ggX4_isPlausible_X7_weights : GoodIn wsX4_isPlausible wsX7_weights := goodIn_r _ [18, 19, 20, 21, 17, 22, 23, 24, 25, 26, 27, 28, 29, 30, 31, 32, 48, 49] (by decide +kernel) (by decide +kernel)
set_option maxRecDepth 20000 in
theorem gX4_isPlausible_X7_weights : GoodIn wsX4_isPlausible (wsV RX4 72 RX7 yX7_weights wsX7_weights) := goodIn_app (goodIn_of _ (by decide +kernel)) ggX4_isPlausible_X7_weights
theorem dX4_isPlausible_0 : decode cX4_isPlausible 0 = .ok (.aload_n 0, 1) := by decide +kernel
theorem dX4_isPlausible_1 : decode cX4_isPlausible 1 = .ok (.getfield 39, 3) := by decide +kernel
theorem dX4_isPlausible_4 : decode cX4_isPlausible 4 = .ok (.iload_n 2, 1) := by decide +kernel
theorem dX4_isPlausible_5 : decode cX4_isPlausible 5 = .ok (.invokevirtual 66, 3) := by decide +kernel
theorem dX4_isPlausible_8 : decode cX4_isPlausible 8 = .ok (.ldc2_w 70, 3) := by decide +kernel
theorem dX4_isPlausible_11 : decode cX4_isPlausible 11 = .ok (.aload_n 0, 1) := by decide +kernel
theorem dX4_isPlausible_12 : decode cX4_isPlausible 12 = .ok (.getfield 49, 3) := by decide +kernel
theorem dX4_isPlausible_15 : decode cX4_isPlausible 15 = .ok (.aload_n 0, 1) := by decide +kernel
theorem dX4_isPlausible_16 : decode cX4_isPlausible 16 = .ok (.getfield 43, 3) := by decide +kernel
theorem dX4_isPlausible_19 : decode cX4_isPlausible 19 = .ok (.aload_n 0, 1) := by decide +kernel
theorem dX4_isPlausible_20 : decode cX4_isPlausible 20 = .ok (.getfield 57, 3) := by decide +kernel
theorem dX4_isPlausible_23 : decode cX4_isPlausible 23 = .ok (.iload_n 1, 1) := by decide +kernel
theorem dX4_isPlausible_24 : decode cX4_isPlausible 24 = .ok (.invokevirtual 72, 3) := by decide +kernel
theorem dX4_isPlausible_27 : decode cX4_isPlausible 27 = .ok (.lmul, 1) := by decide +kernel
theorem dX4_isPlausible_28 : decode cX4_isPlausible 28 = .ok (.lcmp, 1) := by decide +kernel
theorem dX4_isPlausible_29 : decode cX4_isPlausible 29 = .ok (.ifCond .gt 7, 3) := by decide +kernel
theorem dX4_isPlausible_32 : decode cX4_isPlausible 32 = .ok (.iconst 1, 1) := by decide +kernel
theorem dX4_isPlausible_33 : decode cX4_isPlausible 33 = .ok (.goto 4, 3) := by decide +kernel
theorem dX4_isPlausible_36 : decode cX4_isPlausible 36 = .ok (.iconst 0, 1) := by decide +kernel
theorem dX4_isPlausible_37 : decode cX4_isPlausible 37 = .ok (.ireturn, 1) := by decide +kernel
theorem dX4_doubt_0 : decode cX4_doubt 0 = .ok (.aload_n 0, 1) := by decide +kernel
theorem dX4_doubt_1 : decode cX4_doubt 1 = .ok (.iload_n 1, 1) := by decide +kernel
theorem dX4_doubt_2 : decode cX4_doubt 2 = .ok (.putfield 33, 3) := by decide +kernel
theorem dX4_doubt_5 : decode cX4_doubt 5 = .ok (.aload_n 0, 1) := by decide +kernel
theorem dX4_doubt_6 : decode cX4_doubt 6 = .ok (.iload_n 2, 1) := by decide +kernel
theorem dX4_doubt_7 : decode cX4_doubt 7 = .ok (.putfield 36, 3) := by decide +kernel
theorem dX4_doubt_10 : decode cX4_doubt 10 = .ok (.return_, 1) := by decide +kernel
theorem dX4_doubtedDay_0 : decode cX4_doubtedDay 0 = .ok (.aload_n 0, 1) := by decide +kernel
theorem dX4_doubtedDay_1 : decode cX4_doubtedDay 1 = .ok (.getfield 33, 3) := by decide +kernel
theorem dX4_doubtedDay_4 : decode cX4_doubtedDay 4 = .ok (.aload_n 0, 1) := by decide +kernel
theorem dX4_doubtedDay_5 : decode cX4_doubtedDay 5 = .ok (.getfield 57, 3) := by decide +kernel
theorem dX4_doubtedDay_8 : decode cX4_doubtedDay 8 = .ok (.if_icmp .le 10, 3) := by decide +kernel
theorem dX4_doubtedDay_11 : decode cX4_doubtedDay 11 = .ok (.aload_n 0, 1) := by decide +kernel
theorem dX4_doubtedDay_12 : decode cX4_doubtedDay 12 = .ok (.getfield 33, 3) := by decide +kernel
theorem dX4_doubtedDay_15 : decode cX4_doubtedDay 15 = .ok (.goto 4, 3) := by decide +kernel
theorem dX4_doubtedDay_18 : decode cX4_doubtedDay 18 = .ok (.iconst (-1), 1) := by decide +kernel
theorem dX4_doubtedDay_19 : decode cX4_doubtedDay 19 = .ok (.ireturn, 1) := by decide +kernel
theorem dX4_doubtedShown_0 : decode cX4_doubtedShown 0 = .ok (.aload_n 0, 1) := by decide +kernel
theorem dX4_doubtedShown_1 : decode cX4_doubtedShown 1 = .ok (.getfield 36, 3) := by decide +kernel
theorem dX4_doubtedShown_4 : decode cX4_doubtedShown 4 = .ok (.ireturn, 1) := by decide +kernel
set_option maxRecDepth 20000 in
theorem ggX4_take_X2_useAt : GoodIn wsX4_take wsX2_useAt := goodIn_r _ [12, 13, 14, 15, 105, 106, 107] (by decide +kernel) (by decide +kernel)
set_option maxRecDepth 20000 in
theorem gX4_take_X2_useAt : GoodIn wsX4_take (wsV RX4 66 RX2 yX2_useAt wsX2_useAt) := goodIn_app (goodIn_of _ (by decide +kernel)) ggX4_take_X2_useAt
set_option maxRecDepth 20000 in
theorem ggX4_take_X4_spreadOver : GoodIn wsX4_take wsX4_spreadOver := goodIn_r _ [20, 4, 21, 22, 23, 24, 25, 26, 27, 28, 29, 30, 31, 32, 33, 34, 35, 36, 37, 38, 39, 40, 41, 42, 43, 44, 45, 46, 47, 48, 49, 50, 51, 52, 53, 54, 55, 56, 57, 58, 59, 60, 61, 62, 63, 64, 65, 66, 67, 68, 69, 70, 71, 72, 73, 93, 94, 95, 96, 97, 98, 99, 100, 101, 102, 103, 104, 108, 109, 110, 111, 112] (by decide +kernel) (by decide +kernel)
set_option maxRecDepth 20000 in
theorem gX4_take_X4_spreadOver : GoodIn wsX4_take (wsV RX4 78 RX4 yX4_spreadOver wsX4_spreadOver) := goodIn_app (goodIn_of _ (by decide +kernel)) ggX4_take_X4_spreadOver
set_option maxRecDepth 20000 in
theorem ggX4_take_X1_partOf : GoodIn wsX4_take wsX1_partOf := goodIn_r _ [77, 52, 58, 33, 34, 35, 36, 37, 110, 111, 112, 109] (by decide +kernel) (by decide +kernel)
set_option maxRecDepth 20000 in
theorem gX4_take_X1_partOf : GoodIn wsX4_take (wsV RX4 82 RX1 yX1_partOf wsX1_partOf) := goodIn_app (goodIn_of _ (by decide +kernel)) ggX4_take_X1_partOf
set_option maxRecDepth 20000 in
theorem ggX4_take_X5_set : GoodIn wsX4_take wsX5_set := goodIn_r _ [47, 37, 109] (by decide +kernel) (by decide +kernel)
set_option maxRecDepth 20000 in
theorem gX4_take_X5_set : GoodIn wsX4_take (wsV RX4 87 RX5 yX5_set wsX5_set) := goodIn_app (goodIn_of _ (by decide +kernel)) ggX4_take_X5_set
set_option maxRecDepth 20000 in
theorem ggX4_take_X4_paceBy : GoodIn wsX4_take wsX4_paceBy := goodIn_r _ [82, 21, 22, 83, 84, 85, 86, 26, 87, 88, 24, 25, 27, 28, 29, 30, 31, 32, 33, 34, 35, 36, 37, 93, 94, 95, 96, 97, 98, 99, 100, 101, 102, 103, 104, 108, 109] (by decide +kernel) (by decide +kernel)
set_option maxRecDepth 20000 in
theorem gX4_take_X4_paceBy : GoodIn wsX4_take (wsV RX4 91 RX4 yX4_paceBy wsX4_paceBy) := goodIn_app (goodIn_of _ (by decide +kernel)) ggX4_take_X4_paceBy
set_option maxRecDepth 20000 in
theorem ggX4_take_X2_setShown : GoodIn wsX4_take wsX2_setShown := goodIn_r _ [92, 13, 105, 106, 107] (by decide +kernel) (by decide +kernel)
set_option maxRecDepth 20000 in
theorem gX4_take_X2_setShown : GoodIn wsX4_take (wsV RX4 95 RX2 yX2_setShown wsX2_setShown) := goodIn_app (goodIn_of _ (by decide +kernel)) ggX4_take_X2_setShown
theorem dX4_take_0 : decode cX4_take 0 = .ok (.aload_n 0, 1) := by decide +kernel
theorem dX4_take_1 : decode cX4_take 1 = .ok (.getfield 39, 3) := by decide +kernel
theorem dX4_take_4 : decode cX4_take 4 = .ok (.iload_n 2, 1) := by decide +kernel
theorem dX4_take_5 : decode cX4_take 5 = .ok (.invokevirtual 66, 3) := by decide +kernel
theorem dX4_take_8 : decode cX4_take 8 = .ok (.lstore_n 3, 1) := by decide +kernel
theorem dX4_take_9 : decode cX4_take 9 = .ok (.aload_n 0, 1) := by decide +kernel
theorem dX4_take_10 : decode cX4_take 10 = .ok (.lload_n 3, 1) := by decide +kernel
theorem dX4_take_11 : decode cX4_take 11 = .ok (.aload_n 0, 1) := by decide +kernel
theorem dX4_take_12 : decode cX4_take 12 = .ok (.getfield 57, 3) := by decide +kernel
theorem dX4_take_15 : decode cX4_take 15 = .ok (.iload_n 1, 1) := by decide +kernel
theorem dX4_take_16 : decode cX4_take 16 = .ok (.invokevirtual 78, 3) := by decide +kernel
theorem dX4_take_19 : decode cX4_take 19 = .ok (.aload_n 0, 1) := by decide +kernel
theorem dX4_take_20 : decode cX4_take 20 = .ok (.getfield 57, 3) := by decide +kernel
theorem dX4_take_23 : decode cX4_take 23 = .ok (.istore 5, 2) := by decide +kernel
theorem dX4_take_25 : decode cX4_take 25 = .ok (.iload 5, 2) := by decide +kernel
theorem dX4_take_27 : decode cX4_take 27 = .ok (.iload_n 1, 1) := by decide +kernel
theorem dX4_take_28 : decode cX4_take 28 = .ok (.if_icmp .ge 27, 3) := by decide +kernel
theorem dX4_take_31 : decode cX4_take 31 = .ok (.aload_n 0, 1) := by decide +kernel
theorem dX4_take_32 : decode cX4_take 32 = .ok (.getfield 14, 3) := by decide +kernel
theorem dX4_take_35 : decode cX4_take 35 = .ok (.iload 5, 2) := by decide +kernel
theorem dX4_take_37 : decode cX4_take 37 = .ok (.aload_n 0, 1) := by decide +kernel
theorem dX4_take_38 : decode cX4_take 38 = .ok (.getfield 53, 3) := by decide +kernel
theorem dX4_take_41 : decode cX4_take 41 = .ok (.iload 5, 2) := by decide +kernel
theorem dX4_take_43 : decode cX4_take 43 = .ok (.invokevirtual 82, 3) := by decide +kernel
theorem dX4_take_46 : decode cX4_take 46 = .ok (.invokevirtual 87, 3) := by decide +kernel
theorem dX4_take_49 : decode cX4_take 49 = .ok (.iinc 5 1, 3) := by decide +kernel
theorem dX4_take_52 : decode cX4_take 52 = .ok (.goto (-27), 3) := by decide +kernel
theorem dX4_take_55 : decode cX4_take 55 = .ok (.aload_n 0, 1) := by decide +kernel
theorem dX4_take_56 : decode cX4_take 56 = .ok (.aload_n 0, 1) := by decide +kernel
theorem dX4_take_57 : decode cX4_take 57 = .ok (.lload_n 3, 1) := by decide +kernel
theorem dX4_take_58 : decode cX4_take 58 = .ok (.aload_n 0, 1) := by decide +kernel
theorem dX4_take_59 : decode cX4_take 59 = .ok (.getfield 57, 3) := by decide +kernel
theorem dX4_take_62 : decode cX4_take 62 = .ok (.iload_n 1, 1) := by decide +kernel
theorem dX4_take_63 : decode cX4_take 63 = .ok (.invokevirtual 91, 3) := by decide +kernel
theorem dX4_take_66 : decode cX4_take 66 = .ok (.putfield 29, 3) := by decide +kernel
theorem dX4_take_69 : decode cX4_take 69 = .ok (.aload_n 0, 1) := by decide +kernel
theorem dX4_take_70 : decode cX4_take 70 = .ok (.getfield 20, 3) := by decide +kernel
theorem dX4_take_73 : decode cX4_take 73 = .ok (.iload_n 1, 1) := by decide +kernel
theorem dX4_take_74 : decode cX4_take 74 = .ok (.lload_n 3, 1) := by decide +kernel
theorem dX4_take_75 : decode cX4_take 75 = .ok (.lconst 1, 1) := by decide +kernel
theorem dX4_take_76 : decode cX4_take 76 = .ok (.ladd, 1) := by decide +kernel
theorem dX4_take_77 : decode cX4_take 77 = .ok (.invokevirtual 87, 3) := by decide +kernel
theorem dX4_take_80 : decode cX4_take 80 = .ok (.aload_n 0, 1) := by decide +kernel
theorem dX4_take_81 : decode cX4_take 81 = .ok (.getfield 39, 3) := by decide +kernel
theorem dX4_take_84 : decode cX4_take 84 = .ok (.iload_n 2, 1) := by decide +kernel
theorem dX4_take_85 : decode cX4_take 85 = .ok (.invokevirtual 95, 3) := by decide +kernel
theorem dX4_take_88 : decode cX4_take 88 = .ok (.aload_n 0, 1) := by decide +kernel
theorem dX4_take_89 : decode cX4_take 89 = .ok (.iload_n 1, 1) := by decide +kernel
theorem dX4_take_90 : decode cX4_take 90 = .ok (.putfield 57, 3) := by decide +kernel
theorem dX4_take_93 : decode cX4_take 93 = .ok (.aload_n 0, 1) := by decide +kernel
theorem dX4_take_94 : decode cX4_take 94 = .ok (.dup, 1) := by decide +kernel
theorem dX4_take_95 : decode cX4_take 95 = .ok (.getfield 23, 3) := by decide +kernel
theorem dX4_take_98 : decode cX4_take 98 = .ok (.iconst 1, 1) := by decide +kernel
theorem dX4_take_99 : decode cX4_take 99 = .ok (.iadd, 1) := by decide +kernel
theorem dX4_take_100 : decode cX4_take 100 = .ok (.putfield 23, 3) := by decide +kernel
theorem dX4_take_103 : decode cX4_take 103 = .ok (.lload_n 3, 1) := by decide +kernel
theorem dX4_take_104 : decode cX4_take 104 = .ok (.lreturn, 1) := by decide +kernel
theorem dX4_isSpread_0 : decode cX4_isSpread 0 = .ok (.iload_n 1, 1) := by decide +kernel
theorem dX4_isSpread_1 : decode cX4_isSpread 1 = .ok (.aload_n 0, 1) := by decide +kernel
theorem dX4_isSpread_2 : decode cX4_isSpread 2 = .ok (.getfield 57, 3) := by decide +kernel
theorem dX4_isSpread_5 : decode cX4_isSpread 5 = .ok (.if_icmp .ge 7, 3) := by decide +kernel
theorem dX4_isSpread_8 : decode cX4_isSpread 8 = .ok (.iconst 1, 1) := by decide +kernel
theorem dX4_isSpread_9 : decode cX4_isSpread 9 = .ok (.goto 4, 3) := by decide +kernel
theorem dX4_isSpread_12 : decode cX4_isSpread 12 = .ok (.iconst 0, 1) := by decide +kernel
theorem dX4_isSpread_13 : decode cX4_isSpread 13 = .ok (.ireturn, 1) := by decide +kernel
set_option maxRecDepth 20000 in
theorem ggX4_unitsOf_X4_isSpread : GoodIn wsX4_unitsOf wsX4_isSpread := goodIn_r _ [7, 8, 32, 33, 34, 35, 36, 37, 38, 39, 40, 41, 42, 43] (by decide +kernel) (by decide +kernel)
set_option maxRecDepth 20000 in
theorem gX4_unitsOf_X4_isSpread : GoodIn wsX4_unitsOf (wsV RX4 98 RX4 yX4_isSpread wsX4_isSpread) := goodIn_app (goodIn_of _ (by decide +kernel)) ggX4_unitsOf_X4_isSpread
set_option maxRecDepth 20000 in
theorem ggX4_unitsOf_X5_get : GoodIn wsX4_unitsOf wsX5_get := goodIn_r _ [13, 14, 44] (by decide +kernel) (by decide +kernel)
set_option maxRecDepth 20000 in
theorem gX4_unitsOf_X5_get : GoodIn wsX4_unitsOf (wsV RX4 101 RX5 yX5_get wsX5_get) := goodIn_app (goodIn_of _ (by decide +kernel)) ggX4_unitsOf_X5_get
set_option maxRecDepth 20000 in
theorem ggX4_unitsOf_X4_estimate : GoodIn wsX4_unitsOf wsX4_estimate := goodIn_r _ [18, 19, 20, 21, 22, 23, 24, 25, 26, 27, 28, 29, 30, 31, 10, 11, 12, 13, 14, 32, 33, 34, 35, 36, 37, 38, 39, 40, 41, 42, 43, 45, 44] (by decide +kernel) (by decide +kernel)
set_option maxRecDepth 20000 in
theorem gX4_unitsOf_X4_estimate : GoodIn wsX4_unitsOf (wsV RX4 104 RX4 yX4_estimate wsX4_estimate) := goodIn_app (goodIn_of _ (by decide +kernel)) ggX4_unitsOf_X4_estimate
theorem dX4_unitsOf_0 : decode cX4_unitsOf 0 = .ok (.aload_n 0, 1) := by decide +kernel
theorem dX4_unitsOf_1 : decode cX4_unitsOf 1 = .ok (.iload_n 1, 1) := by decide +kernel
theorem dX4_unitsOf_2 : decode cX4_unitsOf 2 = .ok (.invokevirtual 98, 3) := by decide +kernel
theorem dX4_unitsOf_5 : decode cX4_unitsOf 5 = .ok (.ifCond .eq 14, 3) := by decide +kernel
theorem dX4_unitsOf_8 : decode cX4_unitsOf 8 = .ok (.aload_n 0, 1) := by decide +kernel
theorem dX4_unitsOf_9 : decode cX4_unitsOf 9 = .ok (.getfield 14, 3) := by decide +kernel
theorem dX4_unitsOf_12 : decode cX4_unitsOf 12 = .ok (.iload_n 1, 1) := by decide +kernel
theorem dX4_unitsOf_13 : decode cX4_unitsOf 13 = .ok (.invokevirtual 101, 3) := by decide +kernel
theorem dX4_unitsOf_16 : decode cX4_unitsOf 16 = .ok (.goto 12, 3) := by decide +kernel
theorem dX4_unitsOf_19 : decode cX4_unitsOf 19 = .ok (.aload_n 0, 1) := by decide +kernel
theorem dX4_unitsOf_20 : decode cX4_unitsOf 20 = .ok (.aload_n 0, 1) := by decide +kernel
theorem dX4_unitsOf_21 : decode cX4_unitsOf 21 = .ok (.getfield 29, 3) := by decide +kernel
theorem dX4_unitsOf_24 : decode cX4_unitsOf 24 = .ok (.iload_n 1, 1) := by decide +kernel
theorem dX4_unitsOf_25 : decode cX4_unitsOf 25 = .ok (.invokevirtual 104, 3) := by decide +kernel
theorem dX4_unitsOf_28 : decode cX4_unitsOf 28 = .ok (.lreturn, 1) := by decide +kernel
set_option maxRecDepth 20000 in
theorem ggX4_unitsAnewOf_X4_readingUpTo : GoodIn wsX4_unitsAnewOf wsX4_readingUpTo := goodIn_r _ [9, 3, 1, 10, 11, 12, 13, 14, 15, 89, 90, 91, 92, 93, 94, 95, 96, 97, 98, 99, 100, 101] (by decide +kernel) (by decide +kernel)
set_option maxRecDepth 20000 in
theorem gX4_unitsAnewOf_X4_readingUpTo : GoodIn wsX4_unitsAnewOf (wsV RX4 108 RX4 yX4_readingUpTo wsX4_readingUpTo) := goodIn_app (goodIn_of _ (by decide +kernel)) ggX4_unitsAnewOf_X4_readingUpTo
set_option maxRecDepth 20000 in
theorem ggX4_unitsAnewOf_X4_readingBehind : GoodIn wsX4_unitsAnewOf wsX4_readingBehind := goodIn_r _ [19, 1, 10, 11, 12, 13, 14, 15, 89, 90, 91, 92, 93, 94, 95, 96, 97, 98, 99, 100, 101] (by decide +kernel) (by decide +kernel)
set_option maxRecDepth 20000 in
theorem gX4_unitsAnewOf_X4_readingBehind : GoodIn wsX4_unitsAnewOf (wsV RX4 112 RX4 yX4_readingBehind wsX4_readingBehind) := goodIn_app (goodIn_of _ (by decide +kernel)) ggX4_unitsAnewOf_X4_readingBehind
set_option maxRecDepth 20000 in
theorem ggX4_unitsAnewOf_X5_get : GoodIn wsX4_unitsAnewOf wsX5_get := goodIn_r _ [14, 15, 101] (by decide +kernel) (by decide +kernel)
set_option maxRecDepth 20000 in
theorem gX4_unitsAnewOf_X5_get : GoodIn wsX4_unitsAnewOf (wsV RX4 101 RX5 yX5_get wsX5_get) := goodIn_app (goodIn_of _ (by decide +kernel)) ggX4_unitsAnewOf_X5_get
set_option maxRecDepth 20000 in
theorem ggX4_unitsAnewOf_X4_spreadOver : GoodIn wsX4_unitsAnewOf wsX4_spreadOver := goodIn_r _ [23, 2, 24, 25, 26, 27, 28, 29, 30, 31, 32, 33, 34, 35, 11, 12, 13, 14, 15, 36, 37, 38, 39, 40, 41, 42, 43, 44, 45, 46, 47, 48, 49, 50, 51, 52, 53, 54, 55, 56, 57, 58, 59, 60, 61, 62, 63, 64, 65, 66, 67, 68, 69, 70, 71, 89, 90, 91, 92, 93, 94, 95, 96, 97, 98, 99, 100, 102, 101, 103, 104, 105] (by decide +kernel) (by decide +kernel)
set_option maxRecDepth 20000 in
theorem gX4_unitsAnewOf_X4_spreadOver : GoodIn wsX4_unitsAnewOf (wsV RX4 78 RX4 yX4_spreadOver wsX4_spreadOver) := goodIn_app (goodIn_of _ (by decide +kernel)) ggX4_unitsAnewOf_X4_spreadOver
set_option maxRecDepth 20000 in
theorem ggX4_unitsAnewOf_X1_partOf : GoodIn wsX4_unitsAnewOf wsX1_partOf := goodIn_r _ [75, 50, 56, 11, 12, 13, 14, 15, 103, 104, 105, 101] (by decide +kernel) (by decide +kernel)
set_option maxRecDepth 20000 in
theorem gX4_unitsAnewOf_X1_partOf : GoodIn wsX4_unitsAnewOf (wsV RX4 82 RX1 yX1_partOf wsX1_partOf) := goodIn_app (goodIn_of _ (by decide +kernel)) ggX4_unitsAnewOf_X1_partOf
set_option maxRecDepth 20000 in
theorem ggX4_unitsAnewOf_X4_estimate : GoodIn wsX4_unitsAnewOf wsX4_estimate := goodIn_r _ [79, 24, 25, 4, 26, 27, 28, 29, 30, 31, 32, 33, 34, 35, 11, 12, 13, 14, 15, 89, 90, 91, 92, 93, 94, 95, 96, 97, 98, 99, 100, 102, 101] (by decide +kernel) (by decide +kernel)
set_option maxRecDepth 20000 in
theorem gX4_unitsAnewOf_X4_estimate : GoodIn wsX4_unitsAnewOf (wsV RX4 104 RX4 yX4_estimate wsX4_estimate) := goodIn_app (goodIn_of _ (by decide +kernel)) ggX4_unitsAnewOf_X4_estimate
set_option maxRecDepth 20000 in
theorem ggX4_unitsAnewOf_X4_paceBy : GoodIn wsX4_unitsAnewOf wsX4_paceBy := goodIn_r _ [83, 24, 25, 4, 84, 85, 86, 29, 87, 88, 27, 28, 30, 31, 32, 33, 34, 35, 11, 12, 13, 14, 15, 89, 90, 91, 92, 93, 94, 95, 96, 97, 98, 99, 100, 102, 101] (by decide +kernel) (by decide +kernel)
set_option maxRecDepth 20000 in
theorem gX4_unitsAnewOf_X4_paceBy : GoodIn wsX4_unitsAnewOf (wsV RX4 91 RX4 yX4_paceBy wsX4_paceBy) := goodIn_app (goodIn_of _ (by decide +kernel)) ggX4_unitsAnewOf_X4_paceBy
theorem dX4_unitsAnewOf_0 : decode cX4_unitsAnewOf 0 = .ok (.aload_n 0, 1) := by decide +kernel
theorem dX4_unitsAnewOf_1 : decode cX4_unitsAnewOf 1 = .ok (.iload_n 1, 1) := by decide +kernel
theorem dX4_unitsAnewOf_2 : decode cX4_unitsAnewOf 2 = .ok (.invokevirtual 108, 3) := by decide +kernel
theorem dX4_unitsAnewOf_5 : decode cX4_unitsAnewOf 5 = .ok (.istore_n 2, 1) := by decide +kernel
theorem dX4_unitsAnewOf_6 : decode cX4_unitsAnewOf 6 = .ok (.aload_n 0, 1) := by decide +kernel
theorem dX4_unitsAnewOf_7 : decode cX4_unitsAnewOf 7 = .ok (.iload_n 1, 1) := by decide +kernel
theorem dX4_unitsAnewOf_8 : decode cX4_unitsAnewOf 8 = .ok (.invokevirtual 112, 3) := by decide +kernel
theorem dX4_unitsAnewOf_11 : decode cX4_unitsAnewOf 11 = .ok (.istore_n 3, 1) := by decide +kernel
theorem dX4_unitsAnewOf_12 : decode cX4_unitsAnewOf 12 = .ok (.iload_n 3, 1) := by decide +kernel
theorem dX4_unitsAnewOf_13 : decode cX4_unitsAnewOf 13 = .ok (.iconst (-1), 1) := by decide +kernel
theorem dX4_unitsAnewOf_14 : decode cX4_unitsAnewOf 14 = .ok (.if_icmp .eq 28, 3) := by decide +kernel
theorem dX4_unitsAnewOf_17 : decode cX4_unitsAnewOf 17 = .ok (.aload_n 0, 1) := by decide +kernel
theorem dX4_unitsAnewOf_18 : decode cX4_unitsAnewOf 18 = .ok (.aload_n 0, 1) := by decide +kernel
theorem dX4_unitsAnewOf_19 : decode cX4_unitsAnewOf 19 = .ok (.getfield 20, 3) := by decide +kernel
theorem dX4_unitsAnewOf_22 : decode cX4_unitsAnewOf 22 = .ok (.iload_n 3, 1) := by decide +kernel
theorem dX4_unitsAnewOf_23 : decode cX4_unitsAnewOf 23 = .ok (.invokevirtual 101, 3) := by decide +kernel
theorem dX4_unitsAnewOf_26 : decode cX4_unitsAnewOf 26 = .ok (.lconst 1, 1) := by decide +kernel
theorem dX4_unitsAnewOf_27 : decode cX4_unitsAnewOf 27 = .ok (.lsub, 1) := by decide +kernel
theorem dX4_unitsAnewOf_28 : decode cX4_unitsAnewOf 28 = .ok (.iload_n 2, 1) := by decide +kernel
theorem dX4_unitsAnewOf_29 : decode cX4_unitsAnewOf 29 = .ok (.iload_n 3, 1) := by decide +kernel
theorem dX4_unitsAnewOf_30 : decode cX4_unitsAnewOf 30 = .ok (.invokevirtual 78, 3) := by decide +kernel
theorem dX4_unitsAnewOf_33 : decode cX4_unitsAnewOf 33 = .ok (.aload_n 0, 1) := by decide +kernel
theorem dX4_unitsAnewOf_34 : decode cX4_unitsAnewOf 34 = .ok (.getfield 53, 3) := by decide +kernel
theorem dX4_unitsAnewOf_37 : decode cX4_unitsAnewOf 37 = .ok (.iload_n 1, 1) := by decide +kernel
theorem dX4_unitsAnewOf_38 : decode cX4_unitsAnewOf 38 = .ok (.invokevirtual 82, 3) := by decide +kernel
theorem dX4_unitsAnewOf_41 : decode cX4_unitsAnewOf 41 = .ok (.lreturn, 1) := by decide +kernel
theorem dX4_unitsAnewOf_42 : decode cX4_unitsAnewOf 42 = .ok (.iload_n 2, 1) := by decide +kernel
theorem dX4_unitsAnewOf_43 : decode cX4_unitsAnewOf 43 = .ok (.aload_n 0, 1) := by decide +kernel
theorem dX4_unitsAnewOf_44 : decode cX4_unitsAnewOf 44 = .ok (.getfield 46, 3) := by decide +kernel
theorem dX4_unitsAnewOf_47 : decode cX4_unitsAnewOf 47 = .ok (.if_icmp .ne 12, 3) := by decide +kernel
theorem dX4_unitsAnewOf_50 : decode cX4_unitsAnewOf 50 = .ok (.aload_n 0, 1) := by decide +kernel
theorem dX4_unitsAnewOf_51 : decode cX4_unitsAnewOf 51 = .ok (.ldc2_w 27, 3) := by decide +kernel
theorem dX4_unitsAnewOf_54 : decode cX4_unitsAnewOf 54 = .ok (.iload_n 1, 1) := by decide +kernel
theorem dX4_unitsAnewOf_55 : decode cX4_unitsAnewOf 55 = .ok (.invokevirtual 104, 3) := by decide +kernel
theorem dX4_unitsAnewOf_58 : decode cX4_unitsAnewOf 58 = .ok (.lreturn, 1) := by decide +kernel
theorem dX4_unitsAnewOf_59 : decode cX4_unitsAnewOf 59 = .ok (.aload_n 0, 1) := by decide +kernel
theorem dX4_unitsAnewOf_60 : decode cX4_unitsAnewOf 60 = .ok (.aload_n 0, 1) := by decide +kernel
theorem dX4_unitsAnewOf_61 : decode cX4_unitsAnewOf 61 = .ok (.getfield 20, 3) := by decide +kernel
theorem dX4_unitsAnewOf_64 : decode cX4_unitsAnewOf 64 = .ok (.iload_n 2, 1) := by decide +kernel
theorem dX4_unitsAnewOf_65 : decode cX4_unitsAnewOf 65 = .ok (.invokevirtual 101, 3) := by decide +kernel
theorem dX4_unitsAnewOf_68 : decode cX4_unitsAnewOf 68 = .ok (.lconst 1, 1) := by decide +kernel
theorem dX4_unitsAnewOf_69 : decode cX4_unitsAnewOf 69 = .ok (.lsub, 1) := by decide +kernel
theorem dX4_unitsAnewOf_70 : decode cX4_unitsAnewOf 70 = .ok (.aload_n 0, 1) := by decide +kernel
theorem dX4_unitsAnewOf_71 : decode cX4_unitsAnewOf 71 = .ok (.iload_n 2, 1) := by decide +kernel
theorem dX4_unitsAnewOf_72 : decode cX4_unitsAnewOf 72 = .ok (.iconst 1, 1) := by decide +kernel
theorem dX4_unitsAnewOf_73 : decode cX4_unitsAnewOf 73 = .ok (.isub, 1) := by decide +kernel
theorem dX4_unitsAnewOf_74 : decode cX4_unitsAnewOf 74 = .ok (.invokevirtual 108, 3) := by decide +kernel
theorem dX4_unitsAnewOf_77 : decode cX4_unitsAnewOf 77 = .ok (.iload_n 2, 1) := by decide +kernel
theorem dX4_unitsAnewOf_78 : decode cX4_unitsAnewOf 78 = .ok (.invokevirtual 91, 3) := by decide +kernel
theorem dX4_unitsAnewOf_81 : decode cX4_unitsAnewOf 81 = .ok (.lstore 4, 2) := by decide +kernel
theorem dX4_unitsAnewOf_83 : decode cX4_unitsAnewOf 83 = .ok (.aload_n 0, 1) := by decide +kernel
theorem dX4_unitsAnewOf_84 : decode cX4_unitsAnewOf 84 = .ok (.lload 4, 2) := by decide +kernel
theorem dX4_unitsAnewOf_86 : decode cX4_unitsAnewOf 86 = .ok (.iload_n 1, 1) := by decide +kernel
theorem dX4_unitsAnewOf_87 : decode cX4_unitsAnewOf 87 = .ok (.invokevirtual 104, 3) := by decide +kernel
theorem dX4_unitsAnewOf_90 : decode cX4_unitsAnewOf 90 = .ok (.lreturn, 1) := by decide +kernel
set_option maxRecDepth 20000 in
theorem ggX4_spreadOver_X7_weight : GoodIn wsX4_spreadOver wsX7_weight := goodIn_r _ [8, 9, 10, 11, 12, 13, 14, 15, 16, 17, 18, 67, 68] (by decide +kernel) (by decide +kernel)
set_option maxRecDepth 20000 in
theorem gX4_spreadOver_X7_weight : GoodIn wsX4_spreadOver (wsV RX4 115 RX7 yX7_weight wsX7_weight) := goodIn_app (goodIn_of _ (by decide +kernel)) ggX4_spreadOver_X7_weight
set_option maxRecDepth 20000 in
theorem ggX4_spreadOver_X1_setWeight : GoodIn wsX4_spreadOver wsX1_setWeight := goodIn_r _ [23, 24, 25, 26, 27, 16, 28, 18, 69, 70, 71, 68] (by decide +kernel) (by decide +kernel)
set_option maxRecDepth 20000 in
theorem gX4_spreadOver_X1_setWeight : GoodIn wsX4_spreadOver (wsV RX4 119 RX1 yX1_setWeight wsX1_setWeight) := goodIn_app (goodIn_of _ (by decide +kernel)) ggX4_spreadOver_X1_setWeight
set_option maxRecDepth 20000 in
theorem ggX4_spreadOver_X1_divide : GoodIn wsX4_spreadOver wsX1_divide := goodIn_r _ [32, 24, 33, 34, 35, 36, 37, 22, 38, 39, 14, 15, 16, 17, 18, 25, 26, 27, 28, 40, 41, 42, 43, 44, 45, 46, 47, 48, 49, 50, 51, 52, 53, 54, 69, 70, 71, 68] (by decide +kernel) (by decide +kernel)
set_option maxRecDepth 20000 in
theorem gX4_spreadOver_X1_divide : GoodIn wsX4_spreadOver (wsV RX4 122 RX1 yX1_divide wsX1_divide) := goodIn_app (goodIn_of _ (by decide +kernel)) ggX4_spreadOver_X1_divide
theorem dX4_spreadOver_0 : decode cX4_spreadOver 0 = .ok (.iload_n 3, 1) := by decide +kernel
theorem dX4_spreadOver_1 : decode cX4_spreadOver 1 = .ok (.istore 5, 2) := by decide +kernel
theorem dX4_spreadOver_3 : decode cX4_spreadOver 3 = .ok (.iload 5, 2) := by decide +kernel
theorem dX4_spreadOver_5 : decode cX4_spreadOver 5 = .ok (.iload 4, 2) := by decide +kernel
theorem dX4_spreadOver_7 : decode cX4_spreadOver 7 = .ok (.if_icmp .ge 31, 3) := by decide +kernel
theorem dX4_spreadOver_10 : decode cX4_spreadOver 10 = .ok (.aload_n 0, 1) := by decide +kernel
theorem dX4_spreadOver_11 : decode cX4_spreadOver 11 = .ok (.getfield 53, 3) := by decide +kernel
theorem dX4_spreadOver_14 : decode cX4_spreadOver 14 = .ok (.iload 5, 2) := by decide +kernel
theorem dX4_spreadOver_16 : decode cX4_spreadOver 16 = .ok (.aload_n 0, 1) := by decide +kernel
theorem dX4_spreadOver_17 : decode cX4_spreadOver 17 = .ok (.getfield 49, 3) := by decide +kernel
theorem dX4_spreadOver_20 : decode cX4_spreadOver 20 = .ok (.aload_n 0, 1) := by decide +kernel
theorem dX4_spreadOver_21 : decode cX4_spreadOver 21 = .ok (.getfield 43, 3) := by decide +kernel
theorem dX4_spreadOver_24 : decode cX4_spreadOver 24 = .ok (.iload 5, 2) := by decide +kernel
theorem dX4_spreadOver_26 : decode cX4_spreadOver 26 = .ok (.invokevirtual 115, 3) := by decide +kernel
theorem dX4_spreadOver_29 : decode cX4_spreadOver 29 = .ok (.invokevirtual 119, 3) := by decide +kernel
theorem dX4_spreadOver_32 : decode cX4_spreadOver 32 = .ok (.iinc 5 1, 3) := by decide +kernel
theorem dX4_spreadOver_35 : decode cX4_spreadOver 35 = .ok (.goto (-32), 3) := by decide +kernel
theorem dX4_spreadOver_38 : decode cX4_spreadOver 38 = .ok (.aload_n 0, 1) := by decide +kernel
theorem dX4_spreadOver_39 : decode cX4_spreadOver 39 = .ok (.getfield 53, 3) := by decide +kernel
theorem dX4_spreadOver_42 : decode cX4_spreadOver 42 = .ok (.lload_n 1, 1) := by decide +kernel
theorem dX4_spreadOver_43 : decode cX4_spreadOver 43 = .ok (.iload_n 3, 1) := by decide +kernel
theorem dX4_spreadOver_44 : decode cX4_spreadOver 44 = .ok (.iload 4, 2) := by decide +kernel
theorem dX4_spreadOver_46 : decode cX4_spreadOver 46 = .ok (.invokevirtual 122, 3) := by decide +kernel
theorem dX4_spreadOver_49 : decode cX4_spreadOver 49 = .ok (.return_, 1) := by decide +kernel
set_option maxRecDepth 20000 in
theorem ggX4_paceBy_X7_weights : GoodIn wsX4_paceBy wsX7_weights := goodIn_r _ [8, 9, 10, 11, 7, 12, 13, 14, 15, 16, 17, 18, 19, 20, 21, 22, 35, 36] (by decide +kernel) (by decide +kernel)
set_option maxRecDepth 20000 in
theorem gX4_paceBy_X7_weights : GoodIn wsX4_paceBy (wsV RX4 72 RX7 yX7_weights wsX7_weights) := goodIn_app (goodIn_of _ (by decide +kernel)) ggX4_paceBy_X7_weights
theorem dX4_paceBy_0 : decode cX4_paceBy 0 = .ok (.aload_n 0, 1) := by decide +kernel
theorem dX4_paceBy_1 : decode cX4_paceBy 1 = .ok (.getfield 49, 3) := by decide +kernel
theorem dX4_paceBy_4 : decode cX4_paceBy 4 = .ok (.aload_n 0, 1) := by decide +kernel
theorem dX4_paceBy_5 : decode cX4_paceBy 5 = .ok (.getfield 43, 3) := by decide +kernel
theorem dX4_paceBy_8 : decode cX4_paceBy 8 = .ok (.iload_n 3, 1) := by decide +kernel
theorem dX4_paceBy_9 : decode cX4_paceBy 9 = .ok (.iload 4, 2) := by decide +kernel
theorem dX4_paceBy_11 : decode cX4_paceBy 11 = .ok (.invokevirtual 72, 3) := by decide +kernel
theorem dX4_paceBy_14 : decode cX4_paceBy 14 = .ok (.lstore 5, 2) := by decide +kernel
theorem dX4_paceBy_16 : decode cX4_paceBy 16 = .ok (.lload 5, 2) := by decide +kernel
theorem dX4_paceBy_18 : decode cX4_paceBy 18 = .ok (.lconst 0, 1) := by decide +kernel
theorem dX4_paceBy_19 : decode cX4_paceBy 19 = .ok (.lcmp, 1) := by decide +kernel
theorem dX4_paceBy_20 : decode cX4_paceBy 20 = .ok (.ifCond .le 14, 3) := by decide +kernel
theorem dX4_paceBy_23 : decode cX4_paceBy 23 = .ok (.lload_n 1, 1) := by decide +kernel
theorem dX4_paceBy_24 : decode cX4_paceBy 24 = .ok (.ldc2_w 27, 3) := by decide +kernel
theorem dX4_paceBy_27 : decode cX4_paceBy 27 = .ok (.lmul, 1) := by decide +kernel
theorem dX4_paceBy_28 : decode cX4_paceBy 28 = .ok (.lload 5, 2) := by decide +kernel
theorem dX4_paceBy_30 : decode cX4_paceBy 30 = .ok (.ldiv, 1) := by decide +kernel
theorem dX4_paceBy_31 : decode cX4_paceBy 31 = .ok (.goto 4, 3) := by decide +kernel
theorem dX4_paceBy_34 : decode cX4_paceBy 34 = .ok (.lconst 0, 1) := by decide +kernel
theorem dX4_paceBy_35 : decode cX4_paceBy 35 = .ok (.lreturn, 1) := by decide +kernel
set_option maxRecDepth 20000 in
theorem ggX4_estimate_X7_weight : GoodIn wsX4_estimate wsX7_weight := goodIn_r _ [8, 9, 10, 11, 12, 13, 14, 15, 16, 17, 18, 31, 32] (by decide +kernel) (by decide +kernel)
set_option maxRecDepth 20000 in
theorem gX4_estimate_X7_weight : GoodIn wsX4_estimate (wsV RX4 115 RX7 yX7_weight wsX7_weight) := goodIn_app (goodIn_of _ (by decide +kernel)) ggX4_estimate_X7_weight
theorem dX4_estimate_0 : decode cX4_estimate 0 = .ok (.lload_n 1, 1) := by decide +kernel
theorem dX4_estimate_1 : decode cX4_estimate 1 = .ok (.aload_n 0, 1) := by decide +kernel
theorem dX4_estimate_2 : decode cX4_estimate 2 = .ok (.getfield 49, 3) := by decide +kernel
theorem dX4_estimate_5 : decode cX4_estimate 5 = .ok (.aload_n 0, 1) := by decide +kernel
theorem dX4_estimate_6 : decode cX4_estimate 6 = .ok (.getfield 43, 3) := by decide +kernel
theorem dX4_estimate_9 : decode cX4_estimate 9 = .ok (.iload_n 3, 1) := by decide +kernel
theorem dX4_estimate_10 : decode cX4_estimate 10 = .ok (.invokevirtual 115, 3) := by decide +kernel
theorem dX4_estimate_13 : decode cX4_estimate 13 = .ok (.lmul, 1) := by decide +kernel
theorem dX4_estimate_14 : decode cX4_estimate 14 = .ok (.ldc2_w 27, 3) := by decide +kernel
theorem dX4_estimate_17 : decode cX4_estimate 17 = .ok (.ldiv, 1) := by decide +kernel
theorem dX4_estimate_18 : decode cX4_estimate 18 = .ok (.lreturn, 1) := by decide +kernel
set_option maxRecDepth 20000 in
theorem ggX4_readingUpTo_X5_get : GoodIn wsX4_readingUpTo wsX5_get := goodIn_r _ [7, 8, 21] (by decide +kernel) (by decide +kernel)
set_option maxRecDepth 20000 in
theorem gX4_readingUpTo_X5_get : GoodIn wsX4_readingUpTo (wsV RX4 101 RX5 yX5_get wsX5_get) := goodIn_app (goodIn_of _ (by decide +kernel)) ggX4_readingUpTo_X5_get
theorem dX4_readingUpTo_0 : decode cX4_readingUpTo 0 = .ok (.iload_n 1, 1) := by decide +kernel
theorem dX4_readingUpTo_1 : decode cX4_readingUpTo 1 = .ok (.istore_n 2, 1) := by decide +kernel
theorem dX4_readingUpTo_2 : decode cX4_readingUpTo 2 = .ok (.iload_n 2, 1) := by decide +kernel
theorem dX4_readingUpTo_3 : decode cX4_readingUpTo 3 = .ok (.aload_n 0, 1) := by decide +kernel
theorem dX4_readingUpTo_4 : decode cX4_readingUpTo 4 = .ok (.getfield 46, 3) := by decide +kernel
theorem dX4_readingUpTo_7 : decode cX4_readingUpTo 7 = .ok (.if_icmp .le 22, 3) := by decide +kernel
theorem dX4_readingUpTo_10 : decode cX4_readingUpTo 10 = .ok (.aload_n 0, 1) := by decide +kernel
theorem dX4_readingUpTo_11 : decode cX4_readingUpTo 11 = .ok (.getfield 20, 3) := by decide +kernel
theorem dX4_readingUpTo_14 : decode cX4_readingUpTo 14 = .ok (.iload_n 2, 1) := by decide +kernel
theorem dX4_readingUpTo_15 : decode cX4_readingUpTo 15 = .ok (.invokevirtual 101, 3) := by decide +kernel
theorem dX4_readingUpTo_18 : decode cX4_readingUpTo 18 = .ok (.lconst 0, 1) := by decide +kernel
theorem dX4_readingUpTo_19 : decode cX4_readingUpTo 19 = .ok (.lcmp, 1) := by decide +kernel
theorem dX4_readingUpTo_20 : decode cX4_readingUpTo 20 = .ok (.ifCond .ne 9, 3) := by decide +kernel
theorem dX4_readingUpTo_23 : decode cX4_readingUpTo 23 = .ok (.iinc 2 (-1), 3) := by decide +kernel
theorem dX4_readingUpTo_26 : decode cX4_readingUpTo 26 = .ok (.goto (-24), 3) := by decide +kernel
theorem dX4_readingUpTo_29 : decode cX4_readingUpTo 29 = .ok (.iload_n 2, 1) := by decide +kernel
theorem dX4_readingUpTo_30 : decode cX4_readingUpTo 30 = .ok (.ireturn, 1) := by decide +kernel
set_option maxRecDepth 20000 in
theorem ggX4_readingBehind_X5_get : GoodIn wsX4_readingBehind wsX5_get := goodIn_r _ [6, 7, 20] (by decide +kernel) (by decide +kernel)
set_option maxRecDepth 20000 in
theorem gX4_readingBehind_X5_get : GoodIn wsX4_readingBehind (wsV RX4 101 RX5 yX5_get wsX5_get) := goodIn_app (goodIn_of _ (by decide +kernel)) ggX4_readingBehind_X5_get
theorem dX4_readingBehind_0 : decode cX4_readingBehind 0 = .ok (.iload_n 1, 1) := by decide +kernel
theorem dX4_readingBehind_1 : decode cX4_readingBehind 1 = .ok (.iconst 1, 1) := by decide +kernel
theorem dX4_readingBehind_2 : decode cX4_readingBehind 2 = .ok (.iadd, 1) := by decide +kernel
theorem dX4_readingBehind_3 : decode cX4_readingBehind 3 = .ok (.istore_n 2, 1) := by decide +kernel
theorem dX4_readingBehind_4 : decode cX4_readingBehind 4 = .ok (.iload_n 2, 1) := by decide +kernel
theorem dX4_readingBehind_5 : decode cX4_readingBehind 5 = .ok (.sipush 1000, 3) := by decide +kernel
theorem dX4_readingBehind_8 : decode cX4_readingBehind 8 = .ok (.if_icmp .ge 24, 3) := by decide +kernel
theorem dX4_readingBehind_11 : decode cX4_readingBehind 11 = .ok (.aload_n 0, 1) := by decide +kernel
theorem dX4_readingBehind_12 : decode cX4_readingBehind 12 = .ok (.getfield 20, 3) := by decide +kernel
theorem dX4_readingBehind_15 : decode cX4_readingBehind 15 = .ok (.iload_n 2, 1) := by decide +kernel
theorem dX4_readingBehind_16 : decode cX4_readingBehind 16 = .ok (.invokevirtual 101, 3) := by decide +kernel
theorem dX4_readingBehind_19 : decode cX4_readingBehind 19 = .ok (.lconst 0, 1) := by decide +kernel
theorem dX4_readingBehind_20 : decode cX4_readingBehind 20 = .ok (.lcmp, 1) := by decide +kernel
theorem dX4_readingBehind_21 : decode cX4_readingBehind 21 = .ok (.ifCond .eq 5, 3) := by decide +kernel
theorem dX4_readingBehind_24 : decode cX4_readingBehind 24 = .ok (.iload_n 2, 1) := by decide +kernel
theorem dX4_readingBehind_25 : decode cX4_readingBehind 25 = .ok (.ireturn, 1) := by decide +kernel
theorem dX4_readingBehind_26 : decode cX4_readingBehind 26 = .ok (.iinc 2 1, 3) := by decide +kernel
theorem dX4_readingBehind_29 : decode cX4_readingBehind 29 = .ok (.goto (-25), 3) := by decide +kernel
theorem dX4_readingBehind_32 : decode cX4_readingBehind 32 = .ok (.iconst (-1), 1) := by decide +kernel
theorem dX4_readingBehind_33 : decode cX4_readingBehind 33 = .ok (.ireturn, 1) := by decide +kernel
theorem dX5_init_0 : decode cX5_init 0 = .ok (.aload_n 0, 1) := by decide +kernel
theorem dX5_init_1 : decode cX5_init 1 = .ok (.invokespecial 1, 3) := by decide +kernel
theorem dX5_init_4 : decode cX5_init 4 = .ok (.aload_n 0, 1) := by decide +kernel
theorem dX5_init_5 : decode cX5_init 5 = .ok (.iload_n 1, 1) := by decide +kernel
theorem dX5_init_6 : decode cX5_init 6 = .ok (.ifCond .le 7, 3) := by decide +kernel
theorem dX5_init_9 : decode cX5_init 9 = .ok (.iload_n 1, 1) := by decide +kernel
theorem dX5_init_10 : decode cX5_init 10 = .ok (.goto 4, 3) := by decide +kernel
theorem dX5_init_13 : decode cX5_init 13 = .ok (.iconst 0, 1) := by decide +kernel
theorem dX5_init_14 : decode cX5_init 14 = .ok (.newarray .long, 2) := by decide +kernel
theorem dX5_init_16 : decode cX5_init 16 = .ok (.putfield 7, 3) := by decide +kernel
theorem dX5_init_19 : decode cX5_init 19 = .ok (.return_, 1) := by decide +kernel
theorem dX5_get_0 : decode cX5_get 0 = .ok (.iload_n 1, 1) := by decide +kernel
theorem dX5_get_1 : decode cX5_get 1 = .ok (.ifCond .lt 21, 3) := by decide +kernel
theorem dX5_get_4 : decode cX5_get 4 = .ok (.iload_n 1, 1) := by decide +kernel
theorem dX5_get_5 : decode cX5_get 5 = .ok (.aload_n 0, 1) := by decide +kernel
theorem dX5_get_6 : decode cX5_get 6 = .ok (.getfield 7, 3) := by decide +kernel
theorem dX5_get_9 : decode cX5_get 9 = .ok (.arraylength, 1) := by decide +kernel
theorem dX5_get_10 : decode cX5_get 10 = .ok (.if_icmp .ge 12, 3) := by decide +kernel
theorem dX5_get_13 : decode cX5_get 13 = .ok (.aload_n 0, 1) := by decide +kernel
theorem dX5_get_14 : decode cX5_get 14 = .ok (.getfield 7, 3) := by decide +kernel
theorem dX5_get_17 : decode cX5_get 17 = .ok (.iload_n 1, 1) := by decide +kernel
theorem dX5_get_18 : decode cX5_get 18 = .ok (.laload, 1) := by decide +kernel
theorem dX5_get_19 : decode cX5_get 19 = .ok (.goto 4, 3) := by decide +kernel
theorem dX5_get_22 : decode cX5_get 22 = .ok (.lconst 0, 1) := by decide +kernel
theorem dX5_get_23 : decode cX5_get 23 = .ok (.lreturn, 1) := by decide +kernel
theorem dX5_set_0 : decode cX5_set 0 = .ok (.iload_n 1, 1) := by decide +kernel
theorem dX5_set_1 : decode cX5_set 1 = .ok (.ifCond .lt 19, 3) := by decide +kernel
theorem dX5_set_4 : decode cX5_set 4 = .ok (.iload_n 1, 1) := by decide +kernel
theorem dX5_set_5 : decode cX5_set 5 = .ok (.aload_n 0, 1) := by decide +kernel
theorem dX5_set_6 : decode cX5_set 6 = .ok (.getfield 7, 3) := by decide +kernel
theorem dX5_set_9 : decode cX5_set 9 = .ok (.arraylength, 1) := by decide +kernel
theorem dX5_set_10 : decode cX5_set 10 = .ok (.if_icmp .ge 10, 3) := by decide +kernel
theorem dX5_set_13 : decode cX5_set 13 = .ok (.aload_n 0, 1) := by decide +kernel
theorem dX5_set_14 : decode cX5_set 14 = .ok (.getfield 7, 3) := by decide +kernel
theorem dX5_set_17 : decode cX5_set 17 = .ok (.iload_n 1, 1) := by decide +kernel
theorem dX5_set_18 : decode cX5_set 18 = .ok (.lload_n 2, 1) := by decide +kernel
theorem dX5_set_19 : decode cX5_set 19 = .ok (.lastore, 1) := by decide +kernel
theorem dX5_set_20 : decode cX5_set 20 = .ok (.return_, 1) := by decide +kernel
set_option maxRecDepth 20000 in
theorem ggX5_add_X5_get : GoodIn wsX5_add wsX5_get := goodIn_r _ [5, 6, 11] (by decide +kernel) (by decide +kernel)
set_option maxRecDepth 20000 in
theorem gX5_add_X5_get : GoodIn wsX5_add (wsV RX5 13 RX5 yX5_get wsX5_get) := goodIn_app (goodIn_of _ (by decide +kernel)) ggX5_add_X5_get
set_option maxRecDepth 20000 in
theorem ggX5_add_X5_set : GoodIn wsX5_add wsX5_set := goodIn_r _ [10, 6, 11] (by decide +kernel) (by decide +kernel)
set_option maxRecDepth 20000 in
theorem gX5_add_X5_set : GoodIn wsX5_add (wsV RX5 17 RX5 yX5_set wsX5_set) := goodIn_app (goodIn_of _ (by decide +kernel)) ggX5_add_X5_set
theorem dX5_add_0 : decode cX5_add 0 = .ok (.aload_n 0, 1) := by decide +kernel
theorem dX5_add_1 : decode cX5_add 1 = .ok (.iload_n 1, 1) := by decide +kernel
theorem dX5_add_2 : decode cX5_add 2 = .ok (.aload_n 0, 1) := by decide +kernel
theorem dX5_add_3 : decode cX5_add 3 = .ok (.iload_n 1, 1) := by decide +kernel
theorem dX5_add_4 : decode cX5_add 4 = .ok (.invokevirtual 13, 3) := by decide +kernel
theorem dX5_add_7 : decode cX5_add 7 = .ok (.lload_n 2, 1) := by decide +kernel
theorem dX5_add_8 : decode cX5_add 8 = .ok (.ladd, 1) := by decide +kernel
theorem dX5_add_9 : decode cX5_add 9 = .ok (.invokevirtual 17, 3) := by decide +kernel
theorem dX5_add_12 : decode cX5_add 12 = .ok (.return_, 1) := by decide +kernel
set_option maxRecDepth 20000 in
theorem ggX6_init_X5_init : GoodIn wsX6_init wsX5_init := goodIn_r _ [16, 17, 2, 3, 18, 19, 29] (by decide +kernel) (by decide +kernel)
set_option maxRecDepth 20000 in
theorem gX6_init_X5_init : GoodIn wsX6_init (wsX5_init) := ggX6_init_X5_init
set_option maxRecDepth 20000 in
theorem ggX6_init_X1_init : GoodIn wsX6_init wsX1_init := goodIn_r _ [22, 23, 2, 3, 24, 5, 6, 25, 26, 27, 28, 15, 16, 17, 18, 19, 29, 34, 35, 36] (by decide +kernel) (by decide +kernel)
set_option maxRecDepth 20000 in
theorem gX6_init_X1_init : GoodIn wsX6_init (wsX1_init) := ggX6_init_X1_init
theorem dX6_init_0 : decode cX6_init 0 = .ok (.aload_n 0, 1) := by decide +kernel
theorem dX6_init_1 : decode cX6_init 1 = .ok (.invokespecial 3, 3) := by decide +kernel
theorem dX6_init_4 : decode cX6_init 4 = .ok (.aload_n 0, 1) := by decide +kernel
theorem dX6_init_5 : decode cX6_init 5 = .ok (.new 9, 3) := by decide +kernel
theorem dX6_init_8 : decode cX6_init 8 = .ok (.dup, 1) := by decide +kernel
theorem dX6_init_9 : decode cX6_init 9 = .ok (.sipush 1000, 3) := by decide +kernel
theorem dX6_init_12 : decode cX6_init 12 = .ok (.invokespecial 11, 3) := by decide +kernel
theorem dX6_init_15 : decode cX6_init 15 = .ok (.putfield 14, 3) := by decide +kernel
theorem dX6_init_18 : decode cX6_init 18 = .ok (.aload_n 0, 1) := by decide +kernel
theorem dX6_init_19 : decode cX6_init 19 = .ok (.new 9, 3) := by decide +kernel
theorem dX6_init_22 : decode cX6_init 22 = .ok (.dup, 1) := by decide +kernel
theorem dX6_init_23 : decode cX6_init 23 = .ok (.sipush 1000, 3) := by decide +kernel
theorem dX6_init_26 : decode cX6_init 26 = .ok (.invokespecial 11, 3) := by decide +kernel
theorem dX6_init_29 : decode cX6_init 29 = .ok (.putfield 20, 3) := by decide +kernel
theorem dX6_init_32 : decode cX6_init 32 = .ok (.aload_n 0, 1) := by decide +kernel
theorem dX6_init_33 : decode cX6_init 33 = .ok (.new 9, 3) := by decide +kernel
theorem dX6_init_36 : decode cX6_init 36 = .ok (.dup, 1) := by decide +kernel
theorem dX6_init_37 : decode cX6_init 37 = .ok (.sipush 4000, 3) := by decide +kernel
theorem dX6_init_40 : decode cX6_init 40 = .ok (.invokespecial 11, 3) := by decide +kernel
theorem dX6_init_43 : decode cX6_init 43 = .ok (.putfield 23, 3) := by decide +kernel
theorem dX6_init_46 : decode cX6_init 46 = .ok (.aload_n 0, 1) := by decide +kernel
theorem dX6_init_47 : decode cX6_init 47 = .ok (.new 26, 3) := by decide +kernel
theorem dX6_init_50 : decode cX6_init 50 = .ok (.dup, 1) := by decide +kernel
theorem dX6_init_51 : decode cX6_init 51 = .ok (.iconst 4, 1) := by decide +kernel
theorem dX6_init_52 : decode cX6_init 52 = .ok (.invokespecial 28, 3) := by decide +kernel
theorem dX6_init_55 : decode cX6_init 55 = .ok (.putfield 29, 3) := by decide +kernel
theorem dX6_init_58 : decode cX6_init 58 = .ok (.return_, 1) := by decide +kernel
set_option maxRecDepth 20000 in
theorem ggX6_runsOf_X5_get : GoodIn wsX6_runsOf wsX5_get := goodIn_r _ [6, 7, 12] (by decide +kernel) (by decide +kernel)
set_option maxRecDepth 20000 in
theorem gX6_runsOf_X5_get : GoodIn wsX6_runsOf (wsV RX6 33 RX5 yX5_get wsX5_get) := goodIn_app (goodIn_of _ (by decide +kernel)) ggX6_runsOf_X5_get
theorem dX6_runsOf_0 : decode cX6_runsOf 0 = .ok (.aload_n 0, 1) := by decide +kernel
theorem dX6_runsOf_1 : decode cX6_runsOf 1 = .ok (.getfield 20, 3) := by decide +kernel
theorem dX6_runsOf_4 : decode cX6_runsOf 4 = .ok (.iload_n 1, 1) := by decide +kernel
theorem dX6_runsOf_5 : decode cX6_runsOf 5 = .ok (.invokevirtual 33, 3) := by decide +kernel
theorem dX6_runsOf_8 : decode cX6_runsOf 8 = .ok (.l2i, 1) := by decide +kernel
theorem dX6_runsOf_9 : decode cX6_runsOf 9 = .ok (.ireturn, 1) := by decide +kernel
set_option maxRecDepth 20000 in
theorem ggX6_tell_X5_get : GoodIn wsX6_tell wsX5_get := goodIn_r _ [6, 7, 16] (by decide +kernel) (by decide +kernel)
set_option maxRecDepth 20000 in
theorem gX6_tell_X5_get : GoodIn wsX6_tell (wsV RX6 33 RX5 yX5_get wsX5_get) := goodIn_app (goodIn_of _ (by decide +kernel)) ggX6_tell_X5_get
set_option maxRecDepth 20000 in
theorem ggX6_tell_X5_set : GoodIn wsX6_tell wsX5_set := goodIn_r _ [11, 7, 16] (by decide +kernel) (by decide +kernel)
set_option maxRecDepth 20000 in
theorem gX6_tell_X5_set : GoodIn wsX6_tell (wsV RX6 37 RX5 yX5_set wsX5_set) := goodIn_app (goodIn_of _ (by decide +kernel)) ggX6_tell_X5_set
theorem dX6_tell_0 : decode cX6_tell 0 = .ok (.aload_n 0, 1) := by decide +kernel
theorem dX6_tell_1 : decode cX6_tell 1 = .ok (.getfield 14, 3) := by decide +kernel
theorem dX6_tell_4 : decode cX6_tell 4 = .ok (.iload_n 1, 1) := by decide +kernel
theorem dX6_tell_5 : decode cX6_tell 5 = .ok (.invokevirtual 33, 3) := by decide +kernel
theorem dX6_tell_8 : decode cX6_tell 8 = .ok (.lstore 4, 2) := by decide +kernel
theorem dX6_tell_10 : decode cX6_tell 10 = .ok (.aload_n 0, 1) := by decide +kernel
theorem dX6_tell_11 : decode cX6_tell 11 = .ok (.getfield 14, 3) := by decide +kernel
theorem dX6_tell_14 : decode cX6_tell 14 = .ok (.iload_n 1, 1) := by decide +kernel
theorem dX6_tell_15 : decode cX6_tell 15 = .ok (.lload_n 2, 1) := by decide +kernel
theorem dX6_tell_16 : decode cX6_tell 16 = .ok (.invokevirtual 37, 3) := by decide +kernel
theorem dX6_tell_19 : decode cX6_tell 19 = .ok (.lload 4, 2) := by decide +kernel
theorem dX6_tell_21 : decode cX6_tell 21 = .ok (.lreturn, 1) := by decide +kernel
set_option maxRecDepth 20000 in
theorem ggX6_clearVolumes_X1_setWeight : GoodIn wsX6_clearVolumes wsX1_setWeight := goodIn_r _ [6, 7, 8, 9, 10, 11, 12, 13, 18, 19, 20, 21] (by decide +kernel) (by decide +kernel)
set_option maxRecDepth 20000 in
theorem gX6_clearVolumes_X1_setWeight : GoodIn wsX6_clearVolumes (wsV RX6 41 RX1 yX1_setWeight wsX1_setWeight) := goodIn_app (goodIn_of _ (by decide +kernel)) ggX6_clearVolumes_X1_setWeight
theorem dX6_clearVolumes_0 : decode cX6_clearVolumes 0 = .ok (.iconst 0, 1) := by decide +kernel
theorem dX6_clearVolumes_1 : decode cX6_clearVolumes 1 = .ok (.istore_n 1, 1) := by decide +kernel
theorem dX6_clearVolumes_2 : decode cX6_clearVolumes 2 = .ok (.iload_n 1, 1) := by decide +kernel
theorem dX6_clearVolumes_3 : decode cX6_clearVolumes 3 = .ok (.iconst 4, 1) := by decide +kernel
theorem dX6_clearVolumes_4 : decode cX6_clearVolumes 4 = .ok (.if_icmp .ge 18, 3) := by decide +kernel
theorem dX6_clearVolumes_7 : decode cX6_clearVolumes 7 = .ok (.aload_n 0, 1) := by decide +kernel
theorem dX6_clearVolumes_8 : decode cX6_clearVolumes 8 = .ok (.getfield 29, 3) := by decide +kernel
theorem dX6_clearVolumes_11 : decode cX6_clearVolumes 11 = .ok (.iload_n 1, 1) := by decide +kernel
theorem dX6_clearVolumes_12 : decode cX6_clearVolumes 12 = .ok (.lconst 0, 1) := by decide +kernel
theorem dX6_clearVolumes_13 : decode cX6_clearVolumes 13 = .ok (.invokevirtual 41, 3) := by decide +kernel
theorem dX6_clearVolumes_16 : decode cX6_clearVolumes 16 = .ok (.iinc 1 1, 3) := by decide +kernel
theorem dX6_clearVolumes_19 : decode cX6_clearVolumes 19 = .ok (.goto (-17), 3) := by decide +kernel
theorem dX6_clearVolumes_22 : decode cX6_clearVolumes 22 = .ok (.return_, 1) := by decide +kernel
set_option maxRecDepth 20000 in
theorem ggX6_addVolume_X1_addWeight : GoodIn wsX6_addVolume wsX1_addWeight := goodIn_r _ [6, 7, 8, 9, 10, 11, 12, 13, 14, 15, 16, 17, 18, 19, 20, 21, 26, 27, 28, 29] (by decide +kernel) (by decide +kernel)
set_option maxRecDepth 20000 in
theorem gX6_addVolume_X1_addWeight : GoodIn wsX6_addVolume (wsV RX6 44 RX1 yX1_addWeight wsX1_addWeight) := goodIn_app (goodIn_of _ (by decide +kernel)) ggX6_addVolume_X1_addWeight
theorem dX6_addVolume_0 : decode cX6_addVolume 0 = .ok (.aload_n 0, 1) := by decide +kernel
theorem dX6_addVolume_1 : decode cX6_addVolume 1 = .ok (.getfield 29, 3) := by decide +kernel
theorem dX6_addVolume_4 : decode cX6_addVolume 4 = .ok (.iload_n 1, 1) := by decide +kernel
theorem dX6_addVolume_5 : decode cX6_addVolume 5 = .ok (.lload_n 2, 1) := by decide +kernel
theorem dX6_addVolume_6 : decode cX6_addVolume 6 = .ok (.invokevirtual 44, 3) := by decide +kernel
theorem dX6_addVolume_9 : decode cX6_addVolume 9 = .ok (.return_, 1) := by decide +kernel
set_option maxRecDepth 20000 in
theorem ggX6_run_X5_get : GoodIn wsX6_run wsX5_get := goodIn_r _ [13, 14, 62] (by decide +kernel) (by decide +kernel)
set_option maxRecDepth 20000 in
theorem gX6_run_X5_get : GoodIn wsX6_run (wsV RX6 33 RX5 yX5_get wsX5_get) := goodIn_app (goodIn_of _ (by decide +kernel)) ggX6_run_X5_get
set_option maxRecDepth 20000 in
theorem ggX6_run_X1_all : GoodIn wsX6_run wsX1_all := goodIn_r _ [19, 20, 21, 10, 11, 12, 13, 14, 63, 64, 65, 62] (by decide +kernel) (by decide +kernel)
set_option maxRecDepth 20000 in
theorem gX6_run_X1_all : GoodIn wsX6_run (wsV RX6 47 RX1 yX1_all wsX1_all) := goodIn_app (goodIn_of _ (by decide +kernel)) ggX6_run_X1_all
set_option maxRecDepth 20000 in
theorem ggX6_run_X1_divide : GoodIn wsX6_run wsX1_divide := goodIn_r _ [25, 20, 26, 27, 28, 16, 17, 18, 19, 21, 10, 11, 12, 13, 14, 29, 30, 31, 32, 33, 34, 35, 36, 37, 38, 39, 40, 41, 42, 43, 44, 45, 46, 47, 63, 64, 65, 62] (by decide +kernel) (by decide +kernel)
set_option maxRecDepth 20000 in
theorem gX6_run_X1_divide : GoodIn wsX6_run (wsV RX6 57 RX1 yX1_divide wsX1_divide) := goodIn_app (goodIn_of _ (by decide +kernel)) ggX6_run_X1_divide
set_option maxRecDepth 20000 in
theorem ggX6_run_X1_partOf : GoodIn wsX6_run wsX1_partOf := goodIn_r _ [51, 26, 21, 10, 11, 12, 13, 14, 63, 64, 65, 62] (by decide +kernel) (by decide +kernel)
set_option maxRecDepth 20000 in
theorem gX6_run_X1_partOf : GoodIn wsX6_run (wsV RX6 61 RX1 yX1_partOf wsX1_partOf) := goodIn_app (goodIn_of _ (by decide +kernel)) ggX6_run_X1_partOf
set_option maxRecDepth 20000 in
theorem ggX6_run_X1_weightOf : GoodIn wsX6_run wsX1_weightOf := goodIn_r _ [55, 20, 21, 10, 11, 12, 13, 14, 63, 64, 65, 62] (by decide +kernel) (by decide +kernel)
set_option maxRecDepth 20000 in
theorem gX6_run_X1_weightOf : GoodIn wsX6_run (wsV RX6 64 RX1 yX1_weightOf wsX1_weightOf) := goodIn_app (goodIn_of _ (by decide +kernel)) ggX6_run_X1_weightOf
set_option maxRecDepth 20000 in
theorem ggX6_run_X5_set : GoodIn wsX6_run wsX5_set := goodIn_r _ [32, 14, 62] (by decide +kernel) (by decide +kernel)
set_option maxRecDepth 20000 in
theorem gX6_run_X5_set : GoodIn wsX6_run (wsV RX6 37 RX5 yX5_set wsX5_set) := goodIn_app (goodIn_of _ (by decide +kernel)) ggX6_run_X5_set
set_option maxRecDepth 20000 in
theorem ggX6_run_X5_add : GoodIn wsX6_run wsX5_add := goodIn_r _ [45, 46, 10, 11, 12, 13, 14, 47, 30, 31, 32, 62] (by decide +kernel) (by decide +kernel)
set_option maxRecDepth 20000 in
theorem gX6_run_X5_add : GoodIn wsX6_run (wsV RX6 67 RX5 yX5_add wsX5_add) := goodIn_app (goodIn_of _ (by decide +kernel)) ggX6_run_X5_add
theorem dX6_run_0 : decode cX6_run 0 = .ok (.aload_n 0, 1) := by decide +kernel
theorem dX6_run_1 : decode cX6_run 1 = .ok (.getfield 14, 3) := by decide +kernel
theorem dX6_run_4 : decode cX6_run 4 = .ok (.iload_n 1, 1) := by decide +kernel
theorem dX6_run_5 : decode cX6_run 5 = .ok (.invokevirtual 33, 3) := by decide +kernel
theorem dX6_run_8 : decode cX6_run 8 = .ok (.aload_n 0, 1) := by decide +kernel
theorem dX6_run_9 : decode cX6_run 9 = .ok (.getfield 29, 3) := by decide +kernel
theorem dX6_run_12 : decode cX6_run 12 = .ok (.iconst 0, 1) := by decide +kernel
theorem dX6_run_13 : decode cX6_run 13 = .ok (.iconst 4, 1) := by decide +kernel
theorem dX6_run_14 : decode cX6_run 14 = .ok (.invokevirtual 47, 3) := by decide +kernel
theorem dX6_run_17 : decode cX6_run 17 = .ok (.lsub, 1) := by decide +kernel
theorem dX6_run_18 : decode cX6_run 18 = .ok (.lstore_n 2, 1) := by decide +kernel
theorem dX6_run_19 : decode cX6_run 19 = .ok (.aload_n 0, 1) := by decide +kernel
theorem dX6_run_20 : decode cX6_run 20 = .ok (.getfield 29, 3) := by decide +kernel
theorem dX6_run_23 : decode cX6_run 23 = .ok (.lload_n 2, 1) := by decide +kernel
theorem dX6_run_24 : decode cX6_run 24 = .ok (.invokestatic 51, 3) := by decide +kernel
theorem dX6_run_27 : decode cX6_run 27 = .ok (.iconst 0, 1) := by decide +kernel
theorem dX6_run_28 : decode cX6_run 28 = .ok (.iconst 4, 1) := by decide +kernel
theorem dX6_run_29 : decode cX6_run 29 = .ok (.invokevirtual 57, 3) := by decide +kernel
theorem dX6_run_32 : decode cX6_run 32 = .ok (.iconst 0, 1) := by decide +kernel
theorem dX6_run_33 : decode cX6_run 33 = .ok (.istore 4, 2) := by decide +kernel
theorem dX6_run_35 : decode cX6_run 35 = .ok (.iload 4, 2) := by decide +kernel
theorem dX6_run_37 : decode cX6_run 37 = .ok (.iconst 4, 1) := by decide +kernel
theorem dX6_run_38 : decode cX6_run 38 = .ok (.if_icmp .ge 63, 3) := by decide +kernel
theorem dX6_run_41 : decode cX6_run 41 = .ok (.aload_n 0, 1) := by decide +kernel
theorem dX6_run_42 : decode cX6_run 42 = .ok (.getfield 29, 3) := by decide +kernel
theorem dX6_run_45 : decode cX6_run 45 = .ok (.iload 4, 2) := by decide +kernel
theorem dX6_run_47 : decode cX6_run 47 = .ok (.invokevirtual 61, 3) := by decide +kernel
theorem dX6_run_50 : decode cX6_run 50 = .ok (.lstore 5, 2) := by decide +kernel
theorem dX6_run_52 : decode cX6_run 52 = .ok (.lload_n 2, 1) := by decide +kernel
theorem dX6_run_53 : decode cX6_run 53 = .ok (.lconst 0, 1) := by decide +kernel
theorem dX6_run_54 : decode cX6_run 54 = .ok (.lcmp, 1) := by decide +kernel
theorem dX6_run_55 : decode cX6_run 55 = .ok (.ifCond .ge 9, 3) := by decide +kernel
theorem dX6_run_58 : decode cX6_run 58 = .ok (.lload 5, 2) := by decide +kernel
theorem dX6_run_60 : decode cX6_run 60 = .ok (.lneg, 1) := by decide +kernel
theorem dX6_run_61 : decode cX6_run 61 = .ok (.goto 5, 3) := by decide +kernel
theorem dX6_run_64 : decode cX6_run 64 = .ok (.lload 5, 2) := by decide +kernel
theorem dX6_run_66 : decode cX6_run 66 = .ok (.lstore 7, 2) := by decide +kernel
theorem dX6_run_68 : decode cX6_run 68 = .ok (.aload_n 0, 1) := by decide +kernel
theorem dX6_run_69 : decode cX6_run 69 = .ok (.getfield 23, 3) := by decide +kernel
theorem dX6_run_72 : decode cX6_run 72 = .ok (.iload 4, 2) := by decide +kernel
theorem dX6_run_74 : decode cX6_run 74 = .ok (.sipush 1000, 3) := by decide +kernel
theorem dX6_run_77 : decode cX6_run 77 = .ok (.imul, 1) := by decide +kernel
theorem dX6_run_78 : decode cX6_run 78 = .ok (.iload_n 1, 1) := by decide +kernel
theorem dX6_run_79 : decode cX6_run 79 = .ok (.iadd, 1) := by decide +kernel
theorem dX6_run_80 : decode cX6_run 80 = .ok (.aload_n 0, 1) := by decide +kernel
theorem dX6_run_81 : decode cX6_run 81 = .ok (.getfield 29, 3) := by decide +kernel
theorem dX6_run_84 : decode cX6_run 84 = .ok (.iload 4, 2) := by decide +kernel
theorem dX6_run_86 : decode cX6_run 86 = .ok (.invokevirtual 64, 3) := by decide +kernel
theorem dX6_run_89 : decode cX6_run 89 = .ok (.lload 7, 2) := by decide +kernel
theorem dX6_run_91 : decode cX6_run 91 = .ok (.ladd, 1) := by decide +kernel
theorem dX6_run_92 : decode cX6_run 92 = .ok (.invokevirtual 37, 3) := by decide +kernel
theorem dX6_run_95 : decode cX6_run 95 = .ok (.iinc 4 1, 3) := by decide +kernel
theorem dX6_run_98 : decode cX6_run 98 = .ok (.goto (-63), 3) := by decide +kernel
theorem dX6_run_101 : decode cX6_run 101 = .ok (.aload_n 0, 1) := by decide +kernel
theorem dX6_run_102 : decode cX6_run 102 = .ok (.getfield 20, 3) := by decide +kernel
theorem dX6_run_105 : decode cX6_run 105 = .ok (.iload_n 1, 1) := by decide +kernel
theorem dX6_run_106 : decode cX6_run 106 = .ok (.lconst 1, 1) := by decide +kernel
theorem dX6_run_107 : decode cX6_run 107 = .ok (.invokevirtual 67, 3) := by decide +kernel
theorem dX6_run_110 : decode cX6_run 110 = .ok (.return_, 1) := by decide +kernel
set_option maxRecDepth 20000 in
theorem ggX6_resultOf_X5_get : GoodIn wsX6_resultOf wsX5_get := goodIn_r _ [6, 7, 12] (by decide +kernel) (by decide +kernel)
set_option maxRecDepth 20000 in
theorem gX6_resultOf_X5_get : GoodIn wsX6_resultOf (wsV RX6 33 RX5 yX5_get wsX5_get) := goodIn_app (goodIn_of _ (by decide +kernel)) ggX6_resultOf_X5_get
theorem dX6_resultOf_0 : decode cX6_resultOf 0 = .ok (.aload_n 0, 1) := by decide +kernel
theorem dX6_resultOf_1 : decode cX6_resultOf 1 = .ok (.getfield 23, 3) := by decide +kernel
theorem dX6_resultOf_4 : decode cX6_resultOf 4 = .ok (.iload_n 2, 1) := by decide +kernel
theorem dX6_resultOf_5 : decode cX6_resultOf 5 = .ok (.sipush 1000, 3) := by decide +kernel
theorem dX6_resultOf_8 : decode cX6_resultOf 8 = .ok (.imul, 1) := by decide +kernel
theorem dX6_resultOf_9 : decode cX6_resultOf 9 = .ok (.iload_n 1, 1) := by decide +kernel
theorem dX6_resultOf_10 : decode cX6_resultOf 10 = .ok (.iadd, 1) := by decide +kernel
theorem dX6_resultOf_11 : decode cX6_resultOf 11 = .ok (.invokevirtual 33, 3) := by decide +kernel
theorem dX6_resultOf_14 : decode cX6_resultOf 14 = .ok (.lreturn, 1) := by decide +kernel
set_option maxRecDepth 20000 in
theorem ggX7_init_X5_init : GoodIn wsX7_init wsX5_init := goodIn_r _ [11, 12, 2, 3, 13, 14, 19] (by decide +kernel) (by decide +kernel)
set_option maxRecDepth 20000 in
theorem gX7_init_X5_init : GoodIn wsX7_init (wsX5_init) := ggX7_init_X5_init
set_option maxRecDepth 20000 in
theorem ggX7_init_X5_set : GoodIn wsX7_init wsX5_set := goodIn_r _ [18, 14, 19] (by decide +kernel) (by decide +kernel)
set_option maxRecDepth 20000 in
theorem gX7_init_X5_set : GoodIn wsX7_init (wsV RX7 22 RX5 yX5_set wsX5_set) := goodIn_app (goodIn_of _ (by decide +kernel)) ggX7_init_X5_set
theorem dX7_init_0 : decode cX7_init 0 = .ok (.aload_n 0, 1) := by decide +kernel
theorem dX7_init_1 : decode cX7_init 1 = .ok (.invokespecial 3, 3) := by decide +kernel
theorem dX7_init_4 : decode cX7_init 4 = .ok (.aload_n 0, 1) := by decide +kernel
theorem dX7_init_5 : decode cX7_init 5 = .ok (.new 9, 3) := by decide +kernel
theorem dX7_init_8 : decode cX7_init 8 = .ok (.dup, 1) := by decide +kernel
theorem dX7_init_9 : decode cX7_init 9 = .ok (.sipush 1000, 3) := by decide +kernel
theorem dX7_init_12 : decode cX7_init 12 = .ok (.invokespecial 11, 3) := by decide +kernel
theorem dX7_init_15 : decode cX7_init 15 = .ok (.putfield 14, 3) := by decide +kernel
theorem dX7_init_18 : decode cX7_init 18 = .ok (.iconst 0, 1) := by decide +kernel
theorem dX7_init_19 : decode cX7_init 19 = .ok (.istore_n 1, 1) := by decide +kernel
theorem dX7_init_20 : decode cX7_init 20 = .ok (.iload_n 1, 1) := by decide +kernel
theorem dX7_init_21 : decode cX7_init 21 = .ok (.sipush 1000, 3) := by decide +kernel
theorem dX7_init_24 : decode cX7_init 24 = .ok (.if_icmp .ge 20, 3) := by decide +kernel
theorem dX7_init_27 : decode cX7_init 27 = .ok (.aload_n 0, 1) := by decide +kernel
theorem dX7_init_28 : decode cX7_init 28 = .ok (.getfield 14, 3) := by decide +kernel
theorem dX7_init_31 : decode cX7_init 31 = .ok (.iload_n 1, 1) := by decide +kernel
theorem dX7_init_32 : decode cX7_init 32 = .ok (.ldc2_w 20, 3) := by decide +kernel
theorem dX7_init_35 : decode cX7_init 35 = .ok (.invokevirtual 22, 3) := by decide +kernel
theorem dX7_init_38 : decode cX7_init 38 = .ok (.iinc 1 1, 3) := by decide +kernel
theorem dX7_init_41 : decode cX7_init 41 = .ok (.goto (-21), 3) := by decide +kernel
theorem dX7_init_44 : decode cX7_init 44 = .ok (.return_, 1) := by decide +kernel
set_option maxRecDepth 20000 in
theorem ggX7_tell_X5_get : GoodIn wsX7_tell wsX5_get := goodIn_r _ [6, 7, 13] (by decide +kernel) (by decide +kernel)
set_option maxRecDepth 20000 in
theorem gX7_tell_X5_get : GoodIn wsX7_tell (wsV RX7 26 RX5 yX5_get wsX5_get) := goodIn_app (goodIn_of _ (by decide +kernel)) ggX7_tell_X5_get
set_option maxRecDepth 20000 in
theorem ggX7_tell_X5_set : GoodIn wsX7_tell wsX5_set := goodIn_r _ [11, 7, 13] (by decide +kernel) (by decide +kernel)
set_option maxRecDepth 20000 in
theorem gX7_tell_X5_set : GoodIn wsX7_tell (wsV RX7 22 RX5 yX5_set wsX5_set) := goodIn_app (goodIn_of _ (by decide +kernel)) ggX7_tell_X5_set
theorem dX7_tell_0 : decode cX7_tell 0 = .ok (.iconst 0, 1) := by decide +kernel
theorem dX7_tell_1 : decode cX7_tell 1 = .ok (.istore 4, 2) := by decide +kernel
theorem dX7_tell_3 : decode cX7_tell 3 = .ok (.iload_n 1, 1) := by decide +kernel
theorem dX7_tell_4 : decode cX7_tell 4 = .ok (.istore 5, 2) := by decide +kernel
theorem dX7_tell_6 : decode cX7_tell 6 = .ok (.iload 5, 2) := by decide +kernel
theorem dX7_tell_8 : decode cX7_tell 8 = .ok (.iload_n 2, 1) := by decide +kernel
theorem dX7_tell_9 : decode cX7_tell 9 = .ok (.if_icmp .gt 46, 3) := by decide +kernel
theorem dX7_tell_12 : decode cX7_tell 12 = .ok (.iload 5, 2) := by decide +kernel
theorem dX7_tell_14 : decode cX7_tell 14 = .ok (.sipush 1000, 3) := by decide +kernel
theorem dX7_tell_17 : decode cX7_tell 17 = .ok (.if_icmp .ge 38, 3) := by decide +kernel
theorem dX7_tell_20 : decode cX7_tell 20 = .ok (.aload_n 0, 1) := by decide +kernel
theorem dX7_tell_21 : decode cX7_tell 21 = .ok (.getfield 14, 3) := by decide +kernel
theorem dX7_tell_24 : decode cX7_tell 24 = .ok (.iload 5, 2) := by decide +kernel
theorem dX7_tell_26 : decode cX7_tell 26 = .ok (.invokevirtual 26, 3) := by decide +kernel
theorem dX7_tell_29 : decode cX7_tell 29 = .ok (.iload_n 3, 1) := by decide +kernel
theorem dX7_tell_30 : decode cX7_tell 30 = .ok (.i2l, 1) := by decide +kernel
theorem dX7_tell_31 : decode cX7_tell 31 = .ok (.lcmp, 1) := by decide +kernel
theorem dX7_tell_32 : decode cX7_tell 32 = .ok (.ifCond .eq 17, 3) := by decide +kernel
theorem dX7_tell_35 : decode cX7_tell 35 = .ok (.aload_n 0, 1) := by decide +kernel
theorem dX7_tell_36 : decode cX7_tell 36 = .ok (.getfield 14, 3) := by decide +kernel
theorem dX7_tell_39 : decode cX7_tell 39 = .ok (.iload 5, 2) := by decide +kernel
theorem dX7_tell_41 : decode cX7_tell 41 = .ok (.iload_n 3, 1) := by decide +kernel
theorem dX7_tell_42 : decode cX7_tell 42 = .ok (.i2l, 1) := by decide +kernel
theorem dX7_tell_43 : decode cX7_tell 43 = .ok (.invokevirtual 22, 3) := by decide +kernel
theorem dX7_tell_46 : decode cX7_tell 46 = .ok (.iinc 4 1, 3) := by decide +kernel
theorem dX7_tell_49 : decode cX7_tell 49 = .ok (.iinc 5 1, 3) := by decide +kernel
theorem dX7_tell_52 : decode cX7_tell 52 = .ok (.goto (-46), 3) := by decide +kernel
theorem dX7_tell_55 : decode cX7_tell 55 = .ok (.iload 4, 2) := by decide +kernel
theorem dX7_tell_57 : decode cX7_tell 57 = .ok (.ireturn, 1) := by decide +kernel
set_option maxRecDepth 20000 in
theorem ggX7_weight_X5_get : GoodIn wsX7_weight wsX5_get := goodIn_r _ [9, 10, 12] (by decide +kernel) (by decide +kernel)
set_option maxRecDepth 20000 in
theorem gX7_weight_X5_get : GoodIn wsX7_weight (wsV RX7 26 RX5 yX5_get wsX5_get) := goodIn_app (goodIn_of _ (by decide +kernel)) ggX7_weight_X5_get
theorem dX7_weight_0 : decode cX7_weight 0 = .ok (.iload_n 1, 1) := by decide +kernel
theorem dX7_weight_1 : decode cX7_weight 1 = .ok (.lookupswitch 44 #[(0, 27), (1, 31)], 27) := by decide +kernel
theorem dX7_weight_28 : decode cX7_weight 28 = .ok (.ldc2_w 20, 3) := by decide +kernel
theorem dX7_weight_31 : decode cX7_weight 31 = .ok (.lreturn, 1) := by decide +kernel
theorem dX7_weight_32 : decode cX7_weight 32 = .ok (.ldc2_w 20, 3) := by decide +kernel
theorem dX7_weight_35 : decode cX7_weight 35 = .ok (.aload_n 0, 1) := by decide +kernel
theorem dX7_weight_36 : decode cX7_weight 36 = .ok (.getfield 14, 3) := by decide +kernel
theorem dX7_weight_39 : decode cX7_weight 39 = .ok (.iload_n 2, 1) := by decide +kernel
theorem dX7_weight_40 : decode cX7_weight 40 = .ok (.invokevirtual 26, 3) := by decide +kernel
theorem dX7_weight_43 : decode cX7_weight 43 = .ok (.ladd, 1) := by decide +kernel
theorem dX7_weight_44 : decode cX7_weight 44 = .ok (.lreturn, 1) := by decide +kernel
theorem dX7_weight_45 : decode cX7_weight 45 = .ok (.ldc2_w 30, 3) := by decide +kernel
theorem dX7_weight_48 : decode cX7_weight 48 = .ok (.ldc2_w 32, 3) := by decide +kernel
theorem dX7_weight_51 : decode cX7_weight 51 = .ok (.aload_n 0, 1) := by decide +kernel
theorem dX7_weight_52 : decode cX7_weight 52 = .ok (.getfield 14, 3) := by decide +kernel
theorem dX7_weight_55 : decode cX7_weight 55 = .ok (.iload_n 2, 1) := by decide +kernel
theorem dX7_weight_56 : decode cX7_weight 56 = .ok (.invokevirtual 26, 3) := by decide +kernel
theorem dX7_weight_59 : decode cX7_weight 59 = .ok (.lmul, 1) := by decide +kernel
theorem dX7_weight_60 : decode cX7_weight 60 = .ok (.ladd, 1) := by decide +kernel
theorem dX7_weight_61 : decode cX7_weight 61 = .ok (.lreturn, 1) := by decide +kernel
set_option maxRecDepth 20000 in
theorem ggX7_weights_X7_weight : GoodIn wsX7_weights wsX7_weight := goodIn_r _ [5, 6, 7, 8, 9, 10, 11, 12, 13, 14, 15, 16, 17] (by decide +kernel) (by decide +kernel)
set_option maxRecDepth 20000 in
theorem gX7_weights_X7_weight : GoodIn wsX7_weights (wsV RX7 34 RX7 yX7_weight wsX7_weight) := goodIn_app (goodIn_of _ (by decide +kernel)) ggX7_weights_X7_weight
theorem dX7_weights_0 : decode cX7_weights 0 = .ok (.lconst 0, 1) := by decide +kernel
theorem dX7_weights_1 : decode cX7_weights 1 = .ok (.lstore 4, 2) := by decide +kernel
theorem dX7_weights_3 : decode cX7_weights 3 = .ok (.iload_n 2, 1) := by decide +kernel
theorem dX7_weights_4 : decode cX7_weights 4 = .ok (.istore 6, 2) := by decide +kernel
theorem dX7_weights_6 : decode cX7_weights 6 = .ok (.iload 6, 2) := by decide +kernel
theorem dX7_weights_8 : decode cX7_weights 8 = .ok (.iload_n 3, 1) := by decide +kernel
theorem dX7_weights_9 : decode cX7_weights 9 = .ok (.if_icmp .ge 21, 3) := by decide +kernel
theorem dX7_weights_12 : decode cX7_weights 12 = .ok (.lload 4, 2) := by decide +kernel
theorem dX7_weights_14 : decode cX7_weights 14 = .ok (.aload_n 0, 1) := by decide +kernel
theorem dX7_weights_15 : decode cX7_weights 15 = .ok (.iload_n 1, 1) := by decide +kernel
theorem dX7_weights_16 : decode cX7_weights 16 = .ok (.iload 6, 2) := by decide +kernel
theorem dX7_weights_18 : decode cX7_weights 18 = .ok (.invokevirtual 34, 3) := by decide +kernel
theorem dX7_weights_21 : decode cX7_weights 21 = .ok (.ladd, 1) := by decide +kernel
theorem dX7_weights_22 : decode cX7_weights 22 = .ok (.lstore 4, 2) := by decide +kernel
theorem dX7_weights_24 : decode cX7_weights 24 = .ok (.iinc 6 1, 3) := by decide +kernel
theorem dX7_weights_27 : decode cX7_weights 27 = .ok (.goto (-21), 3) := by decide +kernel
theorem dX7_weights_30 : decode cX7_weights 30 = .ok (.lload 4, 2) := by decide +kernel
theorem dX7_weights_32 : decode cX7_weights 32 = .ok (.lreturn, 1) := by decide +kernel
set_option maxRecDepth 20000 in
theorem ggX8_init_X5_init : GoodIn wsX8_init wsX5_init := goodIn_r _ [13, 14, 2, 3, 15, 16, 21] (by decide +kernel) (by decide +kernel)
set_option maxRecDepth 20000 in
theorem gX8_init_X5_init : GoodIn wsX8_init (wsX5_init) := ggX8_init_X5_init
set_option maxRecDepth 20000 in
theorem ggX8_init_X5_set : GoodIn wsX8_init wsX5_set := goodIn_r _ [20, 16, 21] (by decide +kernel) (by decide +kernel)
set_option maxRecDepth 20000 in
theorem gX8_init_X5_set : GoodIn wsX8_init (wsV RX8 30 RX5 yX5_set wsX5_set) := goodIn_app (goodIn_of _ (by decide +kernel)) ggX8_init_X5_set
theorem dX8_init_0 : decode cX8_init 0 = .ok (.aload_n 0, 1) := by decide +kernel
theorem dX8_init_1 : decode cX8_init 1 = .ok (.invokespecial 3, 3) := by decide +kernel
theorem dX8_init_4 : decode cX8_init 4 = .ok (.aload_n 0, 1) := by decide +kernel
theorem dX8_init_5 : decode cX8_init 5 = .ok (.new 9, 3) := by decide +kernel
theorem dX8_init_8 : decode cX8_init 8 = .ok (.dup, 1) := by decide +kernel
theorem dX8_init_9 : decode cX8_init 9 = .ok (.sipush 1000, 3) := by decide +kernel
theorem dX8_init_12 : decode cX8_init 12 = .ok (.invokespecial 11, 3) := by decide +kernel
theorem dX8_init_15 : decode cX8_init 15 = .ok (.putfield 14, 3) := by decide +kernel
theorem dX8_init_18 : decode cX8_init 18 = .ok (.aload_n 0, 1) := by decide +kernel
theorem dX8_init_19 : decode cX8_init 19 = .ok (.iconst (-1), 1) := by decide +kernel
theorem dX8_init_20 : decode cX8_init 20 = .ok (.putfield 20, 3) := by decide +kernel
theorem dX8_init_23 : decode cX8_init 23 = .ok (.aload_n 0, 1) := by decide +kernel
theorem dX8_init_24 : decode cX8_init 24 = .ok (.iconst 0, 1) := by decide +kernel
theorem dX8_init_25 : decode cX8_init 25 = .ok (.putfield 24, 3) := by decide +kernel
theorem dX8_init_28 : decode cX8_init 28 = .ok (.aload_n 0, 1) := by decide +kernel
theorem dX8_init_29 : decode cX8_init 29 = .ok (.iconst (-1), 1) := by decide +kernel
theorem dX8_init_30 : decode cX8_init 30 = .ok (.putfield 27, 3) := by decide +kernel
theorem dX8_init_33 : decode cX8_init 33 = .ok (.aload_n 0, 1) := by decide +kernel
theorem dX8_init_34 : decode cX8_init 34 = .ok (.getfield 14, 3) := by decide +kernel
theorem dX8_init_37 : decode cX8_init 37 = .ok (.iload_n 1, 1) := by decide +kernel
theorem dX8_init_38 : decode cX8_init 38 = .ok (.iload_n 2, 1) := by decide +kernel
theorem dX8_init_39 : decode cX8_init 39 = .ok (.i2l, 1) := by decide +kernel
theorem dX8_init_40 : decode cX8_init 40 = .ok (.invokevirtual 30, 3) := by decide +kernel
theorem dX8_init_43 : decode cX8_init 43 = .ok (.return_, 1) := by decide +kernel
set_option maxRecDepth 20000 in
theorem ggX8_holderOn_X5_get : GoodIn wsX8_holderOn wsX5_get := goodIn_r _ [6, 7, 12] (by decide +kernel) (by decide +kernel)
set_option maxRecDepth 20000 in
theorem gX8_holderOn_X5_get : GoodIn wsX8_holderOn (wsV RX8 34 RX5 yX5_get wsX5_get) := goodIn_app (goodIn_of _ (by decide +kernel)) ggX8_holderOn_X5_get
theorem dX8_holderOn_0 : decode cX8_holderOn 0 = .ok (.aload_n 0, 1) := by decide +kernel
theorem dX8_holderOn_1 : decode cX8_holderOn 1 = .ok (.getfield 14, 3) := by decide +kernel
theorem dX8_holderOn_4 : decode cX8_holderOn 4 = .ok (.iload_n 1, 1) := by decide +kernel
theorem dX8_holderOn_5 : decode cX8_holderOn 5 = .ok (.invokevirtual 34, 3) := by decide +kernel
theorem dX8_holderOn_8 : decode cX8_holderOn 8 = .ok (.l2i, 1) := by decide +kernel
theorem dX8_holderOn_9 : decode cX8_holderOn 9 = .ok (.ireturn, 1) := by decide +kernel
theorem dX8_toldDay_0 : decode cX8_toldDay 0 = .ok (.aload_n 0, 1) := by decide +kernel
theorem dX8_toldDay_1 : decode cX8_toldDay 1 = .ok (.getfield 20, 3) := by decide +kernel
theorem dX8_toldDay_4 : decode cX8_toldDay 4 = .ok (.ireturn, 1) := by decide +kernel
theorem dX8_tell_0 : decode cX8_tell 0 = .ok (.aload_n 0, 1) := by decide +kernel
theorem dX8_tell_1 : decode cX8_tell 1 = .ok (.iload_n 1, 1) := by decide +kernel
theorem dX8_tell_2 : decode cX8_tell 2 = .ok (.putfield 20, 3) := by decide +kernel
theorem dX8_tell_5 : decode cX8_tell 5 = .ok (.aload_n 0, 1) := by decide +kernel
theorem dX8_tell_6 : decode cX8_tell 6 = .ok (.iload_n 2, 1) := by decide +kernel
theorem dX8_tell_7 : decode cX8_tell 7 = .ok (.putfield 24, 3) := by decide +kernel
theorem dX8_tell_10 : decode cX8_tell 10 = .ok (.return_, 1) := by decide +kernel
theorem dX8_drop_0 : decode cX8_drop 0 = .ok (.aload_n 0, 1) := by decide +kernel
theorem dX8_drop_1 : decode cX8_drop 1 = .ok (.getfield 20, 3) := by decide +kernel
theorem dX8_drop_4 : decode cX8_drop 4 = .ok (.istore_n 1, 1) := by decide +kernel
theorem dX8_drop_5 : decode cX8_drop 5 = .ok (.aload_n 0, 1) := by decide +kernel
theorem dX8_drop_6 : decode cX8_drop 6 = .ok (.iconst (-1), 1) := by decide +kernel
theorem dX8_drop_7 : decode cX8_drop 7 = .ok (.putfield 20, 3) := by decide +kernel
theorem dX8_drop_10 : decode cX8_drop 10 = .ok (.iload_n 1, 1) := by decide +kernel
theorem dX8_drop_11 : decode cX8_drop 11 = .ok (.ireturn, 1) := by decide +kernel
set_option maxRecDepth 20000 in
theorem ggX8_begin_X5_set : GoodIn wsX8_begin wsX5_set := goodIn_r _ [9, 10, 19] (by decide +kernel) (by decide +kernel)
set_option maxRecDepth 20000 in
theorem gX8_begin_X5_set : GoodIn wsX8_begin (wsV RX8 30 RX5 yX5_set wsX5_set) := goodIn_app (goodIn_of _ (by decide +kernel)) ggX8_begin_X5_set
set_option maxRecDepth 20000 in
theorem ggX8_begin_X5_get : GoodIn wsX8_begin wsX5_get := goodIn_r _ [14, 10, 19] (by decide +kernel) (by decide +kernel)
set_option maxRecDepth 20000 in
theorem gX8_begin_X5_get : GoodIn wsX8_begin (wsV RX8 34 RX5 yX5_get wsX5_get) := goodIn_app (goodIn_of _ (by decide +kernel)) ggX8_begin_X5_get
theorem dX8_begin_0 : decode cX8_begin 0 = .ok (.iload_n 1, 1) := by decide +kernel
theorem dX8_begin_1 : decode cX8_begin 1 = .ok (.aload_n 0, 1) := by decide +kernel
theorem dX8_begin_2 : decode cX8_begin 2 = .ok (.getfield 20, 3) := by decide +kernel
theorem dX8_begin_5 : decode cX8_begin 5 = .ok (.if_icmp .ne 29, 3) := by decide +kernel
theorem dX8_begin_8 : decode cX8_begin 8 = .ok (.aload_n 0, 1) := by decide +kernel
theorem dX8_begin_9 : decode cX8_begin 9 = .ok (.getfield 14, 3) := by decide +kernel
theorem dX8_begin_12 : decode cX8_begin 12 = .ok (.iload_n 1, 1) := by decide +kernel
theorem dX8_begin_13 : decode cX8_begin 13 = .ok (.aload_n 0, 1) := by decide +kernel
theorem dX8_begin_14 : decode cX8_begin 14 = .ok (.getfield 24, 3) := by decide +kernel
theorem dX8_begin_17 : decode cX8_begin 17 = .ok (.i2l, 1) := by decide +kernel
theorem dX8_begin_18 : decode cX8_begin 18 = .ok (.invokevirtual 30, 3) := by decide +kernel
theorem dX8_begin_21 : decode cX8_begin 21 = .ok (.aload_n 0, 1) := by decide +kernel
theorem dX8_begin_22 : decode cX8_begin 22 = .ok (.iload_n 1, 1) := by decide +kernel
theorem dX8_begin_23 : decode cX8_begin 23 = .ok (.putfield 27, 3) := by decide +kernel
theorem dX8_begin_26 : decode cX8_begin 26 = .ok (.aload_n 0, 1) := by decide +kernel
theorem dX8_begin_27 : decode cX8_begin 27 = .ok (.iconst (-1), 1) := by decide +kernel
theorem dX8_begin_28 : decode cX8_begin 28 = .ok (.putfield 20, 3) := by decide +kernel
theorem dX8_begin_31 : decode cX8_begin 31 = .ok (.goto 21, 3) := by decide +kernel
theorem dX8_begin_34 : decode cX8_begin 34 = .ok (.aload_n 0, 1) := by decide +kernel
theorem dX8_begin_35 : decode cX8_begin 35 = .ok (.getfield 14, 3) := by decide +kernel
theorem dX8_begin_38 : decode cX8_begin 38 = .ok (.iload_n 1, 1) := by decide +kernel
theorem dX8_begin_39 : decode cX8_begin 39 = .ok (.aload_n 0, 1) := by decide +kernel
theorem dX8_begin_40 : decode cX8_begin 40 = .ok (.getfield 14, 3) := by decide +kernel
theorem dX8_begin_43 : decode cX8_begin 43 = .ok (.iload_n 1, 1) := by decide +kernel
theorem dX8_begin_44 : decode cX8_begin 44 = .ok (.iconst 1, 1) := by decide +kernel
theorem dX8_begin_45 : decode cX8_begin 45 = .ok (.isub, 1) := by decide +kernel
theorem dX8_begin_46 : decode cX8_begin 46 = .ok (.invokevirtual 34, 3) := by decide +kernel
theorem dX8_begin_49 : decode cX8_begin 49 = .ok (.invokevirtual 30, 3) := by decide +kernel
theorem dX8_begin_52 : decode cX8_begin 52 = .ok (.return_, 1) := by decide +kernel
theorem dX8_hasChangeToUndo_0 : decode cX8_hasChangeToUndo 0 = .ok (.aload_n 0, 1) := by decide +kernel
theorem dX8_hasChangeToUndo_1 : decode cX8_hasChangeToUndo 1 = .ok (.getfield 27, 3) := by decide +kernel
theorem dX8_hasChangeToUndo_4 : decode cX8_hasChangeToUndo 4 = .ok (.iconst (-1), 1) := by decide +kernel
theorem dX8_hasChangeToUndo_5 : decode cX8_hasChangeToUndo 5 = .ok (.if_icmp .eq 7, 3) := by decide +kernel
theorem dX8_hasChangeToUndo_8 : decode cX8_hasChangeToUndo 8 = .ok (.iconst 1, 1) := by decide +kernel
theorem dX8_hasChangeToUndo_9 : decode cX8_hasChangeToUndo 9 = .ok (.goto 4, 3) := by decide +kernel
theorem dX8_hasChangeToUndo_12 : decode cX8_hasChangeToUndo 12 = .ok (.iconst 0, 1) := by decide +kernel
theorem dX8_hasChangeToUndo_13 : decode cX8_hasChangeToUndo 13 = .ok (.ireturn, 1) := by decide +kernel
set_option maxRecDepth 20000 in
theorem ggX8_undo_X5_get : GoodIn wsX8_undo wsX5_get := goodIn_r _ [7, 8, 17] (by decide +kernel) (by decide +kernel)
set_option maxRecDepth 20000 in
theorem gX8_undo_X5_get : GoodIn wsX8_undo (wsV RX8 34 RX5 yX5_get wsX5_get) := goodIn_app (goodIn_of _ (by decide +kernel)) ggX8_undo_X5_get
set_option maxRecDepth 20000 in
theorem ggX8_undo_X5_set : GoodIn wsX8_undo wsX5_set := goodIn_r _ [12, 8, 17] (by decide +kernel) (by decide +kernel)
set_option maxRecDepth 20000 in
theorem gX8_undo_X5_set : GoodIn wsX8_undo (wsV RX8 30 RX5 yX5_set wsX5_set) := goodIn_app (goodIn_of _ (by decide +kernel)) ggX8_undo_X5_set
theorem dX8_undo_0 : decode cX8_undo 0 = .ok (.aload_n 0, 1) := by decide +kernel
theorem dX8_undo_1 : decode cX8_undo 1 = .ok (.getfield 27, 3) := by decide +kernel
theorem dX8_undo_4 : decode cX8_undo 4 = .ok (.istore_n 2, 1) := by decide +kernel
theorem dX8_undo_5 : decode cX8_undo 5 = .ok (.aload_n 0, 1) := by decide +kernel
theorem dX8_undo_6 : decode cX8_undo 6 = .ok (.getfield 14, 3) := by decide +kernel
theorem dX8_undo_9 : decode cX8_undo 9 = .ok (.iload_n 2, 1) := by decide +kernel
theorem dX8_undo_10 : decode cX8_undo 10 = .ok (.iconst 1, 1) := by decide +kernel
theorem dX8_undo_11 : decode cX8_undo 11 = .ok (.isub, 1) := by decide +kernel
theorem dX8_undo_12 : decode cX8_undo 12 = .ok (.invokevirtual 34, 3) := by decide +kernel
theorem dX8_undo_15 : decode cX8_undo 15 = .ok (.lstore_n 3, 1) := by decide +kernel
theorem dX8_undo_16 : decode cX8_undo 16 = .ok (.iload_n 2, 1) := by decide +kernel
theorem dX8_undo_17 : decode cX8_undo 17 = .ok (.istore 5, 2) := by decide +kernel
theorem dX8_undo_19 : decode cX8_undo 19 = .ok (.iload 5, 2) := by decide +kernel
theorem dX8_undo_21 : decode cX8_undo 21 = .ok (.iload_n 1, 1) := by decide +kernel
theorem dX8_undo_22 : decode cX8_undo 22 = .ok (.if_icmp .gt 19, 3) := by decide +kernel
theorem dX8_undo_25 : decode cX8_undo 25 = .ok (.aload_n 0, 1) := by decide +kernel
theorem dX8_undo_26 : decode cX8_undo 26 = .ok (.getfield 14, 3) := by decide +kernel
theorem dX8_undo_29 : decode cX8_undo 29 = .ok (.iload 5, 2) := by decide +kernel
theorem dX8_undo_31 : decode cX8_undo 31 = .ok (.lload_n 3, 1) := by decide +kernel
theorem dX8_undo_32 : decode cX8_undo 32 = .ok (.invokevirtual 30, 3) := by decide +kernel
theorem dX8_undo_35 : decode cX8_undo 35 = .ok (.iinc 5 1, 3) := by decide +kernel
theorem dX8_undo_38 : decode cX8_undo 38 = .ok (.goto (-19), 3) := by decide +kernel
theorem dX8_undo_41 : decode cX8_undo 41 = .ok (.aload_n 0, 1) := by decide +kernel
theorem dX8_undo_42 : decode cX8_undo 42 = .ok (.iconst (-1), 1) := by decide +kernel
theorem dX8_undo_43 : decode cX8_undo 43 = .ok (.putfield 27, 3) := by decide +kernel
theorem dX8_undo_46 : decode cX8_undo 46 = .ok (.iload_n 1, 1) := by decide +kernel
theorem dX8_undo_47 : decode cX8_undo 47 = .ok (.iload_n 2, 1) := by decide +kernel
theorem dX8_undo_48 : decode cX8_undo 48 = .ok (.isub, 1) := by decide +kernel
theorem dX8_undo_49 : decode cX8_undo 49 = .ok (.iconst 1, 1) := by decide +kernel
theorem dX8_undo_50 : decode cX8_undo 50 = .ok (.iadd, 1) := by decide +kernel
theorem dX8_undo_51 : decode cX8_undo 51 = .ok (.ireturn, 1) := by decide +kernel
set_option maxRecDepth 20000 in
theorem ggX9_init_X5_init : GoodIn wsX9_init wsX5_init := goodIn_r _ [12, 13, 2, 3, 14, 15, 16] (by decide +kernel) (by decide +kernel)
set_option maxRecDepth 20000 in
theorem gX9_init_X5_init : GoodIn wsX9_init (wsX5_init) := ggX9_init_X5_init
theorem dX9_init_0 : decode cX9_init 0 = .ok (.aload_n 0, 1) := by decide +kernel
theorem dX9_init_1 : decode cX9_init 1 = .ok (.invokespecial 3, 3) := by decide +kernel
theorem dX9_init_4 : decode cX9_init 4 = .ok (.aload_n 0, 1) := by decide +kernel
theorem dX9_init_5 : decode cX9_init 5 = .ok (.new 9, 3) := by decide +kernel
theorem dX9_init_8 : decode cX9_init 8 = .ok (.dup, 1) := by decide +kernel
theorem dX9_init_9 : decode cX9_init 9 = .ok (.sipush 4000, 3) := by decide +kernel
theorem dX9_init_12 : decode cX9_init 12 = .ok (.invokespecial 11, 3) := by decide +kernel
theorem dX9_init_15 : decode cX9_init 15 = .ok (.putfield 14, 3) := by decide +kernel
theorem dX9_init_18 : decode cX9_init 18 = .ok (.aload_n 0, 1) := by decide +kernel
theorem dX9_init_19 : decode cX9_init 19 = .ok (.new 9, 3) := by decide +kernel
theorem dX9_init_22 : decode cX9_init 22 = .ok (.dup, 1) := by decide +kernel
theorem dX9_init_23 : decode cX9_init 23 = .ok (.sipush 4000, 3) := by decide +kernel
theorem dX9_init_26 : decode cX9_init 26 = .ok (.invokespecial 11, 3) := by decide +kernel
theorem dX9_init_29 : decode cX9_init 29 = .ok (.putfield 20, 3) := by decide +kernel
theorem dX9_init_32 : decode cX9_init 32 = .ok (.aload_n 0, 1) := by decide +kernel
theorem dX9_init_33 : decode cX9_init 33 = .ok (.new 9, 3) := by decide +kernel
theorem dX9_init_36 : decode cX9_init 36 = .ok (.dup, 1) := by decide +kernel
theorem dX9_init_37 : decode cX9_init 37 = .ok (.sipush 4000, 3) := by decide +kernel
theorem dX9_init_40 : decode cX9_init 40 = .ok (.invokespecial 11, 3) := by decide +kernel
theorem dX9_init_43 : decode cX9_init 43 = .ok (.putfield 23, 3) := by decide +kernel
theorem dX9_init_46 : decode cX9_init 46 = .ok (.return_, 1) := by decide +kernel
set_option maxRecDepth 20000 in
theorem ggX9_tell_X5_set : GoodIn wsX9_tell wsX5_set := goodIn_r _ [8, 9, 13] (by decide +kernel) (by decide +kernel)
set_option maxRecDepth 20000 in
theorem gX9_tell_X5_set : GoodIn wsX9_tell (wsV RX9 26 RX5 yX5_set wsX5_set) := goodIn_app (goodIn_of _ (by decide +kernel)) ggX9_tell_X5_set
theorem dX9_tell_0 : decode cX9_tell 0 = .ok (.iload_n 1, 1) := by decide +kernel
theorem dX9_tell_1 : decode cX9_tell 1 = .ok (.sipush 1000, 3) := by decide +kernel
theorem dX9_tell_4 : decode cX9_tell 4 = .ok (.imul, 1) := by decide +kernel
theorem dX9_tell_5 : decode cX9_tell 5 = .ok (.iload_n 2, 1) := by decide +kernel
theorem dX9_tell_6 : decode cX9_tell 6 = .ok (.iadd, 1) := by decide +kernel
theorem dX9_tell_7 : decode cX9_tell 7 = .ok (.istore 9, 2) := by decide +kernel
theorem dX9_tell_9 : decode cX9_tell 9 = .ok (.aload_n 0, 1) := by decide +kernel
theorem dX9_tell_10 : decode cX9_tell 10 = .ok (.getfield 14, 3) := by decide +kernel
theorem dX9_tell_13 : decode cX9_tell 13 = .ok (.iload 9, 2) := by decide +kernel
theorem dX9_tell_15 : decode cX9_tell 15 = .ok (.lload_n 3, 1) := by decide +kernel
theorem dX9_tell_16 : decode cX9_tell 16 = .ok (.invokevirtual 26, 3) := by decide +kernel
theorem dX9_tell_19 : decode cX9_tell 19 = .ok (.aload_n 0, 1) := by decide +kernel
theorem dX9_tell_20 : decode cX9_tell 20 = .ok (.getfield 20, 3) := by decide +kernel
theorem dX9_tell_23 : decode cX9_tell 23 = .ok (.iload 9, 2) := by decide +kernel
theorem dX9_tell_25 : decode cX9_tell 25 = .ok (.lload 5, 2) := by decide +kernel
theorem dX9_tell_27 : decode cX9_tell 27 = .ok (.invokevirtual 26, 3) := by decide +kernel
theorem dX9_tell_30 : decode cX9_tell 30 = .ok (.aload_n 0, 1) := by decide +kernel
theorem dX9_tell_31 : decode cX9_tell 31 = .ok (.getfield 23, 3) := by decide +kernel
theorem dX9_tell_34 : decode cX9_tell 34 = .ok (.iload 9, 2) := by decide +kernel
theorem dX9_tell_36 : decode cX9_tell 36 = .ok (.lload 7, 2) := by decide +kernel
theorem dX9_tell_38 : decode cX9_tell 38 = .ok (.invokevirtual 26, 3) := by decide +kernel
theorem dX9_tell_41 : decode cX9_tell 41 = .ok (.return_, 1) := by decide +kernel
set_option maxRecDepth 20000 in
theorem ggX9_begin_X5_get : GoodIn wsX9_begin wsX5_get := goodIn_r _ [8, 9, 22] (by decide +kernel) (by decide +kernel)
set_option maxRecDepth 20000 in
theorem gX9_begin_X5_get : GoodIn wsX9_begin (wsV RX9 30 RX5 yX5_get wsX5_get) := goodIn_app (goodIn_of _ (by decide +kernel)) ggX9_begin_X5_get
set_option maxRecDepth 20000 in
theorem ggX9_begin_X9_tell : GoodIn wsX9_begin wsX9_tell := goodIn_r _ [14, 1, 2, 3, 15, 16, 17, 7, 18, 9, 19, 20, 21, 22] (by decide +kernel) (by decide +kernel)
set_option maxRecDepth 20000 in
theorem gX9_begin_X9_tell : GoodIn wsX9_begin (wsV RX9 34 RX9 yX9_tell wsX9_tell) := goodIn_app (goodIn_of _ (by decide +kernel)) ggX9_begin_X9_tell
theorem dX9_begin_0 : decode cX9_begin 0 = .ok (.iconst 0, 1) := by decide +kernel
theorem dX9_begin_1 : decode cX9_begin 1 = .ok (.istore_n 2, 1) := by decide +kernel
theorem dX9_begin_2 : decode cX9_begin 2 = .ok (.iload_n 2, 1) := by decide +kernel
theorem dX9_begin_3 : decode cX9_begin 3 = .ok (.iconst 4, 1) := by decide +kernel
theorem dX9_begin_4 : decode cX9_begin 4 = .ok (.if_icmp .ge 49, 3) := by decide +kernel
theorem dX9_begin_7 : decode cX9_begin 7 = .ok (.iload_n 2, 1) := by decide +kernel
theorem dX9_begin_8 : decode cX9_begin 8 = .ok (.sipush 1000, 3) := by decide +kernel
theorem dX9_begin_11 : decode cX9_begin 11 = .ok (.imul, 1) := by decide +kernel
theorem dX9_begin_12 : decode cX9_begin 12 = .ok (.iload_n 1, 1) := by decide +kernel
theorem dX9_begin_13 : decode cX9_begin 13 = .ok (.iadd, 1) := by decide +kernel
theorem dX9_begin_14 : decode cX9_begin 14 = .ok (.iconst 1, 1) := by decide +kernel
theorem dX9_begin_15 : decode cX9_begin 15 = .ok (.isub, 1) := by decide +kernel
theorem dX9_begin_16 : decode cX9_begin 16 = .ok (.istore_n 3, 1) := by decide +kernel
theorem dX9_begin_17 : decode cX9_begin 17 = .ok (.aload_n 0, 1) := by decide +kernel
theorem dX9_begin_18 : decode cX9_begin 18 = .ok (.iload_n 2, 1) := by decide +kernel
theorem dX9_begin_19 : decode cX9_begin 19 = .ok (.iload_n 1, 1) := by decide +kernel
theorem dX9_begin_20 : decode cX9_begin 20 = .ok (.aload_n 0, 1) := by decide +kernel
theorem dX9_begin_21 : decode cX9_begin 21 = .ok (.getfield 14, 3) := by decide +kernel
theorem dX9_begin_24 : decode cX9_begin 24 = .ok (.iload_n 3, 1) := by decide +kernel
theorem dX9_begin_25 : decode cX9_begin 25 = .ok (.invokevirtual 30, 3) := by decide +kernel
theorem dX9_begin_28 : decode cX9_begin 28 = .ok (.aload_n 0, 1) := by decide +kernel
theorem dX9_begin_29 : decode cX9_begin 29 = .ok (.getfield 20, 3) := by decide +kernel
theorem dX9_begin_32 : decode cX9_begin 32 = .ok (.iload_n 3, 1) := by decide +kernel
theorem dX9_begin_33 : decode cX9_begin 33 = .ok (.invokevirtual 30, 3) := by decide +kernel
theorem dX9_begin_36 : decode cX9_begin 36 = .ok (.aload_n 0, 1) := by decide +kernel
theorem dX9_begin_37 : decode cX9_begin 37 = .ok (.getfield 23, 3) := by decide +kernel
theorem dX9_begin_40 : decode cX9_begin 40 = .ok (.iload_n 3, 1) := by decide +kernel
theorem dX9_begin_41 : decode cX9_begin 41 = .ok (.invokevirtual 30, 3) := by decide +kernel
theorem dX9_begin_44 : decode cX9_begin 44 = .ok (.invokevirtual 34, 3) := by decide +kernel
theorem dX9_begin_47 : decode cX9_begin 47 = .ok (.iinc 2 1, 3) := by decide +kernel
theorem dX9_begin_50 : decode cX9_begin 50 = .ok (.goto (-48), 3) := by decide +kernel
theorem dX9_begin_53 : decode cX9_begin 53 = .ok (.return_, 1) := by decide +kernel
set_option maxRecDepth 20000 in
theorem ggX9_cost_X5_get : GoodIn wsX9_cost wsX5_get := goodIn_r _ [12, 13, 17] (by decide +kernel) (by decide +kernel)
set_option maxRecDepth 20000 in
theorem gX9_cost_X5_get : GoodIn wsX9_cost (wsV RX9 30 RX5 yX5_get wsX5_get) := goodIn_app (goodIn_of _ (by decide +kernel)) ggX9_cost_X5_get
theorem dX9_cost_0 : decode cX9_cost 0 = .ok (.iload_n 1, 1) := by decide +kernel
theorem dX9_cost_1 : decode cX9_cost 1 = .ok (.sipush 1000, 3) := by decide +kernel
theorem dX9_cost_4 : decode cX9_cost 4 = .ok (.imul, 1) := by decide +kernel
theorem dX9_cost_5 : decode cX9_cost 5 = .ok (.iload_n 2, 1) := by decide +kernel
theorem dX9_cost_6 : decode cX9_cost 6 = .ok (.iadd, 1) := by decide +kernel
theorem dX9_cost_7 : decode cX9_cost 7 = .ok (.istore 5, 2) := by decide +kernel
theorem dX9_cost_9 : decode cX9_cost 9 = .ok (.lload_n 3, 1) := by decide +kernel
theorem dX9_cost_10 : decode cX9_cost 10 = .ok (.aload_n 0, 1) := by decide +kernel
theorem dX9_cost_11 : decode cX9_cost 11 = .ok (.getfield 20, 3) := by decide +kernel
theorem dX9_cost_14 : decode cX9_cost 14 = .ok (.iload 5, 2) := by decide +kernel
theorem dX9_cost_16 : decode cX9_cost 16 = .ok (.invokevirtual 30, 3) := by decide +kernel
theorem dX9_cost_19 : decode cX9_cost 19 = .ok (.invokestatic 38, 3) := by decide +kernel
theorem dX9_cost_22 : decode cX9_cost 22 = .ok (.lstore 6, 2) := by decide +kernel
theorem dX9_cost_24 : decode cX9_cost 24 = .ok (.lload 6, 2) := by decide +kernel
theorem dX9_cost_26 : decode cX9_cost 26 = .ok (.aload_n 0, 1) := by decide +kernel
theorem dX9_cost_27 : decode cX9_cost 27 = .ok (.getfield 14, 3) := by decide +kernel
theorem dX9_cost_30 : decode cX9_cost 30 = .ok (.iload 5, 2) := by decide +kernel
theorem dX9_cost_32 : decode cX9_cost 32 = .ok (.invokevirtual 30, 3) := by decide +kernel
theorem dX9_cost_35 : decode cX9_cost 35 = .ok (.lmul, 1) := by decide +kernel
theorem dX9_cost_36 : decode cX9_cost 36 = .ok (.lload_n 3, 1) := by decide +kernel
theorem dX9_cost_37 : decode cX9_cost 37 = .ok (.lload 6, 2) := by decide +kernel
theorem dX9_cost_39 : decode cX9_cost 39 = .ok (.lsub, 1) := by decide +kernel
theorem dX9_cost_40 : decode cX9_cost 40 = .ok (.aload_n 0, 1) := by decide +kernel
theorem dX9_cost_41 : decode cX9_cost 41 = .ok (.getfield 23, 3) := by decide +kernel
theorem dX9_cost_44 : decode cX9_cost 44 = .ok (.iload 5, 2) := by decide +kernel
theorem dX9_cost_46 : decode cX9_cost 46 = .ok (.invokevirtual 30, 3) := by decide +kernel
theorem dX9_cost_49 : decode cX9_cost 49 = .ok (.lmul, 1) := by decide +kernel
theorem dX9_cost_50 : decode cX9_cost 50 = .ok (.ladd, 1) := by decide +kernel
theorem dX9_cost_51 : decode cX9_cost 51 = .ok (.lreturn, 1) := by decide +kernel
set_option maxRecDepth 20000 in
theorem ggX10_init_X7_init : GoodIn wsX10_init wsX7_init := goodIn_r _ [32, 33, 2, 3, 34, 17, 18, 35, 36, 37, 38, 39, 40, 41, 42, 43, 44, 45, 46, 93, 76] (by decide +kernel) (by decide +kernel)
set_option maxRecDepth 20000 in
theorem gX10_init_X7_init : GoodIn wsX10_init (wsX7_init) := ggX10_init_X7_init
set_option maxRecDepth 20000 in
theorem ggX10_init_X1_init : GoodIn wsX10_init wsX1_init := goodIn_r _ [49, 50, 2, 3, 51, 17, 18, 52, 53, 54, 55, 38, 39, 40, 41, 42, 93, 87, 88, 89] (by decide +kernel) (by decide +kernel)
set_option maxRecDepth 20000 in
theorem gX10_init_X1_init : GoodIn wsX10_init (wsX1_init) := ggX10_init_X1_init
set_option maxRecDepth 20000 in
theorem ggX10_init_X9_init : GoodIn wsX10_init wsX9_init := goodIn_r _ [57, 58, 2, 3, 59, 17, 18, 60, 61, 62, 63, 38, 39, 40, 41, 42, 93, 90, 91, 92] (by decide +kernel) (by decide +kernel)
set_option maxRecDepth 20000 in
theorem gX10_init_X9_init_n27 : GoodIn wsX10_init (wsX9_init) := ggX10_init_X9_init
set_option maxRecDepth 20000 in
theorem ggX10_init_X5_init : GoodIn wsX10_init wsX5_init := goodIn_r _ [39, 40, 2, 3, 41, 42, 93] (by decide +kernel) (by decide +kernel)
set_option maxRecDepth 20000 in
theorem gX10_init_X5_init : GoodIn wsX10_init (wsX5_init) := ggX10_init_X5_init
set_option maxRecDepth 20000 in
theorem ggX10_init_X6_init : GoodIn wsX10_init wsX6_init := goodIn_r _ [66, 67, 2, 3, 68, 17, 18, 69, 70, 71, 72, 9, 10, 73, 74, 38, 39, 40, 41, 42, 75, 48, 49, 50, 51, 52, 53, 54, 55, 93, 94, 95, 96, 97, 87, 88, 89] (by decide +kernel) (by decide +kernel)
set_option maxRecDepth 20000 in
theorem gX10_init_X6_init_n41 : GoodIn wsX10_init (wsX6_init) := ggX10_init_X6_init
theorem dX10_init_0 : decode cX10_init 0 = .ok (.aload_n 0, 1) := by decide +kernel
theorem dX10_init_1 : decode cX10_init 1 = .ok (.invokespecial 1, 3) := by decide +kernel
theorem dX10_init_4 : decode cX10_init 4 = .ok (.aload_n 0, 1) := by decide +kernel
theorem dX10_init_5 : decode cX10_init 5 = .ok (.new 7, 3) := by decide +kernel
theorem dX10_init_8 : decode cX10_init 8 = .ok (.dup, 1) := by decide +kernel
theorem dX10_init_9 : decode cX10_init 9 = .ok (.invokespecial 9, 3) := by decide +kernel
theorem dX10_init_12 : decode cX10_init 12 = .ok (.putfield 10, 3) := by decide +kernel
theorem dX10_init_15 : decode cX10_init 15 = .ok (.aload_n 0, 1) := by decide +kernel
theorem dX10_init_16 : decode cX10_init 16 = .ok (.new 16, 3) := by decide +kernel
theorem dX10_init_19 : decode cX10_init 19 = .ok (.dup, 1) := by decide +kernel
theorem dX10_init_20 : decode cX10_init 20 = .ok (.sipush 1000, 3) := by decide +kernel
theorem dX10_init_23 : decode cX10_init 23 = .ok (.invokespecial 18, 3) := by decide +kernel
theorem dX10_init_26 : decode cX10_init 26 = .ok (.putfield 21, 3) := by decide +kernel
theorem dX10_init_29 : decode cX10_init 29 = .ok (.aload_n 0, 1) := by decide +kernel
theorem dX10_init_30 : decode cX10_init 30 = .ok (.new 25, 3) := by decide +kernel
theorem dX10_init_33 : decode cX10_init 33 = .ok (.dup, 1) := by decide +kernel
theorem dX10_init_34 : decode cX10_init 34 = .ok (.invokespecial 27, 3) := by decide +kernel
theorem dX10_init_37 : decode cX10_init 37 = .ok (.putfield 28, 3) := by decide +kernel
theorem dX10_init_40 : decode cX10_init 40 = .ok (.aload_n 0, 1) := by decide +kernel
theorem dX10_init_41 : decode cX10_init 41 = .ok (.new 32, 3) := by decide +kernel
theorem dX10_init_44 : decode cX10_init 44 = .ok (.dup, 1) := by decide +kernel
theorem dX10_init_45 : decode cX10_init 45 = .ok (.iconst 4, 1) := by decide +kernel
theorem dX10_init_46 : decode cX10_init 46 = .ok (.invokespecial 34, 3) := by decide +kernel
theorem dX10_init_49 : decode cX10_init 49 = .ok (.putfield 35, 3) := by decide +kernel
theorem dX10_init_52 : decode cX10_init 52 = .ok (.aload_n 0, 1) := by decide +kernel
theorem dX10_init_53 : decode cX10_init 53 = .ok (.new 39, 3) := by decide +kernel
theorem dX10_init_56 : decode cX10_init 56 = .ok (.dup, 1) := by decide +kernel
theorem dX10_init_57 : decode cX10_init 57 = .ok (.invokespecial 41, 3) := by decide +kernel
theorem dX10_init_60 : decode cX10_init 60 = .ok (.putfield 42, 3) := by decide +kernel
theorem dX10_init_63 : decode cX10_init 63 = .ok (.aload_n 0, 1) := by decide +kernel
theorem dX10_init_64 : decode cX10_init 64 = .ok (.new 32, 3) := by decide +kernel
theorem dX10_init_67 : decode cX10_init 67 = .ok (.dup, 1) := by decide +kernel
theorem dX10_init_68 : decode cX10_init 68 = .ok (.sipush 512, 3) := by decide +kernel
theorem dX10_init_71 : decode cX10_init 71 = .ok (.invokespecial 34, 3) := by decide +kernel
theorem dX10_init_74 : decode cX10_init 74 = .ok (.putfield 46, 3) := by decide +kernel
theorem dX10_init_77 : decode cX10_init 77 = .ok (.aload_n 0, 1) := by decide +kernel
theorem dX10_init_78 : decode cX10_init 78 = .ok (.bipush 8, 2) := by decide +kernel
theorem dX10_init_80 : decode cX10_init 80 = .ok (.anewarray 49, 3) := by decide +kernel
theorem dX10_init_83 : decode cX10_init 83 = .ok (.putfield 51, 3) := by decide +kernel
theorem dX10_init_86 : decode cX10_init 86 = .ok (.aload_n 0, 1) := by decide +kernel
theorem dX10_init_87 : decode cX10_init 87 = .ok (.iconst 0, 1) := by decide +kernel
theorem dX10_init_88 : decode cX10_init 88 = .ok (.putfield 55, 3) := by decide +kernel
theorem dX10_init_91 : decode cX10_init 91 = .ok (.aload_n 0, 1) := by decide +kernel
theorem dX10_init_92 : decode cX10_init 92 = .ok (.iconst 0, 1) := by decide +kernel
theorem dX10_init_93 : decode cX10_init 93 = .ok (.putfield 59, 3) := by decide +kernel
theorem dX10_init_96 : decode cX10_init 96 = .ok (.aload_n 0, 1) := by decide +kernel
theorem dX10_init_97 : decode cX10_init 97 = .ok (.iconst 0, 1) := by decide +kernel
theorem dX10_init_98 : decode cX10_init 98 = .ok (.putfield 62, 3) := by decide +kernel
theorem dX10_init_101 : decode cX10_init 101 = .ok (.return_, 1) := by decide +kernel
set_option maxRecDepth 20000 in
theorem ggX10_point_X10_needSupplier : GoodIn wsX10_point wsX10_needSupplier := goodIn_ca (goodIn_r _ [30, 31, 32] (by decide +kernel) (by decide +kernel)) (goodIn_sub (fun _ h => List.mem_cons_of_mem _ (List.mem_append_right _ h)) (by decide +kernel))
set_option maxRecDepth 20000 in
theorem gX10_point_X10_needSupplier : GoodIn wsX10_point (wsV RX10 65 RX10 yX10_needSupplier wsX10_needSupplier) := goodIn_app (goodIn_of _ (by decide +kernel)) ggX10_point_X10_needSupplier
set_option maxRecDepth 20000 in
theorem ggX10_point_X10_isMeter : GoodIn wsX10_point wsX10_isMeter := goodIn_r _ [36] (by decide +kernel) (by decide +kernel)
set_option maxRecDepth 20000 in
theorem gX10_point_X10_isMeter : GoodIn wsX10_point (wsV RX10 68 RX10 yX10_isMeter wsX10_isMeter) := goodIn_app (goodIn_of _ (by decide +kernel)) ggX10_point_X10_isMeter
set_option maxRecDepth 20000 in
theorem ggX10_point_X2_init : GoodIn wsX10_point wsX2_init := goodIn_r _ [39, 40, 41, 42, 43, 44, 45, 46, 109, 110, 111] (by decide +kernel) (by decide +kernel)
set_option maxRecDepth 20000 in
theorem gX10_point_X2_init : GoodIn wsX10_point (wsX2_init) := ggX10_point_X2_init
set_option maxRecDepth 20000 in
theorem ggX10_point_X2_canShow : GoodIn wsX10_point wsX2_canShow := goodIn_r _ [50, 44, 109, 110, 111] (by decide +kernel) (by decide +kernel)
set_option maxRecDepth 20000 in
theorem gX10_point_X2_canShow : GoodIn wsX10_point (wsV RX10 84 RX2 yX2_canShow wsX2_canShow) := goodIn_app (goodIn_of _ (by decide +kernel)) ggX10_point_X2_canShow
set_option maxRecDepth 20000 in
theorem ggX10_point_X4_init : GoodIn wsX10_point wsX4_init := goodIn_r _ [53, 54, 41, 42, 55, 56, 57, 58, 59, 60, 61, 62, 63, 64, 65, 66, 67, 68, 69, 70, 71, 72, 73, 74, 75, 76, 146, 122, 123, 124, 125, 126, 127, 128, 129, 130, 131, 132, 133] (by decide +kernel) (by decide +kernel)
set_option maxRecDepth 20000 in
theorem gX10_point_X4_init : GoodIn wsX10_point (wsX4_init) := ggX10_point_X4_init
set_option maxRecDepth 20000 in
theorem ggX10_point_X8_init : GoodIn wsX10_point wsX8_init := goodIn_r _ [79, 80, 41, 42, 81, 56, 57, 82, 83, 84, 85, 86, 72, 73, 74, 75, 76, 87, 88, 89, 90, 146, 138, 139, 140, 141] (by decide +kernel) (by decide +kernel)
set_option maxRecDepth 20000 in
theorem gX10_point_X8_init : GoodIn wsX10_point (wsX8_init) := ggX10_point_X8_init
set_option maxRecDepth 20000 in
theorem ggX10_point_X0_init : GoodIn wsX10_point wsX0_init := goodIn_r _ [93, 94, 41, 42, 95, 56, 57, 96, 97, 98, 99, 100, 72, 73, 74, 75, 76, 146, 142, 143, 144, 145] (by decide +kernel) (by decide +kernel)
set_option maxRecDepth 20000 in
theorem gX10_point_X0_init : GoodIn wsX10_point (wsX0_init) := ggX10_point_X0_init
set_option maxRecDepth 20000 in
theorem ggX10_point_X3_init : GoodIn wsX10_point wsX3_init := goodIn_r _ [103, 104, 41, 42, 105, 106, 107, 108, 134, 135, 136, 137] (by decide +kernel) (by decide +kernel)
set_option maxRecDepth 20000 in
theorem gX10_point_X3_init : GoodIn wsX10_point (wsX3_init) := ggX10_point_X3_init
theorem dX10_point_0 : decode cX10_point 0 = .ok (.aload_n 0, 1) := by decide +kernel
theorem dX10_point_1 : decode cX10_point 1 = .ok (.iload_n 1, 1) := by decide +kernel
theorem dX10_point_2 : decode cX10_point 2 = .ok (.invokevirtual 65, 3) := by decide +kernel
theorem dX10_point_5 : decode cX10_point 5 = .ok (.iload_n 2, 1) := by decide +kernel
theorem dX10_point_6 : decode cX10_point 6 = .ok (.ifCond .lt 18, 3) := by decide +kernel
theorem dX10_point_9 : decode cX10_point 9 = .ok (.iload_n 2, 1) := by decide +kernel
theorem dX10_point_10 : decode cX10_point 10 = .ok (.iconst 2, 1) := by decide +kernel
theorem dX10_point_11 : decode cX10_point 11 = .ok (.if_icmp .gt 13, 3) := by decide +kernel
theorem dX10_point_14 : decode cX10_point 14 = .ok (.aload_n 0, 1) := by decide +kernel
theorem dX10_point_15 : decode cX10_point 15 = .ok (.iload_n 3, 1) := by decide +kernel
theorem dX10_point_16 : decode cX10_point 16 = .ok (.iload 4, 2) := by decide +kernel
theorem dX10_point_18 : decode cX10_point 18 = .ok (.invokevirtual 68, 3) := by decide +kernel
theorem dX10_point_21 : decode cX10_point 21 = .ok (.ifCond .ne 13, 3) := by decide +kernel
theorem dX10_point_24 : decode cX10_point 24 = .ok (.new 72, 3) := by decide +kernel
theorem dX10_point_27 : decode cX10_point 27 = .ok (.dup, 1) := by decide +kernel
theorem dX10_point_28 : decode cX10_point 28 = .ok (.ldc 74, 2) := by decide +kernel
theorem dX10_point_30 : decode cX10_point 30 = .ok (.invokespecial 76, 3) := by decide +kernel
theorem dX10_point_33 : decode cX10_point 33 = .ok (.athrow, 1) := by decide +kernel
theorem dX10_point_34 : decode cX10_point 34 = .ok (.new 79, 3) := by decide +kernel
theorem dX10_point_37 : decode cX10_point 37 = .ok (.dup, 1) := by decide +kernel
theorem dX10_point_38 : decode cX10_point 38 = .ok (.iload_n 3, 1) := by decide +kernel
theorem dX10_point_39 : decode cX10_point 39 = .ok (.iload 4, 2) := by decide +kernel
theorem dX10_point_41 : decode cX10_point 41 = .ok (.iload 5, 2) := by decide +kernel
theorem dX10_point_43 : decode cX10_point 43 = .ok (.invokespecial 81, 3) := by decide +kernel
theorem dX10_point_46 : decode cX10_point 46 = .ok (.astore 6, 2) := by decide +kernel
theorem dX10_point_48 : decode cX10_point 48 = .ok (.aload 6, 2) := by decide +kernel
theorem dX10_point_50 : decode cX10_point 50 = .ok (.iload 5, 2) := by decide +kernel
theorem dX10_point_52 : decode cX10_point 52 = .ok (.invokevirtual 84, 3) := by decide +kernel
theorem dX10_point_55 : decode cX10_point 55 = .ok (.ifCond .ne 13, 3) := by decide +kernel
theorem dX10_point_58 : decode cX10_point 58 = .ok (.new 72, 3) := by decide +kernel
theorem dX10_point_61 : decode cX10_point 61 = .ok (.dup, 1) := by decide +kernel
theorem dX10_point_62 : decode cX10_point 62 = .ok (.ldc 88, 2) := by decide +kernel
theorem dX10_point_64 : decode cX10_point 64 = .ok (.invokespecial 76, 3) := by decide +kernel
theorem dX10_point_67 : decode cX10_point 67 = .ok (.athrow, 1) := by decide +kernel
theorem dX10_point_68 : decode cX10_point 68 = .ok (.aload_n 0, 1) := by decide +kernel
theorem dX10_point_69 : decode cX10_point 69 = .ok (.getfield 59, 3) := by decide +kernel
theorem dX10_point_72 : decode cX10_point 72 = .ok (.ifCond .lt 15, 3) := by decide +kernel
theorem dX10_point_75 : decode cX10_point 75 = .ok (.aload_n 0, 1) := by decide +kernel
theorem dX10_point_76 : decode cX10_point 76 = .ok (.getfield 59, 3) := by decide +kernel
theorem dX10_point_79 : decode cX10_point 79 = .ok (.aload_n 0, 1) := by decide +kernel
theorem dX10_point_80 : decode cX10_point 80 = .ok (.getfield 51, 3) := by decide +kernel
theorem dX10_point_83 : decode cX10_point 83 = .ok (.arraylength, 1) := by decide +kernel
theorem dX10_point_84 : decode cX10_point 84 = .ok (.if_icmp .lt 13, 3) := by decide +kernel
theorem dX10_point_87 : decode cX10_point 87 = .ok (.new 90, 3) := by decide +kernel
theorem dX10_point_90 : decode cX10_point 90 = .ok (.dup, 1) := by decide +kernel
theorem dX10_point_91 : decode cX10_point 91 = .ok (.ldc 92, 2) := by decide +kernel
theorem dX10_point_93 : decode cX10_point 93 = .ok (.invokespecial 94, 3) := by decide +kernel
theorem dX10_point_96 : decode cX10_point 96 = .ok (.athrow, 1) := by decide +kernel
theorem dX10_point_97 : decode cX10_point 97 = .ok (.new 95, 3) := by decide +kernel
theorem dX10_point_100 : decode cX10_point 100 = .ok (.dup, 1) := by decide +kernel
theorem dX10_point_101 : decode cX10_point 101 = .ok (.aload 6, 2) := by decide +kernel
theorem dX10_point_103 : decode cX10_point 103 = .ok (.iload_n 2, 1) := by decide +kernel
theorem dX10_point_104 : decode cX10_point 104 = .ok (.aload_n 0, 1) := by decide +kernel
theorem dX10_point_105 : decode cX10_point 105 = .ok (.getfield 62, 3) := by decide +kernel
theorem dX10_point_108 : decode cX10_point 108 = .ok (.aload_n 0, 1) := by decide +kernel
theorem dX10_point_109 : decode cX10_point 109 = .ok (.getfield 10, 3) := by decide +kernel
theorem dX10_point_112 : decode cX10_point 112 = .ok (.aload_n 0, 1) := by decide +kernel
theorem dX10_point_113 : decode cX10_point 113 = .ok (.getfield 21, 3) := by decide +kernel
theorem dX10_point_116 : decode cX10_point 116 = .ok (.invokespecial 97, 3) := by decide +kernel
theorem dX10_point_119 : decode cX10_point 119 = .ok (.astore 7, 2) := by decide +kernel
theorem dX10_point_121 : decode cX10_point 121 = .ok (.aload_n 0, 1) := by decide +kernel
theorem dX10_point_122 : decode cX10_point 122 = .ok (.getfield 51, 3) := by decide +kernel
theorem dX10_point_125 : decode cX10_point 125 = .ok (.aload_n 0, 1) := by decide +kernel
theorem dX10_point_126 : decode cX10_point 126 = .ok (.getfield 59, 3) := by decide +kernel
theorem dX10_point_129 : decode cX10_point 129 = .ok (.new 49, 3) := by decide +kernel
theorem dX10_point_132 : decode cX10_point 132 = .ok (.dup, 1) := by decide +kernel
theorem dX10_point_133 : decode cX10_point 133 = .ok (.aload_n 0, 1) := by decide +kernel
theorem dX10_point_134 : decode cX10_point 134 = .ok (.getfield 62, 3) := by decide +kernel
theorem dX10_point_137 : decode cX10_point 137 = .ok (.aload 7, 2) := by decide +kernel
theorem dX10_point_139 : decode cX10_point 139 = .ok (.new 100, 3) := by decide +kernel
theorem dX10_point_142 : decode cX10_point 142 = .ok (.dup, 1) := by decide +kernel
theorem dX10_point_143 : decode cX10_point 143 = .ok (.aload_n 0, 1) := by decide +kernel
theorem dX10_point_144 : decode cX10_point 144 = .ok (.getfield 62, 3) := by decide +kernel
theorem dX10_point_147 : decode cX10_point 147 = .ok (.iload_n 1, 1) := by decide +kernel
theorem dX10_point_148 : decode cX10_point 148 = .ok (.invokespecial 102, 3) := by decide +kernel
theorem dX10_point_151 : decode cX10_point 151 = .ok (.new 105, 3) := by decide +kernel
theorem dX10_point_154 : decode cX10_point 154 = .ok (.dup, 1) := by decide +kernel
theorem dX10_point_155 : decode cX10_point 155 = .ok (.aload_n 0, 1) := by decide +kernel
theorem dX10_point_156 : decode cX10_point 156 = .ok (.getfield 35, 3) := by decide +kernel
theorem dX10_point_159 : decode cX10_point 159 = .ok (.invokespecial 107, 3) := by decide +kernel
theorem dX10_point_162 : decode cX10_point 162 = .ok (.invokespecial 110, 3) := by decide +kernel
theorem dX10_point_165 : decode cX10_point 165 = .ok (.aastore, 1) := by decide +kernel
theorem dX10_point_166 : decode cX10_point 166 = .ok (.aload_n 0, 1) := by decide +kernel
theorem dX10_point_167 : decode cX10_point 167 = .ok (.dup, 1) := by decide +kernel
theorem dX10_point_168 : decode cX10_point 168 = .ok (.getfield 59, 3) := by decide +kernel
theorem dX10_point_171 : decode cX10_point 171 = .ok (.iconst 1, 1) := by decide +kernel
theorem dX10_point_172 : decode cX10_point 172 = .ok (.iadd, 1) := by decide +kernel
theorem dX10_point_173 : decode cX10_point 173 = .ok (.putfield 59, 3) := by decide +kernel
theorem dX10_point_176 : decode cX10_point 176 = .ok (.aload_n 0, 1) := by decide +kernel
theorem dX10_point_177 : decode cX10_point 177 = .ok (.getfield 59, 3) := by decide +kernel
theorem dX10_point_180 : decode cX10_point 180 = .ok (.iconst 1, 1) := by decide +kernel
theorem dX10_point_181 : decode cX10_point 181 = .ok (.isub, 1) := by decide +kernel
theorem dX10_point_182 : decode cX10_point 182 = .ok (.ireturn, 1) := by decide +kernel
set_option maxRecDepth 20000 in
theorem ggX10_weather_X10_isWithin : GoodIn wsX10_weather wsX10_isWithin := goodIn_r _ [11] (by decide +kernel) (by decide +kernel)
set_option maxRecDepth 20000 in
theorem gX10_weather_X10_isWithin : GoodIn wsX10_weather (wsV RX10 118 RX10 yX10_isWithin wsX10_isWithin) := goodIn_app (goodIn_of _ (by decide +kernel)) ggX10_weather_X10_isWithin
set_option maxRecDepth 20000 in
theorem ggX10_weather_X7_tell : GoodIn wsX10_weather wsX7_tell := goodIn_r _ [16, 17, 18, 19, 20, 21, 22, 23, 24, 25, 26, 27, 38, 39] (by decide +kernel) (by decide +kernel)
set_option maxRecDepth 20000 in
theorem gX10_weather_X7_tell : GoodIn wsX10_weather (wsV RX10 123 RX7 yX7_tell wsX7_tell) := goodIn_app (goodIn_of _ (by decide +kernel)) ggX10_weather_X7_tell
theorem dX10_weather_0 : decode cX10_weather 0 = .ok (.iload_n 1, 1) := by decide +kernel
theorem dX10_weather_1 : decode cX10_weather 1 = .ok (.aload_n 0, 1) := by decide +kernel
theorem dX10_weather_2 : decode cX10_weather 2 = .ok (.getfield 62, 3) := by decide +kernel
theorem dX10_weather_5 : decode cX10_weather 5 = .ok (.if_icmp .lt 15, 3) := by decide +kernel
theorem dX10_weather_8 : decode cX10_weather 8 = .ok (.iload_n 2, 1) := by decide +kernel
theorem dX10_weather_9 : decode cX10_weather 9 = .ok (.iload_n 1, 1) := by decide +kernel
theorem dX10_weather_10 : decode cX10_weather 10 = .ok (.if_icmp .lt 10, 3) := by decide +kernel
theorem dX10_weather_13 : decode cX10_weather 13 = .ok (.iload_n 2, 1) := by decide +kernel
theorem dX10_weather_14 : decode cX10_weather 14 = .ok (.sipush 1000, 3) := by decide +kernel
theorem dX10_weather_17 : decode cX10_weather 17 = .ok (.if_icmp .lt 13, 3) := by decide +kernel
theorem dX10_weather_20 : decode cX10_weather 20 = .ok (.new 113, 3) := by decide +kernel
theorem dX10_weather_23 : decode cX10_weather 23 = .ok (.dup, 1) := by decide +kernel
theorem dX10_weather_24 : decode cX10_weather 24 = .ok (.ldc 115, 2) := by decide +kernel
theorem dX10_weather_26 : decode cX10_weather 26 = .ok (.invokespecial 117, 3) := by decide +kernel
theorem dX10_weather_29 : decode cX10_weather 29 = .ok (.athrow, 1) := by decide +kernel
theorem dX10_weather_30 : decode cX10_weather 30 = .ok (.aload_n 0, 1) := by decide +kernel
theorem dX10_weather_31 : decode cX10_weather 31 = .ok (.iload_n 3, 1) := by decide +kernel
theorem dX10_weather_32 : decode cX10_weather 32 = .ok (.bipush 30, 2) := by decide +kernel
theorem dX10_weather_34 : decode cX10_weather 34 = .ok (.invokevirtual 118, 3) := by decide +kernel
theorem dX10_weather_37 : decode cX10_weather 37 = .ok (.ifCond .ne 13, 3) := by decide +kernel
theorem dX10_weather_40 : decode cX10_weather 40 = .ok (.new 72, 3) := by decide +kernel
theorem dX10_weather_43 : decode cX10_weather 43 = .ok (.dup, 1) := by decide +kernel
theorem dX10_weather_44 : decode cX10_weather 44 = .ok (.ldc 121, 2) := by decide +kernel
theorem dX10_weather_46 : decode cX10_weather 46 = .ok (.invokespecial 76, 3) := by decide +kernel
theorem dX10_weather_49 : decode cX10_weather 49 = .ok (.athrow, 1) := by decide +kernel
theorem dX10_weather_50 : decode cX10_weather 50 = .ok (.aload_n 0, 1) := by decide +kernel
theorem dX10_weather_51 : decode cX10_weather 51 = .ok (.getfield 10, 3) := by decide +kernel
theorem dX10_weather_54 : decode cX10_weather 54 = .ok (.iload_n 1, 1) := by decide +kernel
theorem dX10_weather_55 : decode cX10_weather 55 = .ok (.iload_n 2, 1) := by decide +kernel
theorem dX10_weather_56 : decode cX10_weather 56 = .ok (.iload_n 3, 1) := by decide +kernel
theorem dX10_weather_57 : decode cX10_weather 57 = .ok (.invokevirtual 123, 3) := by decide +kernel
theorem dX10_weather_60 : decode cX10_weather 60 = .ok (.ireturn, 1) := by decide +kernel
set_option maxRecDepth 20000 in
theorem ggX10_pass_X10_beginNextDay : GoodIn wsX10_pass wsX10_beginNextDay := goodIn_r _ [10, 5, 11, 12, 13, 14, 15, 16, 17, 18, 19, 20, 21, 22, 23, 24, 25, 26, 27, 28, 29, 30, 31, 32, 33, 34, 35, 36, 37, 38, 39, 40, 41, 42, 43, 44, 45, 46, 47, 48, 49, 50, 51, 52, 53, 54, 55, 56, 57, 58, 59, 60, 61, 62, 63, 64, 65, 66, 67, 68] (by decide +kernel) (by decide +kernel)
set_option maxRecDepth 20000 in
theorem gX10_pass_X10_beginNextDay : GoodIn wsX10_pass (wsV RX10 131 RX10 yX10_beginNextDay wsX10_beginNextDay) := goodIn_app (goodIn_of _ (by decide +kernel)) ggX10_pass_X10_beginNextDay
theorem dX10_pass_0 : decode cX10_pass 0 = .ok (.iload_n 1, 1) := by decide +kernel
theorem dX10_pass_1 : decode cX10_pass 1 = .ok (.iconst 1, 1) := by decide +kernel
theorem dX10_pass_2 : decode cX10_pass 2 = .ok (.if_icmp .lt 9, 3) := by decide +kernel
theorem dX10_pass_5 : decode cX10_pass 5 = .ok (.iload_n 1, 1) := by decide +kernel
theorem dX10_pass_6 : decode cX10_pass 6 = .ok (.bipush 60, 2) := by decide +kernel
theorem dX10_pass_8 : decode cX10_pass 8 = .ok (.if_icmp .le 13, 3) := by decide +kernel
theorem dX10_pass_11 : decode cX10_pass 11 = .ok (.new 72, 3) := by decide +kernel
theorem dX10_pass_14 : decode cX10_pass 14 = .ok (.dup, 1) := by decide +kernel
theorem dX10_pass_15 : decode cX10_pass 15 = .ok (.ldc 127, 2) := by decide +kernel
theorem dX10_pass_17 : decode cX10_pass 17 = .ok (.invokespecial 76, 3) := by decide +kernel
theorem dX10_pass_20 : decode cX10_pass 20 = .ok (.athrow, 1) := by decide +kernel
theorem dX10_pass_21 : decode cX10_pass 21 = .ok (.aload_n 0, 1) := by decide +kernel
theorem dX10_pass_22 : decode cX10_pass 22 = .ok (.getfield 62, 3) := by decide +kernel
theorem dX10_pass_25 : decode cX10_pass 25 = .ok (.iload_n 1, 1) := by decide +kernel
theorem dX10_pass_26 : decode cX10_pass 26 = .ok (.iadd, 1) := by decide +kernel
theorem dX10_pass_27 : decode cX10_pass 27 = .ok (.sipush 900, 3) := by decide +kernel
theorem dX10_pass_30 : decode cX10_pass 30 = .ok (.if_icmp .le 13, 3) := by decide +kernel
theorem dX10_pass_33 : decode cX10_pass 33 = .ok (.new 90, 3) := by decide +kernel
theorem dX10_pass_36 : decode cX10_pass 36 = .ok (.dup, 1) := by decide +kernel
theorem dX10_pass_37 : decode cX10_pass 37 = .ok (.ldc 129, 2) := by decide +kernel
theorem dX10_pass_39 : decode cX10_pass 39 = .ok (.invokespecial 94, 3) := by decide +kernel
theorem dX10_pass_42 : decode cX10_pass 42 = .ok (.athrow, 1) := by decide +kernel
theorem dX10_pass_43 : decode cX10_pass 43 = .ok (.iconst 0, 1) := by decide +kernel
theorem dX10_pass_44 : decode cX10_pass 44 = .ok (.istore_n 2, 1) := by decide +kernel
theorem dX10_pass_45 : decode cX10_pass 45 = .ok (.iload_n 2, 1) := by decide +kernel
theorem dX10_pass_46 : decode cX10_pass 46 = .ok (.iload_n 1, 1) := by decide +kernel
theorem dX10_pass_47 : decode cX10_pass 47 = .ok (.if_icmp .ge 13, 3) := by decide +kernel
theorem dX10_pass_50 : decode cX10_pass 50 = .ok (.aload_n 0, 1) := by decide +kernel
theorem dX10_pass_51 : decode cX10_pass 51 = .ok (.invokevirtual 131, 3) := by decide +kernel
theorem dX10_pass_54 : decode cX10_pass 54 = .ok (.iinc 2 1, 3) := by decide +kernel
theorem dX10_pass_57 : decode cX10_pass 57 = .ok (.goto (-12), 3) := by decide +kernel
theorem dX10_pass_60 : decode cX10_pass 60 = .ok (.aload_n 0, 1) := by decide +kernel
theorem dX10_pass_61 : decode cX10_pass 61 = .ok (.getfield 62, 3) := by decide +kernel
theorem dX10_pass_64 : decode cX10_pass 64 = .ok (.ireturn, 1) := by decide +kernel
set_option maxRecDepth 20000 in
theorem ggX10_read_X10_pointAt : GoodIn wsX10_read wsX10_pointAt := goodIn_ca (goodIn_r _ [9, 10, 11, 12, 142, 143, 144, 145, 146, 147, 148, 149, 150, 151] (by decide +kernel) (by decide +kernel)) (goodIn_sub (fun _ h => List.mem_cons_of_mem _ (List.mem_append_left _ (List.mem_append_right _ h))) (by decide +kernel))
set_option maxRecDepth 20000 in
theorem gX10_read_X10_pointAt : GoodIn wsX10_read (wsV RX10 134 RX10 yX10_pointAt wsX10_pointAt) := goodIn_app (goodIn_of _ (by decide +kernel)) ggX10_read_X10_pointAt
set_option maxRecDepth 20000 in
theorem ggX10_read_X4_canShow : GoodIn wsX10_read wsX4_canShow := goodIn_r _ [17, 18, 19, 20, 21, 22, 23, 24, 152, 153, 154, 155, 156, 157, 158, 159, 160, 161, 162, 163, 164, 165, 166] (by decide +kernel) (by decide +kernel)
set_option maxRecDepth 20000 in
theorem gX10_read_X4_canShow : GoodIn wsX10_read (wsV RX10 142 RX4 yX4_canShow wsX4_canShow) := goodIn_app (goodIn_of _ (by decide +kernel)) ggX10_read_X4_canShow
set_option maxRecDepth 20000 in
theorem ggX10_read_X10_needNoReadingToday : GoodIn wsX10_read wsX10_needNoReadingToday := goodIn_ca (goodIn_r _ [28, 29, 30, 4, 31, 32, 33, 16, 34, 35, 142, 143, 144, 145, 146, 147, 148, 149, 150, 151, 152, 153, 154, 155, 156, 157, 158, 159, 160, 161, 162, 163] (by decide +kernel) (by decide +kernel)) (goodIn_sub (fun _ h => List.mem_cons_of_mem _ (List.mem_append_right _ h)) (by decide +kernel))
set_option maxRecDepth 20000 in
theorem gX10_read_X10_needNoReadingToday : GoodIn wsX10_read (wsV RX10 143 RX10 yX10_needNoReadingToday wsX10_needNoReadingToday) := goodIn_app (goodIn_of _ (by decide +kernel)) ggX10_read_X10_needNoReadingToday
set_option maxRecDepth 20000 in
theorem ggX10_read_X4_isPlausible : GoodIn wsX10_read wsX4_isPlausible := goodIn_r _ [39, 18, 40, 41, 42, 35, 43, 44, 45, 22, 46, 47, 24, 48, 49, 50, 51, 52, 53, 54, 55, 56, 57, 58, 59, 60, 61, 62, 63, 64, 65, 66, 67, 152, 153, 154, 155, 156, 157, 158, 159, 160, 161, 162, 163, 164, 165, 166, 167, 168] (by decide +kernel) (by decide +kernel)
set_option maxRecDepth 20000 in
theorem gX10_read_X4_isPlausible : GoodIn wsX10_read (wsV RX10 147 RX4 yX4_isPlausible wsX4_isPlausible) := goodIn_app (goodIn_of _ (by decide +kernel)) ggX10_read_X4_isPlausible
set_option maxRecDepth 20000 in
theorem ggX10_read_X4_doubt : GoodIn wsX10_read wsX4_doubt := goodIn_r _ [71, 72, 73, 152, 153, 154, 155, 156, 157, 158, 159, 160, 161, 162, 163] (by decide +kernel) (by decide +kernel)
set_option maxRecDepth 20000 in
theorem gX10_read_X4_doubt : GoodIn wsX10_read (wsV RX10 150 RX4 yX4_doubt wsX4_doubt) := goodIn_app (goodIn_of _ (by decide +kernel)) ggX10_read_X4_doubt
set_option maxRecDepth 20000 in
theorem ggX10_read_X4_take : GoodIn wsX10_read wsX4_take := goodIn_r _ [77, 18, 35, 78, 79, 80, 81, 82, 43, 44, 45, 22, 46, 47, 24, 48, 83, 84, 85, 16, 86, 41, 42, 87, 55, 56, 52, 57, 58, 59, 60, 61, 62, 63, 64, 65, 66, 67, 88, 89, 90, 91, 92, 93, 94, 95, 96, 97, 98, 99, 100, 101, 102, 103, 104, 105, 106, 107, 108, 109, 110, 111, 112, 113, 114, 115, 116, 117, 118, 119, 120, 121, 122, 123, 124, 125, 126, 127, 128, 129, 130, 131, 132, 133, 49, 50, 51, 53, 54, 134, 135, 136, 137, 152, 153, 154, 155, 156, 157, 158, 159, 160, 161, 162, 163, 164, 165, 166, 167, 168, 169, 170, 171] (by decide +kernel) (by decide +kernel)
set_option maxRecDepth 20000 in
theorem gX10_read_X4_take : GoodIn wsX10_read (wsV RX10 153 RX4 yX4_take wsX4_take) := goodIn_app (goodIn_of _ (by decide +kernel)) ggX10_read_X4_take
theorem dX10_read_0 : decode cX10_read 0 = .ok (.aload_n 0, 1) := by decide +kernel
theorem dX10_read_1 : decode cX10_read 1 = .ok (.iload_n 1, 1) := by decide +kernel
theorem dX10_read_2 : decode cX10_read 2 = .ok (.invokevirtual 134, 3) := by decide +kernel
theorem dX10_read_5 : decode cX10_read 5 = .ok (.getfield 138, 3) := by decide +kernel
theorem dX10_read_8 : decode cX10_read 8 = .ok (.astore_n 3, 1) := by decide +kernel
theorem dX10_read_9 : decode cX10_read 9 = .ok (.aload_n 3, 1) := by decide +kernel
theorem dX10_read_10 : decode cX10_read 10 = .ok (.iload_n 2, 1) := by decide +kernel
theorem dX10_read_11 : decode cX10_read 11 = .ok (.invokevirtual 142, 3) := by decide +kernel
theorem dX10_read_14 : decode cX10_read 14 = .ok (.ifCond .ne 13, 3) := by decide +kernel
theorem dX10_read_17 : decode cX10_read 17 = .ok (.new 72, 3) := by decide +kernel
theorem dX10_read_20 : decode cX10_read 20 = .ok (.dup, 1) := by decide +kernel
theorem dX10_read_21 : decode cX10_read 21 = .ok (.ldc 88, 2) := by decide +kernel
theorem dX10_read_23 : decode cX10_read 23 = .ok (.invokespecial 76, 3) := by decide +kernel
theorem dX10_read_26 : decode cX10_read 26 = .ok (.athrow, 1) := by decide +kernel
theorem dX10_read_27 : decode cX10_read 27 = .ok (.aload_n 0, 1) := by decide +kernel
theorem dX10_read_28 : decode cX10_read 28 = .ok (.aload_n 3, 1) := by decide +kernel
theorem dX10_read_29 : decode cX10_read 29 = .ok (.invokevirtual 143, 3) := by decide +kernel
theorem dX10_read_32 : decode cX10_read 32 = .ok (.aload_n 3, 1) := by decide +kernel
theorem dX10_read_33 : decode cX10_read 33 = .ok (.aload_n 0, 1) := by decide +kernel
theorem dX10_read_34 : decode cX10_read 34 = .ok (.getfield 62, 3) := by decide +kernel
theorem dX10_read_37 : decode cX10_read 37 = .ok (.iload_n 2, 1) := by decide +kernel
theorem dX10_read_38 : decode cX10_read 38 = .ok (.invokevirtual 147, 3) := by decide +kernel
theorem dX10_read_41 : decode cX10_read 41 = .ok (.ifCond .ne 14, 3) := by decide +kernel
theorem dX10_read_44 : decode cX10_read 44 = .ok (.aload_n 3, 1) := by decide +kernel
theorem dX10_read_45 : decode cX10_read 45 = .ok (.aload_n 0, 1) := by decide +kernel
theorem dX10_read_46 : decode cX10_read 46 = .ok (.getfield 62, 3) := by decide +kernel
theorem dX10_read_49 : decode cX10_read 49 = .ok (.iload_n 2, 1) := by decide +kernel
theorem dX10_read_50 : decode cX10_read 50 = .ok (.invokevirtual 150, 3) := by decide +kernel
theorem dX10_read_53 : decode cX10_read 53 = .ok (.iconst (-1), 1) := by decide +kernel
theorem dX10_read_54 : decode cX10_read 54 = .ok (.ireturn, 1) := by decide +kernel
theorem dX10_read_55 : decode cX10_read 55 = .ok (.aload_n 3, 1) := by decide +kernel
theorem dX10_read_56 : decode cX10_read 56 = .ok (.aload_n 0, 1) := by decide +kernel
theorem dX10_read_57 : decode cX10_read 57 = .ok (.getfield 62, 3) := by decide +kernel
theorem dX10_read_60 : decode cX10_read 60 = .ok (.iload_n 2, 1) := by decide +kernel
theorem dX10_read_61 : decode cX10_read 61 = .ok (.invokevirtual 153, 3) := by decide +kernel
theorem dX10_read_64 : decode cX10_read 64 = .ok (.l2i, 1) := by decide +kernel
theorem dX10_read_65 : decode cX10_read 65 = .ok (.ireturn, 1) := by decide +kernel
set_option maxRecDepth 20000 in
theorem ggX10_confirm_X10_pointAt : GoodIn wsX10_confirm wsX10_pointAt := goodIn_ca (goodIn_r _ [8, 9, 10, 11, 122, 123, 124, 125, 126, 127, 128, 129, 130, 131] (by decide +kernel) (by decide +kernel)) (goodIn_sub (fun _ h => List.mem_cons_of_mem _ (List.mem_append_right _ h)) (by decide +kernel))
set_option maxRecDepth 20000 in
theorem gX10_confirm_X10_pointAt : GoodIn wsX10_confirm (wsV RX10 134 RX10 yX10_pointAt wsX10_pointAt) := goodIn_app (goodIn_of _ (by decide +kernel)) ggX10_confirm_X10_pointAt
set_option maxRecDepth 20000 in
theorem ggX10_confirm_X4_doubtedDay : GoodIn wsX10_confirm wsX4_doubtedDay := goodIn_r _ [16, 17, 18, 132, 133, 134, 135, 136, 137, 138, 139, 140, 141, 142, 143] (by decide +kernel) (by decide +kernel)
set_option maxRecDepth 20000 in
theorem gX10_confirm_X4_doubtedDay : GoodIn wsX10_confirm (wsV RX10 157 RX4 yX4_doubtedDay wsX4_doubtedDay) := goodIn_app (goodIn_of _ (by decide +kernel)) ggX10_confirm_X4_doubtedDay
set_option maxRecDepth 20000 in
theorem ggX10_confirm_X4_doubtedShown : GoodIn wsX10_confirm wsX4_doubtedShown := goodIn_r _ [22, 23, 132, 133, 134, 135, 136, 137, 138, 139, 140, 141, 142, 143] (by decide +kernel) (by decide +kernel)
set_option maxRecDepth 20000 in
theorem gX10_confirm_X4_doubtedShown : GoodIn wsX10_confirm (wsV RX10 163 RX4 yX4_doubtedShown wsX4_doubtedShown) := goodIn_app (goodIn_of _ (by decide +kernel)) ggX10_confirm_X4_doubtedShown
set_option maxRecDepth 20000 in
theorem ggX10_confirm_X4_take : GoodIn wsX10_confirm wsX4_take := goodIn_r _ [27, 28, 18, 29, 30, 31, 32, 33, 34, 35, 36, 37, 38, 39, 40, 41, 42, 43, 44, 15, 45, 46, 47, 48, 49, 50, 51, 52, 53, 54, 55, 56, 57, 58, 59, 60, 61, 62, 63, 64, 65, 66, 67, 68, 69, 70, 71, 72, 73, 74, 75, 76, 77, 78, 79, 80, 81, 82, 83, 84, 85, 86, 87, 88, 89, 90, 91, 92, 93, 94, 95, 96, 97, 98, 99, 100, 101, 102, 103, 104, 105, 106, 107, 108, 109, 110, 111, 112, 113, 114, 115, 116, 117, 132, 133, 134, 135, 136, 137, 138, 139, 140, 141, 142, 143, 144, 145, 146, 147, 148, 149, 150, 151] (by decide +kernel) (by decide +kernel)
set_option maxRecDepth 20000 in
theorem gX10_confirm_X4_take : GoodIn wsX10_confirm (wsV RX10 153 RX4 yX4_take wsX4_take) := goodIn_app (goodIn_of _ (by decide +kernel)) ggX10_confirm_X4_take
theorem dX10_confirm_0 : decode cX10_confirm 0 = .ok (.aload_n 0, 1) := by decide +kernel
theorem dX10_confirm_1 : decode cX10_confirm 1 = .ok (.iload_n 1, 1) := by decide +kernel
theorem dX10_confirm_2 : decode cX10_confirm 2 = .ok (.invokevirtual 134, 3) := by decide +kernel
theorem dX10_confirm_5 : decode cX10_confirm 5 = .ok (.getfield 138, 3) := by decide +kernel
theorem dX10_confirm_8 : decode cX10_confirm 8 = .ok (.astore_n 2, 1) := by decide +kernel
theorem dX10_confirm_9 : decode cX10_confirm 9 = .ok (.aload_n 2, 1) := by decide +kernel
theorem dX10_confirm_10 : decode cX10_confirm 10 = .ok (.invokevirtual 157, 3) := by decide +kernel
theorem dX10_confirm_13 : decode cX10_confirm 13 = .ok (.istore_n 3, 1) := by decide +kernel
theorem dX10_confirm_14 : decode cX10_confirm 14 = .ok (.iload_n 3, 1) := by decide +kernel
theorem dX10_confirm_15 : decode cX10_confirm 15 = .ok (.iconst (-1), 1) := by decide +kernel
theorem dX10_confirm_16 : decode cX10_confirm 16 = .ok (.if_icmp .ne 13, 3) := by decide +kernel
theorem dX10_confirm_19 : decode cX10_confirm 19 = .ok (.new 90, 3) := by decide +kernel
theorem dX10_confirm_22 : decode cX10_confirm 22 = .ok (.dup, 1) := by decide +kernel
theorem dX10_confirm_23 : decode cX10_confirm 23 = .ok (.ldc 161, 2) := by decide +kernel
theorem dX10_confirm_25 : decode cX10_confirm 25 = .ok (.invokespecial 94, 3) := by decide +kernel
theorem dX10_confirm_28 : decode cX10_confirm 28 = .ok (.athrow, 1) := by decide +kernel
theorem dX10_confirm_29 : decode cX10_confirm 29 = .ok (.aload_n 2, 1) := by decide +kernel
theorem dX10_confirm_30 : decode cX10_confirm 30 = .ok (.iload_n 3, 1) := by decide +kernel
theorem dX10_confirm_31 : decode cX10_confirm 31 = .ok (.aload_n 2, 1) := by decide +kernel
theorem dX10_confirm_32 : decode cX10_confirm 32 = .ok (.invokevirtual 163, 3) := by decide +kernel
theorem dX10_confirm_35 : decode cX10_confirm 35 = .ok (.invokevirtual 153, 3) := by decide +kernel
theorem dX10_confirm_38 : decode cX10_confirm 38 = .ok (.l2i, 1) := by decide +kernel
theorem dX10_confirm_39 : decode cX10_confirm 39 = .ok (.ireturn, 1) := by decide +kernel
set_option maxRecDepth 20000 in
theorem ggX10_exchange_X10_pointAt : GoodIn wsX10_exchange wsX10_pointAt := goodIn_ca (goodIn_r _ [12, 13, 14, 15, 148, 149, 150, 151, 152, 153, 154, 155, 156, 157] (by decide +kernel) (by decide +kernel)) (goodIn_sub (fun _ h => List.mem_cons_of_mem _ (List.mem_append_left _ (List.mem_append_right _ h))) (by decide +kernel))
set_option maxRecDepth 20000 in
theorem gX10_exchange_X10_pointAt : GoodIn wsX10_exchange (wsV RX10 134 RX10 yX10_pointAt wsX10_pointAt) := goodIn_app (goodIn_of _ (by decide +kernel)) ggX10_exchange_X10_pointAt
set_option maxRecDepth 20000 in
theorem ggX10_exchange_X4_canShow : GoodIn wsX10_exchange wsX4_canShow := goodIn_r _ [20, 21, 22, 23, 24, 7, 25, 26, 161, 162, 163, 164, 165, 166, 167, 168, 169, 170, 171, 172, 158, 159, 160] (by decide +kernel) (by decide +kernel)
set_option maxRecDepth 20000 in
theorem gX10_exchange_X4_canShow : GoodIn wsX10_exchange (wsV RX10 142 RX4 yX4_canShow wsX4_canShow) := goodIn_app (goodIn_of _ (by decide +kernel)) ggX10_exchange_X4_canShow
set_option maxRecDepth 20000 in
theorem ggX10_exchange_X10_isMeter : GoodIn wsX10_exchange wsX10_isMeter := goodIn_r _ [30] (by decide +kernel) (by decide +kernel)
set_option maxRecDepth 20000 in
theorem gX10_exchange_X10_isMeter : GoodIn wsX10_exchange (wsV RX10 68 RX10 yX10_isMeter wsX10_isMeter) := goodIn_app (goodIn_of _ (by decide +kernel)) ggX10_exchange_X10_isMeter
set_option maxRecDepth 20000 in
theorem ggX10_exchange_X10_needNoReadingToday : GoodIn wsX10_exchange wsX10_needNoReadingToday := goodIn_ca (goodIn_r _ [34, 35, 36, 4, 37, 38, 39, 19, 40, 41, 148, 149, 150, 151, 152, 153, 154, 155, 156, 157, 161, 162, 163, 164, 165, 166, 167, 168, 169, 170, 171, 172] (by decide +kernel) (by decide +kernel)) (goodIn_sub (fun _ h => List.mem_cons_of_mem _ (List.mem_append_right _ h)) (by decide +kernel))
set_option maxRecDepth 20000 in
theorem gX10_exchange_X10_needNoReadingToday : GoodIn wsX10_exchange (wsV RX10 143 RX10 yX10_needNoReadingToday wsX10_needNoReadingToday) := goodIn_app (goodIn_of _ (by decide +kernel)) ggX10_exchange_X10_needNoReadingToday
set_option maxRecDepth 20000 in
theorem ggX10_exchange_X4_take : GoodIn wsX10_exchange wsX4_take := goodIn_r _ [45, 21, 41, 46, 47, 48, 49, 50, 51, 52, 53, 7, 54, 55, 26, 56, 57, 58, 59, 19, 60, 61, 62, 63, 64, 65, 66, 67, 68, 69, 70, 71, 72, 73, 74, 75, 76, 77, 78, 79, 80, 81, 82, 83, 84, 85, 86, 87, 88, 89, 90, 91, 92, 93, 94, 95, 96, 97, 98, 99, 100, 101, 102, 103, 104, 105, 106, 107, 108, 109, 110, 111, 112, 113, 114, 115, 116, 117, 118, 119, 120, 121, 122, 123, 124, 125, 126, 127, 128, 129, 130, 131, 132, 161, 162, 163, 164, 165, 166, 167, 168, 169, 170, 171, 172, 158, 159, 160, 173, 174, 175, 176, 177] (by decide +kernel) (by decide +kernel)
set_option maxRecDepth 20000 in
theorem gX10_exchange_X4_take : GoodIn wsX10_exchange (wsV RX10 153 RX4 yX4_take wsX4_take) := goodIn_app (goodIn_of _ (by decide +kernel)) ggX10_exchange_X4_take
set_option maxRecDepth 20000 in
theorem ggX10_exchange_X2_init : GoodIn wsX10_exchange wsX2_init := goodIn_r _ [135, 136, 137, 138, 139, 26, 56, 55, 158, 159, 160] (by decide +kernel) (by decide +kernel)
set_option maxRecDepth 20000 in
theorem gX10_exchange_X2_init : GoodIn wsX10_exchange (wsX2_init) := ggX10_exchange_X2_init
set_option maxRecDepth 20000 in
theorem ggX10_exchange_X4_setMeter : GoodIn wsX10_exchange wsX4_setMeter := goodIn_r _ [143, 21, 161, 162, 163, 164, 165, 166, 167, 168, 169, 170, 171, 172] (by decide +kernel) (by decide +kernel)
set_option maxRecDepth 20000 in
theorem gX10_exchange_X4_setMeter : GoodIn wsX10_exchange (wsV RX10 168 RX4 yX4_setMeter wsX4_setMeter) := goodIn_app (goodIn_of _ (by decide +kernel)) ggX10_exchange_X4_setMeter
theorem dX10_exchange_0 : decode cX10_exchange 0 = .ok (.aload_n 0, 1) := by decide +kernel
theorem dX10_exchange_1 : decode cX10_exchange 1 = .ok (.iload_n 1, 1) := by decide +kernel
theorem dX10_exchange_2 : decode cX10_exchange 2 = .ok (.invokevirtual 134, 3) := by decide +kernel
theorem dX10_exchange_5 : decode cX10_exchange 5 = .ok (.getfield 138, 3) := by decide +kernel
theorem dX10_exchange_8 : decode cX10_exchange 8 = .ok (.astore 5, 2) := by decide +kernel
theorem dX10_exchange_10 : decode cX10_exchange 10 = .ok (.aload 5, 2) := by decide +kernel
theorem dX10_exchange_12 : decode cX10_exchange 12 = .ok (.iload_n 2, 1) := by decide +kernel
theorem dX10_exchange_13 : decode cX10_exchange 13 = .ok (.invokevirtual 142, 3) := by decide +kernel
theorem dX10_exchange_16 : decode cX10_exchange 16 = .ok (.ifCond .eq 13, 3) := by decide +kernel
theorem dX10_exchange_19 : decode cX10_exchange 19 = .ok (.aload_n 0, 1) := by decide +kernel
theorem dX10_exchange_20 : decode cX10_exchange 20 = .ok (.iload_n 3, 1) := by decide +kernel
theorem dX10_exchange_21 : decode cX10_exchange 21 = .ok (.iload 4, 2) := by decide +kernel
theorem dX10_exchange_23 : decode cX10_exchange 23 = .ok (.invokevirtual 68, 3) := by decide +kernel
theorem dX10_exchange_26 : decode cX10_exchange 26 = .ok (.ifCond .ne 13, 3) := by decide +kernel
theorem dX10_exchange_29 : decode cX10_exchange 29 = .ok (.new 72, 3) := by decide +kernel
theorem dX10_exchange_32 : decode cX10_exchange 32 = .ok (.dup, 1) := by decide +kernel
theorem dX10_exchange_33 : decode cX10_exchange 33 = .ok (.ldc 166, 2) := by decide +kernel
theorem dX10_exchange_35 : decode cX10_exchange 35 = .ok (.invokespecial 76, 3) := by decide +kernel
theorem dX10_exchange_38 : decode cX10_exchange 38 = .ok (.athrow, 1) := by decide +kernel
theorem dX10_exchange_39 : decode cX10_exchange 39 = .ok (.aload_n 0, 1) := by decide +kernel
theorem dX10_exchange_40 : decode cX10_exchange 40 = .ok (.aload 5, 2) := by decide +kernel
theorem dX10_exchange_42 : decode cX10_exchange 42 = .ok (.invokevirtual 143, 3) := by decide +kernel
theorem dX10_exchange_45 : decode cX10_exchange 45 = .ok (.aload 5, 2) := by decide +kernel
theorem dX10_exchange_47 : decode cX10_exchange 47 = .ok (.aload_n 0, 1) := by decide +kernel
theorem dX10_exchange_48 : decode cX10_exchange 48 = .ok (.getfield 62, 3) := by decide +kernel
theorem dX10_exchange_51 : decode cX10_exchange 51 = .ok (.iload_n 2, 1) := by decide +kernel
theorem dX10_exchange_52 : decode cX10_exchange 52 = .ok (.invokevirtual 153, 3) := by decide +kernel
theorem dX10_exchange_55 : decode cX10_exchange 55 = .ok (.lstore 6, 2) := by decide +kernel
theorem dX10_exchange_57 : decode cX10_exchange 57 = .ok (.aload 5, 2) := by decide +kernel
theorem dX10_exchange_59 : decode cX10_exchange 59 = .ok (.new 79, 3) := by decide +kernel
theorem dX10_exchange_62 : decode cX10_exchange 62 = .ok (.dup, 1) := by decide +kernel
theorem dX10_exchange_63 : decode cX10_exchange 63 = .ok (.iload_n 3, 1) := by decide +kernel
theorem dX10_exchange_64 : decode cX10_exchange 64 = .ok (.iload 4, 2) := by decide +kernel
theorem dX10_exchange_66 : decode cX10_exchange 66 = .ok (.iconst 0, 1) := by decide +kernel
theorem dX10_exchange_67 : decode cX10_exchange 67 = .ok (.invokespecial 81, 3) := by decide +kernel
theorem dX10_exchange_70 : decode cX10_exchange 70 = .ok (.invokevirtual 168, 3) := by decide +kernel
theorem dX10_exchange_73 : decode cX10_exchange 73 = .ok (.lload 6, 2) := by decide +kernel
theorem dX10_exchange_75 : decode cX10_exchange 75 = .ok (.l2i, 1) := by decide +kernel
theorem dX10_exchange_76 : decode cX10_exchange 76 = .ok (.ireturn, 1) := by decide +kernel
set_option maxRecDepth 20000 in
theorem ggX10_change_X10_pointAt : GoodIn wsX10_change wsX10_pointAt := goodIn_ca (goodIn_r _ [11, 1, 2, 12, 43, 44, 45, 46, 47, 48, 49, 50, 51, 52] (by decide +kernel) (by decide +kernel)) (goodIn_sub (fun _ h => List.mem_cons_of_mem _ (List.mem_append_left _ (List.mem_append_right _ h))) (by decide +kernel))
set_option maxRecDepth 20000 in
theorem gX10_change_X10_pointAt : GoodIn wsX10_change (wsV RX10 134 RX10 yX10_pointAt wsX10_pointAt) := goodIn_app (goodIn_of _ (by decide +kernel)) ggX10_change_X10_pointAt
set_option maxRecDepth 20000 in
theorem ggX10_change_X10_needSupplier : GoodIn wsX10_change wsX10_needSupplier := goodIn_ca (goodIn_r _ [16, 1, 2] (by decide +kernel) (by decide +kernel)) (goodIn_sub (fun _ h => List.mem_cons_of_mem _ (List.mem_append_left _ (List.mem_append_right _ h))) (by decide +kernel))
set_option maxRecDepth 20000 in
theorem gX10_change_X10_needSupplier : GoodIn wsX10_change (wsV RX10 65 RX10 yX10_needSupplier wsX10_needSupplier) := goodIn_app (goodIn_of _ (by decide +kernel)) ggX10_change_X10_needSupplier
set_option maxRecDepth 20000 in
theorem ggX10_change_X8_toldDay : GoodIn wsX10_change wsX8_toldDay := goodIn_r _ [21, 22, 53, 54, 55, 56] (by decide +kernel) (by decide +kernel)
set_option maxRecDepth 20000 in
theorem gX10_change_X8_toldDay : GoodIn wsX10_change (wsV RX10 178 RX8 yX8_toldDay wsX8_toldDay) := goodIn_app (goodIn_of _ (by decide +kernel)) ggX10_change_X8_toldDay
set_option maxRecDepth 20000 in
theorem ggX10_change_X8_holderOn : GoodIn wsX10_change wsX8_holderOn := goodIn_r _ [26, 27, 28, 29, 30, 31, 32, 33, 53, 54, 55, 56, 57] (by decide +kernel) (by decide +kernel)
set_option maxRecDepth 20000 in
theorem gX10_change_X8_holderOn : GoodIn wsX10_change (wsV RX10 181 RX8 yX8_holderOn wsX8_holderOn) := goodIn_app (goodIn_of _ (by decide +kernel)) ggX10_change_X8_holderOn
set_option maxRecDepth 20000 in
theorem ggX10_change_X8_tell : GoodIn wsX10_change wsX8_tell := goodIn_r _ [37, 22, 38, 53, 54, 55, 56] (by decide +kernel) (by decide +kernel)
set_option maxRecDepth 20000 in
theorem gX10_change_X8_tell : GoodIn wsX10_change (wsV RX10 187 RX8 yX8_tell wsX8_tell) := goodIn_app (goodIn_of _ (by decide +kernel)) ggX10_change_X8_tell
theorem dX10_change_0 : decode cX10_change 0 = .ok (.aload_n 0, 1) := by decide +kernel
theorem dX10_change_1 : decode cX10_change 1 = .ok (.iload_n 1, 1) := by decide +kernel
theorem dX10_change_2 : decode cX10_change 2 = .ok (.invokevirtual 134, 3) := by decide +kernel
theorem dX10_change_5 : decode cX10_change 5 = .ok (.getfield 172, 3) := by decide +kernel
theorem dX10_change_8 : decode cX10_change 8 = .ok (.astore 4, 2) := by decide +kernel
theorem dX10_change_10 : decode cX10_change 10 = .ok (.aload_n 0, 1) := by decide +kernel
theorem dX10_change_11 : decode cX10_change 11 = .ok (.iload_n 2, 1) := by decide +kernel
theorem dX10_change_12 : decode cX10_change 12 = .ok (.invokevirtual 65, 3) := by decide +kernel
theorem dX10_change_15 : decode cX10_change 15 = .ok (.iload_n 3, 1) := by decide +kernel
theorem dX10_change_16 : decode cX10_change 16 = .ok (.aload_n 0, 1) := by decide +kernel
theorem dX10_change_17 : decode cX10_change 17 = .ok (.getfield 62, 3) := by decide +kernel
theorem dX10_change_20 : decode cX10_change 20 = .ok (.if_icmp .le 10, 3) := by decide +kernel
theorem dX10_change_23 : decode cX10_change 23 = .ok (.iload_n 3, 1) := by decide +kernel
theorem dX10_change_24 : decode cX10_change 24 = .ok (.sipush 1000, 3) := by decide +kernel
theorem dX10_change_27 : decode cX10_change 27 = .ok (.if_icmp .lt 13, 3) := by decide +kernel
theorem dX10_change_30 : decode cX10_change 30 = .ok (.new 113, 3) := by decide +kernel
theorem dX10_change_33 : decode cX10_change 33 = .ok (.dup, 1) := by decide +kernel
theorem dX10_change_34 : decode cX10_change 34 = .ok (.ldc 176, 2) := by decide +kernel
theorem dX10_change_36 : decode cX10_change 36 = .ok (.invokespecial 117, 3) := by decide +kernel
theorem dX10_change_39 : decode cX10_change 39 = .ok (.athrow, 1) := by decide +kernel
theorem dX10_change_40 : decode cX10_change 40 = .ok (.aload 4, 2) := by decide +kernel
theorem dX10_change_42 : decode cX10_change 42 = .ok (.invokevirtual 178, 3) := by decide +kernel
theorem dX10_change_45 : decode cX10_change 45 = .ok (.iconst (-1), 1) := by decide +kernel
theorem dX10_change_46 : decode cX10_change 46 = .ok (.if_icmp .ne 16, 3) := by decide +kernel
theorem dX10_change_49 : decode cX10_change 49 = .ok (.aload 4, 2) := by decide +kernel
theorem dX10_change_51 : decode cX10_change 51 = .ok (.aload_n 0, 1) := by decide +kernel
theorem dX10_change_52 : decode cX10_change 52 = .ok (.getfield 62, 3) := by decide +kernel
theorem dX10_change_55 : decode cX10_change 55 = .ok (.invokevirtual 181, 3) := by decide +kernel
theorem dX10_change_58 : decode cX10_change 58 = .ok (.iload_n 2, 1) := by decide +kernel
theorem dX10_change_59 : decode cX10_change 59 = .ok (.if_icmp .ne 13, 3) := by decide +kernel
theorem dX10_change_62 : decode cX10_change 62 = .ok (.new 90, 3) := by decide +kernel
theorem dX10_change_65 : decode cX10_change 65 = .ok (.dup, 1) := by decide +kernel
theorem dX10_change_66 : decode cX10_change 66 = .ok (.ldc 185, 2) := by decide +kernel
theorem dX10_change_68 : decode cX10_change 68 = .ok (.invokespecial 94, 3) := by decide +kernel
theorem dX10_change_71 : decode cX10_change 71 = .ok (.athrow, 1) := by decide +kernel
theorem dX10_change_72 : decode cX10_change 72 = .ok (.aload 4, 2) := by decide +kernel
theorem dX10_change_74 : decode cX10_change 74 = .ok (.iload_n 3, 1) := by decide +kernel
theorem dX10_change_75 : decode cX10_change 75 = .ok (.iload_n 2, 1) := by decide +kernel
theorem dX10_change_76 : decode cX10_change 76 = .ok (.invokevirtual 187, 3) := by decide +kernel
theorem dX10_change_79 : decode cX10_change 79 = .ok (.aload 4, 2) := by decide +kernel
theorem dX10_change_81 : decode cX10_change 81 = .ok (.aload_n 0, 1) := by decide +kernel
theorem dX10_change_82 : decode cX10_change 82 = .ok (.getfield 62, 3) := by decide +kernel
theorem dX10_change_85 : decode cX10_change 85 = .ok (.invokevirtual 181, 3) := by decide +kernel
theorem dX10_change_88 : decode cX10_change 88 = .ok (.ireturn, 1) := by decide +kernel
set_option maxRecDepth 20000 in
theorem ggX10_object_X10_pointAt : GoodIn wsX10_object wsX10_pointAt := goodIn_ca (goodIn_r _ [8, 9, 10, 11, 26, 27, 28, 29, 30, 31, 32, 33, 34, 35] (by decide +kernel) (by decide +kernel)) (goodIn_sub (fun _ h => List.mem_cons_of_mem _ (List.mem_append_right _ h)) (by decide +kernel))
set_option maxRecDepth 20000 in
theorem gX10_object_X10_pointAt : GoodIn wsX10_object (wsV RX10 134 RX10 yX10_pointAt wsX10_pointAt) := goodIn_app (goodIn_of _ (by decide +kernel)) ggX10_object_X10_pointAt
set_option maxRecDepth 20000 in
theorem ggX10_object_X8_toldDay : GoodIn wsX10_object wsX8_toldDay := goodIn_r _ [16, 17, 36, 37, 38, 39] (by decide +kernel) (by decide +kernel)
set_option maxRecDepth 20000 in
theorem gX10_object_X8_toldDay : GoodIn wsX10_object (wsV RX10 178 RX8 yX8_toldDay wsX8_toldDay) := goodIn_app (goodIn_of _ (by decide +kernel)) ggX10_object_X8_toldDay
set_option maxRecDepth 20000 in
theorem ggX10_object_X8_drop : GoodIn wsX10_object wsX8_drop := goodIn_r _ [21, 17, 36, 37, 38, 39] (by decide +kernel) (by decide +kernel)
set_option maxRecDepth 20000 in
theorem gX10_object_X8_drop : GoodIn wsX10_object (wsV RX10 191 RX8 yX8_drop wsX8_drop) := goodIn_app (goodIn_of _ (by decide +kernel)) ggX10_object_X8_drop
theorem dX10_object_0 : decode cX10_object 0 = .ok (.aload_n 0, 1) := by decide +kernel
theorem dX10_object_1 : decode cX10_object 1 = .ok (.iload_n 1, 1) := by decide +kernel
theorem dX10_object_2 : decode cX10_object 2 = .ok (.invokevirtual 134, 3) := by decide +kernel
theorem dX10_object_5 : decode cX10_object 5 = .ok (.getfield 172, 3) := by decide +kernel
theorem dX10_object_8 : decode cX10_object 8 = .ok (.astore_n 2, 1) := by decide +kernel
theorem dX10_object_9 : decode cX10_object 9 = .ok (.aload_n 2, 1) := by decide +kernel
theorem dX10_object_10 : decode cX10_object 10 = .ok (.invokevirtual 178, 3) := by decide +kernel
theorem dX10_object_13 : decode cX10_object 13 = .ok (.iconst (-1), 1) := by decide +kernel
theorem dX10_object_14 : decode cX10_object 14 = .ok (.if_icmp .ne 13, 3) := by decide +kernel
theorem dX10_object_17 : decode cX10_object 17 = .ok (.new 90, 3) := by decide +kernel
theorem dX10_object_20 : decode cX10_object 20 = .ok (.dup, 1) := by decide +kernel
theorem dX10_object_21 : decode cX10_object 21 = .ok (.ldc 189, 2) := by decide +kernel
theorem dX10_object_23 : decode cX10_object 23 = .ok (.invokespecial 94, 3) := by decide +kernel
theorem dX10_object_26 : decode cX10_object 26 = .ok (.athrow, 1) := by decide +kernel
theorem dX10_object_27 : decode cX10_object 27 = .ok (.aload_n 2, 1) := by decide +kernel
theorem dX10_object_28 : decode cX10_object 28 = .ok (.invokevirtual 191, 3) := by decide +kernel
theorem dX10_object_31 : decode cX10_object 31 = .ok (.ireturn, 1) := by decide +kernel
set_option maxRecDepth 20000 in
theorem ggX10_reverse_X10_pointAt : GoodIn wsX10_reverse wsX10_pointAt := goodIn_ca (goodIn_r _ [9, 10, 11, 12, 43, 44, 45, 46, 47, 48, 49, 50, 51, 52] (by decide +kernel) (by decide +kernel)) (goodIn_sub (fun _ h => List.mem_cons_of_mem _ (List.mem_append_right _ h)) (by decide +kernel))
set_option maxRecDepth 20000 in
theorem gX10_reverse_X10_pointAt : GoodIn wsX10_reverse (wsV RX10 134 RX10 yX10_pointAt wsX10_pointAt) := goodIn_app (goodIn_of _ (by decide +kernel)) ggX10_reverse_X10_pointAt
set_option maxRecDepth 20000 in
theorem ggX10_reverse_X8_toldDay : GoodIn wsX10_reverse wsX8_toldDay := goodIn_r _ [17, 18, 53, 54, 55, 56] (by decide +kernel) (by decide +kernel)
set_option maxRecDepth 20000 in
theorem gX10_reverse_X8_toldDay : GoodIn wsX10_reverse (wsV RX10 178 RX8 yX8_toldDay wsX8_toldDay) := goodIn_app (goodIn_of _ (by decide +kernel)) ggX10_reverse_X8_toldDay
set_option maxRecDepth 20000 in
theorem ggX10_reverse_X8_hasChangeToUndo : GoodIn wsX10_reverse wsX8_hasChangeToUndo := goodIn_r _ [22, 23, 53, 54, 55, 56] (by decide +kernel) (by decide +kernel)
set_option maxRecDepth 20000 in
theorem gX10_reverse_X8_hasChangeToUndo : GoodIn wsX10_reverse (wsV RX10 194 RX8 yX8_hasChangeToUndo wsX8_hasChangeToUndo) := goodIn_app (goodIn_of _ (by decide +kernel)) ggX10_reverse_X8_hasChangeToUndo
set_option maxRecDepth 20000 in
theorem ggX10_reverse_X8_undo : GoodIn wsX10_reverse wsX8_undo := goodIn_r _ [27, 23, 28, 29, 30, 31, 32, 33, 34, 35, 36, 37, 38, 53, 54, 55, 56, 57] (by decide +kernel) (by decide +kernel)
set_option maxRecDepth 20000 in
theorem gX10_reverse_X8_undo : GoodIn wsX10_reverse (wsV RX10 200 RX8 yX8_undo wsX8_undo) := goodIn_app (goodIn_of _ (by decide +kernel)) ggX10_reverse_X8_undo
theorem dX10_reverse_0 : decode cX10_reverse 0 = .ok (.aload_n 0, 1) := by decide +kernel
theorem dX10_reverse_1 : decode cX10_reverse 1 = .ok (.iload_n 1, 1) := by decide +kernel
theorem dX10_reverse_2 : decode cX10_reverse 2 = .ok (.invokevirtual 134, 3) := by decide +kernel
theorem dX10_reverse_5 : decode cX10_reverse 5 = .ok (.getfield 172, 3) := by decide +kernel
theorem dX10_reverse_8 : decode cX10_reverse 8 = .ok (.astore_n 2, 1) := by decide +kernel
theorem dX10_reverse_9 : decode cX10_reverse 9 = .ok (.aload_n 2, 1) := by decide +kernel
theorem dX10_reverse_10 : decode cX10_reverse 10 = .ok (.invokevirtual 178, 3) := by decide +kernel
theorem dX10_reverse_13 : decode cX10_reverse 13 = .ok (.iconst (-1), 1) := by decide +kernel
theorem dX10_reverse_14 : decode cX10_reverse 14 = .ok (.if_icmp .ne 10, 3) := by decide +kernel
theorem dX10_reverse_17 : decode cX10_reverse 17 = .ok (.aload_n 2, 1) := by decide +kernel
theorem dX10_reverse_18 : decode cX10_reverse 18 = .ok (.invokevirtual 194, 3) := by decide +kernel
theorem dX10_reverse_21 : decode cX10_reverse 21 = .ok (.ifCond .ne 13, 3) := by decide +kernel
theorem dX10_reverse_24 : decode cX10_reverse 24 = .ok (.new 90, 3) := by decide +kernel
theorem dX10_reverse_27 : decode cX10_reverse 27 = .ok (.dup, 1) := by decide +kernel
theorem dX10_reverse_28 : decode cX10_reverse 28 = .ok (.ldc 198, 2) := by decide +kernel
theorem dX10_reverse_30 : decode cX10_reverse 30 = .ok (.invokespecial 94, 3) := by decide +kernel
theorem dX10_reverse_33 : decode cX10_reverse 33 = .ok (.athrow, 1) := by decide +kernel
theorem dX10_reverse_34 : decode cX10_reverse 34 = .ok (.aload_n 2, 1) := by decide +kernel
theorem dX10_reverse_35 : decode cX10_reverse 35 = .ok (.aload_n 0, 1) := by decide +kernel
theorem dX10_reverse_36 : decode cX10_reverse 36 = .ok (.getfield 62, 3) := by decide +kernel
theorem dX10_reverse_39 : decode cX10_reverse 39 = .ok (.invokevirtual 200, 3) := by decide +kernel
theorem dX10_reverse_42 : decode cX10_reverse 42 = .ok (.ireturn, 1) := by decide +kernel
set_option maxRecDepth 20000 in
theorem ggX10_tariff_X10_needSupplier : GoodIn wsX10_tariff wsX10_needSupplier := goodIn_ca (goodIn_r _ [9, 10, 11] (by decide +kernel) (by decide +kernel)) (goodIn_sub (fun _ h => List.mem_cons_of_mem _ (List.mem_append_right _ h)) (by decide +kernel))
set_option maxRecDepth 20000 in
theorem gX10_tariff_X10_needSupplier : GoodIn wsX10_tariff (wsV RX10 65 RX10 yX10_needSupplier wsX10_needSupplier) := goodIn_app (goodIn_of _ (by decide +kernel)) ggX10_tariff_X10_needSupplier
set_option maxRecDepth 20000 in
theorem ggX10_tariff_X10_isWithin : GoodIn wsX10_tariff wsX10_isWithin := goodIn_r _ [15] (by decide +kernel) (by decide +kernel)
set_option maxRecDepth 20000 in
theorem gX10_tariff_X10_isWithin : GoodIn wsX10_tariff (wsV RX10 118 RX10 yX10_isWithin wsX10_isWithin) := goodIn_app (goodIn_of _ (by decide +kernel)) ggX10_tariff_X10_isWithin
set_option maxRecDepth 20000 in
theorem ggX10_tariff_X9_tell : GoodIn wsX10_tariff wsX9_tell := goodIn_r _ [20, 21, 22, 23, 24, 25, 26, 27, 28, 29, 40, 41, 42, 43] (by decide +kernel) (by decide +kernel)
set_option maxRecDepth 20000 in
theorem gX10_tariff_X9_tell : GoodIn wsX10_tariff (wsV RX10 205 RX9 yX9_tell wsX9_tell) := goodIn_app (goodIn_of _ (by decide +kernel)) ggX10_tariff_X9_tell
theorem dX10_tariff_0 : decode cX10_tariff 0 = .ok (.aload_n 0, 1) := by decide +kernel
theorem dX10_tariff_1 : decode cX10_tariff 1 = .ok (.iload_n 1, 1) := by decide +kernel
theorem dX10_tariff_2 : decode cX10_tariff 2 = .ok (.invokevirtual 65, 3) := by decide +kernel
theorem dX10_tariff_5 : decode cX10_tariff 5 = .ok (.aload_n 0, 1) := by decide +kernel
theorem dX10_tariff_6 : decode cX10_tariff 6 = .ok (.iload_n 2, 1) := by decide +kernel
theorem dX10_tariff_7 : decode cX10_tariff 7 = .ok (.bipush 100, 2) := by decide +kernel
theorem dX10_tariff_9 : decode cX10_tariff 9 = .ok (.invokevirtual 118, 3) := by decide +kernel
theorem dX10_tariff_12 : decode cX10_tariff 12 = .ok (.ifCond .eq 25, 3) := by decide +kernel
theorem dX10_tariff_15 : decode cX10_tariff 15 = .ok (.aload_n 0, 1) := by decide +kernel
theorem dX10_tariff_16 : decode cX10_tariff 16 = .ok (.iload_n 3, 1) := by decide +kernel
theorem dX10_tariff_17 : decode cX10_tariff 17 = .ok (.sipush 1000, 3) := by decide +kernel
theorem dX10_tariff_20 : decode cX10_tariff 20 = .ok (.invokevirtual 118, 3) := by decide +kernel
theorem dX10_tariff_23 : decode cX10_tariff 23 = .ok (.ifCond .eq 14, 3) := by decide +kernel
theorem dX10_tariff_26 : decode cX10_tariff 26 = .ok (.aload_n 0, 1) := by decide +kernel
theorem dX10_tariff_27 : decode cX10_tariff 27 = .ok (.iload 4, 2) := by decide +kernel
theorem dX10_tariff_29 : decode cX10_tariff 29 = .ok (.bipush 100, 2) := by decide +kernel
theorem dX10_tariff_31 : decode cX10_tariff 31 = .ok (.invokevirtual 118, 3) := by decide +kernel
theorem dX10_tariff_34 : decode cX10_tariff 34 = .ok (.ifCond .ne 13, 3) := by decide +kernel
theorem dX10_tariff_37 : decode cX10_tariff 37 = .ok (.new 72, 3) := by decide +kernel
theorem dX10_tariff_40 : decode cX10_tariff 40 = .ok (.dup, 1) := by decide +kernel
theorem dX10_tariff_41 : decode cX10_tariff 41 = .ok (.ldc 203, 2) := by decide +kernel
theorem dX10_tariff_43 : decode cX10_tariff 43 = .ok (.invokespecial 76, 3) := by decide +kernel
theorem dX10_tariff_46 : decode cX10_tariff 46 = .ok (.athrow, 1) := by decide +kernel
theorem dX10_tariff_47 : decode cX10_tariff 47 = .ok (.aload_n 0, 1) := by decide +kernel
theorem dX10_tariff_48 : decode cX10_tariff 48 = .ok (.getfield 28, 3) := by decide +kernel
theorem dX10_tariff_51 : decode cX10_tariff 51 = .ok (.iload_n 1, 1) := by decide +kernel
theorem dX10_tariff_52 : decode cX10_tariff 52 = .ok (.aload_n 0, 1) := by decide +kernel
theorem dX10_tariff_53 : decode cX10_tariff 53 = .ok (.getfield 62, 3) := by decide +kernel
theorem dX10_tariff_56 : decode cX10_tariff 56 = .ok (.iload_n 2, 1) := by decide +kernel
theorem dX10_tariff_57 : decode cX10_tariff 57 = .ok (.i2l, 1) := by decide +kernel
theorem dX10_tariff_58 : decode cX10_tariff 58 = .ok (.iload_n 3, 1) := by decide +kernel
theorem dX10_tariff_59 : decode cX10_tariff 59 = .ok (.i2l, 1) := by decide +kernel
theorem dX10_tariff_60 : decode cX10_tariff 60 = .ok (.iload 4, 2) := by decide +kernel
theorem dX10_tariff_62 : decode cX10_tariff 62 = .ok (.i2l, 1) := by decide +kernel
theorem dX10_tariff_63 : decode cX10_tariff 63 = .ok (.invokevirtual 205, 3) := by decide +kernel
theorem dX10_tariff_66 : decode cX10_tariff 66 = .ok (.return_, 1) := by decide +kernel
set_option maxRecDepth 20000 in
theorem ggX10_bill_X10_pointAt : GoodIn wsX10_bill wsX10_pointAt := goodIn_ca (goodIn_r _ [11, 12, 13, 14, 102, 103, 104, 105, 106, 107, 108, 109, 110, 111] (by decide +kernel) (by decide +kernel)) (goodIn_sub (fun _ h => List.mem_cons_of_mem _ (List.mem_append_right _ h)) (by decide +kernel))
set_option maxRecDepth 20000 in
theorem gX10_bill_X10_pointAt : GoodIn wsX10_bill (wsV RX10 134 RX10 yX10_pointAt wsX10_pointAt) := goodIn_app (goodIn_of _ (by decide +kernel)) ggX10_bill_X10_pointAt
set_option maxRecDepth 20000 in
theorem ggX10_bill_X8_holderOn : GoodIn wsX10_bill wsX8_holderOn := goodIn_r _ [19, 20, 21, 22, 23, 24, 25, 26, 112, 113, 114, 115, 116] (by decide +kernel) (by decide +kernel)
set_option maxRecDepth 20000 in
theorem gX10_bill_X8_holderOn : GoodIn wsX10_bill (wsV RX10 181 RX8 yX8_holderOn wsX8_holderOn) := goodIn_app (goodIn_of _ (by decide +kernel)) ggX10_bill_X8_holderOn
set_option maxRecDepth 20000 in
theorem ggX10_bill_X4_unitsOf : GoodIn wsX10_bill wsX4_unitsOf := goodIn_r _ [31, 32, 33, 34, 35, 36, 30, 37, 38, 39, 22, 23, 24, 25, 26, 40, 41, 42, 43, 44, 45, 46, 47, 48, 49, 50, 51, 52, 53, 54, 55, 56, 117, 118, 119, 120, 121, 122, 123, 124, 125, 126, 127, 128, 116, 129] (by decide +kernel) (by decide +kernel)
set_option maxRecDepth 20000 in
theorem gX10_bill_X4_unitsOf : GoodIn wsX10_bill (wsV RX10 211 RX4 yX4_unitsOf wsX4_unitsOf) := goodIn_app (goodIn_of _ (by decide +kernel)) ggX10_bill_X4_unitsOf
set_option maxRecDepth 20000 in
theorem ggX10_bill_X9_cost : GoodIn wsX10_bill wsX9_cost := goodIn_r _ [61, 62, 63, 64, 65, 66, 67, 68, 69, 22, 23, 24, 25, 26, 130, 131, 132, 116] (by decide +kernel) (by decide +kernel)
set_option maxRecDepth 20000 in
theorem gX10_bill_X9_cost : GoodIn wsX10_bill (wsV RX10 215 RX9 yX9_cost wsX9_cost) := goodIn_app (goodIn_of _ (by decide +kernel)) ggX10_bill_X9_cost
set_option maxRecDepth 20000 in
theorem ggX10_bill_X0_putRight : GoodIn wsX10_bill wsX0_putRight := goodIn_r _ [74, 75, 76, 77, 78, 22, 23, 24, 25, 26, 79, 80, 81, 73, 82, 83, 84, 85, 86, 87, 88, 89, 90, 91, 92, 133, 134, 135, 136, 116] (by decide +kernel) (by decide +kernel)
set_option maxRecDepth 20000 in
theorem gX10_bill_X0_putRight : GoodIn wsX10_bill (wsV RX10 223 RX0 yX0_putRight wsX0_putRight) := goodIn_app (goodIn_of _ (by decide +kernel)) ggX10_bill_X0_putRight
set_option maxRecDepth 20000 in
theorem ggX10_bill_X0_owe : GoodIn wsX10_bill wsX0_owe := goodIn_r _ [96, 97, 133, 134, 135, 136] (by decide +kernel) (by decide +kernel)
set_option maxRecDepth 20000 in
theorem gX10_bill_X0_owe : GoodIn wsX10_bill (wsV RX10 227 RX0 yX0_owe wsX0_owe) := goodIn_app (goodIn_of _ (by decide +kernel)) ggX10_bill_X0_owe
theorem dX10_bill_0 : decode cX10_bill 0 = .ok (.aload_n 0, 1) := by decide +kernel
theorem dX10_bill_1 : decode cX10_bill 1 = .ok (.iload_n 1, 1) := by decide +kernel
theorem dX10_bill_2 : decode cX10_bill 2 = .ok (.invokevirtual 134, 3) := by decide +kernel
theorem dX10_bill_5 : decode cX10_bill 5 = .ok (.astore_n 2, 1) := by decide +kernel
theorem dX10_bill_6 : decode cX10_bill 6 = .ok (.lconst 0, 1) := by decide +kernel
theorem dX10_bill_7 : decode cX10_bill 7 = .ok (.lstore_n 3, 1) := by decide +kernel
theorem dX10_bill_8 : decode cX10_bill 8 = .ok (.aload_n 2, 1) := by decide +kernel
theorem dX10_bill_9 : decode cX10_bill 9 = .ok (.getfield 208, 3) := by decide +kernel
theorem dX10_bill_12 : decode cX10_bill 12 = .ok (.istore 5, 2) := by decide +kernel
theorem dX10_bill_14 : decode cX10_bill 14 = .ok (.iload 5, 2) := by decide +kernel
theorem dX10_bill_16 : decode cX10_bill 16 = .ok (.aload_n 0, 1) := by decide +kernel
theorem dX10_bill_17 : decode cX10_bill 17 = .ok (.getfield 62, 3) := by decide +kernel
theorem dX10_bill_20 : decode cX10_bill 20 = .ok (.if_icmp .ge 79, 3) := by decide +kernel
theorem dX10_bill_23 : decode cX10_bill 23 = .ok (.aload_n 2, 1) := by decide +kernel
theorem dX10_bill_24 : decode cX10_bill 24 = .ok (.getfield 172, 3) := by decide +kernel
theorem dX10_bill_27 : decode cX10_bill 27 = .ok (.iload 5, 2) := by decide +kernel
theorem dX10_bill_29 : decode cX10_bill 29 = .ok (.invokevirtual 181, 3) := by decide +kernel
theorem dX10_bill_32 : decode cX10_bill 32 = .ok (.istore 6, 2) := by decide +kernel
theorem dX10_bill_34 : decode cX10_bill 34 = .ok (.aload_n 0, 1) := by decide +kernel
theorem dX10_bill_35 : decode cX10_bill 35 = .ok (.getfield 28, 3) := by decide +kernel
theorem dX10_bill_38 : decode cX10_bill 38 = .ok (.iload 6, 2) := by decide +kernel
theorem dX10_bill_40 : decode cX10_bill 40 = .ok (.iload 5, 2) := by decide +kernel
theorem dX10_bill_42 : decode cX10_bill 42 = .ok (.aload_n 2, 1) := by decide +kernel
theorem dX10_bill_43 : decode cX10_bill 43 = .ok (.getfield 138, 3) := by decide +kernel
theorem dX10_bill_46 : decode cX10_bill 46 = .ok (.iload 5, 2) := by decide +kernel
theorem dX10_bill_48 : decode cX10_bill 48 = .ok (.invokevirtual 211, 3) := by decide +kernel
theorem dX10_bill_51 : decode cX10_bill 51 = .ok (.invokevirtual 215, 3) := by decide +kernel
theorem dX10_bill_54 : decode cX10_bill 54 = .ok (.lstore 7, 2) := by decide +kernel
theorem dX10_bill_56 : decode cX10_bill 56 = .ok (.aload_n 0, 1) := by decide +kernel
theorem dX10_bill_57 : decode cX10_bill 57 = .ok (.getfield 62, 3) := by decide +kernel
theorem dX10_bill_60 : decode cX10_bill 60 = .ok (.iload 5, 2) := by decide +kernel
theorem dX10_bill_62 : decode cX10_bill 62 = .ok (.isub, 1) := by decide +kernel
theorem dX10_bill_63 : decode cX10_bill 63 = .ok (.bipush 100, 2) := by decide +kernel
theorem dX10_bill_65 : decode cX10_bill 65 = .ok (.if_icmp .gt 7, 3) := by decide +kernel
theorem dX10_bill_68 : decode cX10_bill 68 = .ok (.iconst 1, 1) := by decide +kernel
theorem dX10_bill_69 : decode cX10_bill 69 = .ok (.goto 4, 3) := by decide +kernel
theorem dX10_bill_72 : decode cX10_bill 72 = .ok (.iconst 0, 1) := by decide +kernel
theorem dX10_bill_73 : decode cX10_bill 73 = .ok (.istore 9, 2) := by decide +kernel
theorem dX10_bill_75 : decode cX10_bill 75 = .ok (.lload_n 3, 1) := by decide +kernel
theorem dX10_bill_76 : decode cX10_bill 76 = .ok (.aload_n 2, 1) := by decide +kernel
theorem dX10_bill_77 : decode cX10_bill 77 = .ok (.getfield 219, 3) := by decide +kernel
theorem dX10_bill_80 : decode cX10_bill 80 = .ok (.iload 5, 2) := by decide +kernel
theorem dX10_bill_82 : decode cX10_bill 82 = .ok (.iload 6, 2) := by decide +kernel
theorem dX10_bill_84 : decode cX10_bill 84 = .ok (.lload 7, 2) := by decide +kernel
theorem dX10_bill_86 : decode cX10_bill 86 = .ok (.iload 9, 2) := by decide +kernel
theorem dX10_bill_88 : decode cX10_bill 88 = .ok (.invokevirtual 223, 3) := by decide +kernel
theorem dX10_bill_91 : decode cX10_bill 91 = .ok (.ladd, 1) := by decide +kernel
theorem dX10_bill_92 : decode cX10_bill 92 = .ok (.lstore_n 3, 1) := by decide +kernel
theorem dX10_bill_93 : decode cX10_bill 93 = .ok (.iinc 5 1, 3) := by decide +kernel
theorem dX10_bill_96 : decode cX10_bill 96 = .ok (.goto (-82), 3) := by decide +kernel
theorem dX10_bill_99 : decode cX10_bill 99 = .ok (.aload_n 2, 1) := by decide +kernel
theorem dX10_bill_100 : decode cX10_bill 100 = .ok (.getfield 219, 3) := by decide +kernel
theorem dX10_bill_103 : decode cX10_bill 103 = .ok (.lload_n 3, 1) := by decide +kernel
theorem dX10_bill_104 : decode cX10_bill 104 = .ok (.invokevirtual 227, 3) := by decide +kernel
theorem dX10_bill_107 : decode cX10_bill 107 = .ok (.lload_n 3, 1) := by decide +kernel
theorem dX10_bill_108 : decode cX10_bill 108 = .ok (.lreturn, 1) := by decide +kernel
set_option maxRecDepth 20000 in
theorem ggX10_credit_X10_pointAt : GoodIn wsX10_credit wsX10_pointAt := goodIn_ca (goodIn_r _ [12, 13, 14, 15, 40, 41, 42, 43, 44, 45, 46, 47, 48, 49] (by decide +kernel) (by decide +kernel)) (goodIn_sub (fun _ h => List.mem_cons_of_mem _ (List.mem_append_right _ h)) (by decide +kernel))
set_option maxRecDepth 20000 in
theorem gX10_credit_X10_pointAt : GoodIn wsX10_credit (wsV RX10 134 RX10 yX10_pointAt wsX10_pointAt) := goodIn_app (goodIn_of _ (by decide +kernel)) ggX10_credit_X10_pointAt
set_option maxRecDepth 20000 in
theorem ggX10_credit_X10_isCodeTaken : GoodIn wsX10_credit wsX10_isCodeTaken := goodIn_r _ [19, 6, 7, 20, 21, 22, 23, 24, 25, 40, 41, 42, 43, 44, 45, 46, 47, 48, 49, 50] (by decide +kernel) (by decide +kernel)
set_option maxRecDepth 20000 in
theorem gX10_credit_X10_isCodeTaken : GoodIn wsX10_credit (wsV RX10 233 RX10 yX10_isCodeTaken wsX10_isCodeTaken) := goodIn_app (goodIn_of _ (by decide +kernel)) ggX10_credit_X10_isCodeTaken
set_option maxRecDepth 20000 in
theorem ggX10_credit_X5_set : GoodIn wsX10_credit wsX5_set := goodIn_r _ [29, 25, 50] (by decide +kernel) (by decide +kernel)
set_option maxRecDepth 20000 in
theorem gX10_credit_X5_set : GoodIn wsX10_credit (wsV RX10 238 RX5 yX5_set wsX5_set) := goodIn_app (goodIn_of _ (by decide +kernel)) ggX10_credit_X5_set
set_option maxRecDepth 20000 in
theorem ggX10_credit_X0_owe : GoodIn wsX10_credit wsX0_owe := goodIn_r _ [34, 35, 51, 52, 53, 54] (by decide +kernel) (by decide +kernel)
set_option maxRecDepth 20000 in
theorem gX10_credit_X0_owe : GoodIn wsX10_credit (wsV RX10 227 RX0 yX0_owe wsX0_owe) := goodIn_app (goodIn_of _ (by decide +kernel)) ggX10_credit_X0_owe
theorem dX10_credit_0 : decode cX10_credit 0 = .ok (.aload_n 0, 1) := by decide +kernel
theorem dX10_credit_1 : decode cX10_credit 1 = .ok (.iload_n 1, 1) := by decide +kernel
theorem dX10_credit_2 : decode cX10_credit 2 = .ok (.invokevirtual 134, 3) := by decide +kernel
theorem dX10_credit_5 : decode cX10_credit 5 = .ok (.getfield 219, 3) := by decide +kernel
theorem dX10_credit_8 : decode cX10_credit 8 = .ok (.astore_n 3, 1) := by decide +kernel
theorem dX10_credit_9 : decode cX10_credit 9 = .ok (.iload_n 2, 1) := by decide +kernel
theorem dX10_credit_10 : decode cX10_credit 10 = .ok (.bipush 97, 2) := by decide +kernel
theorem dX10_credit_12 : decode cX10_credit 12 = .ok (.idiv, 1) := by decide +kernel
theorem dX10_credit_13 : decode cX10_credit 13 = .ok (.istore 4, 2) := by decide +kernel
theorem dX10_credit_15 : decode cX10_credit 15 = .ok (.iload_n 2, 1) := by decide +kernel
theorem dX10_credit_16 : decode cX10_credit 16 = .ok (.ifCond .lt 15, 3) := by decide +kernel
theorem dX10_credit_19 : decode cX10_credit 19 = .ok (.iload_n 2, 1) := by decide +kernel
theorem dX10_credit_20 : decode cX10_credit 20 = .ok (.bipush 97, 2) := by decide +kernel
theorem dX10_credit_22 : decode cX10_credit 22 = .ok (.irem, 1) := by decide +kernel
theorem dX10_credit_23 : decode cX10_credit 23 = .ok (.iload 4, 2) := by decide +kernel
theorem dX10_credit_25 : decode cX10_credit 25 = .ok (.bipush 97, 2) := by decide +kernel
theorem dX10_credit_27 : decode cX10_credit 27 = .ok (.irem, 1) := by decide +kernel
theorem dX10_credit_28 : decode cX10_credit 28 = .ok (.if_icmp .eq 13, 3) := by decide +kernel
theorem dX10_credit_31 : decode cX10_credit 31 = .ok (.new 72, 3) := by decide +kernel
theorem dX10_credit_34 : decode cX10_credit 34 = .ok (.dup, 1) := by decide +kernel
theorem dX10_credit_35 : decode cX10_credit 35 = .ok (.ldc 231, 2) := by decide +kernel
theorem dX10_credit_37 : decode cX10_credit 37 = .ok (.invokespecial 76, 3) := by decide +kernel
theorem dX10_credit_40 : decode cX10_credit 40 = .ok (.athrow, 1) := by decide +kernel
theorem dX10_credit_41 : decode cX10_credit 41 = .ok (.aload_n 0, 1) := by decide +kernel
theorem dX10_credit_42 : decode cX10_credit 42 = .ok (.iload_n 2, 1) := by decide +kernel
theorem dX10_credit_43 : decode cX10_credit 43 = .ok (.invokevirtual 233, 3) := by decide +kernel
theorem dX10_credit_46 : decode cX10_credit 46 = .ok (.ifCond .ne 13, 3) := by decide +kernel
theorem dX10_credit_49 : decode cX10_credit 49 = .ok (.aload_n 0, 1) := by decide +kernel
theorem dX10_credit_50 : decode cX10_credit 50 = .ok (.getfield 55, 3) := by decide +kernel
theorem dX10_credit_53 : decode cX10_credit 53 = .ok (.sipush 512, 3) := by decide +kernel
theorem dX10_credit_56 : decode cX10_credit 56 = .ok (.if_icmp .lt 13, 3) := by decide +kernel
theorem dX10_credit_59 : decode cX10_credit 59 = .ok (.new 90, 3) := by decide +kernel
theorem dX10_credit_62 : decode cX10_credit 62 = .ok (.dup, 1) := by decide +kernel
theorem dX10_credit_63 : decode cX10_credit 63 = .ok (.ldc 236, 2) := by decide +kernel
theorem dX10_credit_65 : decode cX10_credit 65 = .ok (.invokespecial 94, 3) := by decide +kernel
theorem dX10_credit_68 : decode cX10_credit 68 = .ok (.athrow, 1) := by decide +kernel
theorem dX10_credit_69 : decode cX10_credit 69 = .ok (.aload_n 0, 1) := by decide +kernel
theorem dX10_credit_70 : decode cX10_credit 70 = .ok (.getfield 46, 3) := by decide +kernel
theorem dX10_credit_73 : decode cX10_credit 73 = .ok (.aload_n 0, 1) := by decide +kernel
theorem dX10_credit_74 : decode cX10_credit 74 = .ok (.getfield 55, 3) := by decide +kernel
theorem dX10_credit_77 : decode cX10_credit 77 = .ok (.iload_n 2, 1) := by decide +kernel
theorem dX10_credit_78 : decode cX10_credit 78 = .ok (.i2l, 1) := by decide +kernel
theorem dX10_credit_79 : decode cX10_credit 79 = .ok (.invokevirtual 238, 3) := by decide +kernel
theorem dX10_credit_82 : decode cX10_credit 82 = .ok (.aload_n 0, 1) := by decide +kernel
theorem dX10_credit_83 : decode cX10_credit 83 = .ok (.dup, 1) := by decide +kernel
theorem dX10_credit_84 : decode cX10_credit 84 = .ok (.getfield 55, 3) := by decide +kernel
theorem dX10_credit_87 : decode cX10_credit 87 = .ok (.iconst 1, 1) := by decide +kernel
theorem dX10_credit_88 : decode cX10_credit 88 = .ok (.iadd, 1) := by decide +kernel
theorem dX10_credit_89 : decode cX10_credit 89 = .ok (.putfield 55, 3) := by decide +kernel
theorem dX10_credit_92 : decode cX10_credit 92 = .ok (.iload 4, 2) := by decide +kernel
theorem dX10_credit_94 : decode cX10_credit 94 = .ok (.sipush 1000, 3) := by decide +kernel
theorem dX10_credit_97 : decode cX10_credit 97 = .ok (.irem, 1) := by decide +kernel
theorem dX10_credit_98 : decode cX10_credit 98 = .ok (.istore 5, 2) := by decide +kernel
theorem dX10_credit_100 : decode cX10_credit 100 = .ok (.aload_n 3, 1) := by decide +kernel
theorem dX10_credit_101 : decode cX10_credit 101 = .ok (.iload 5, 2) := by decide +kernel
theorem dX10_credit_103 : decode cX10_credit 103 = .ok (.ineg, 1) := by decide +kernel
theorem dX10_credit_104 : decode cX10_credit 104 = .ok (.i2l, 1) := by decide +kernel
theorem dX10_credit_105 : decode cX10_credit 105 = .ok (.invokevirtual 227, 3) := by decide +kernel
theorem dX10_credit_108 : decode cX10_credit 108 = .ok (.iload 5, 2) := by decide +kernel
theorem dX10_credit_110 : decode cX10_credit 110 = .ok (.ireturn, 1) := by decide +kernel
set_option maxRecDepth 20000 in
theorem ggX10_account_X10_pointAt : GoodIn wsX10_account wsX10_pointAt := goodIn_ca (goodIn_r _ [6, 7, 8, 9, 20, 21, 22, 23, 24, 25, 26, 27, 28, 29] (by decide +kernel) (by decide +kernel)) (goodIn_sub (fun _ h => List.mem_cons_of_mem _ (List.mem_append_right _ h)) (by decide +kernel))
set_option maxRecDepth 20000 in
theorem gX10_account_X10_pointAt : GoodIn wsX10_account (wsV RX10 134 RX10 yX10_pointAt wsX10_pointAt) := goodIn_app (goodIn_of _ (by decide +kernel)) ggX10_account_X10_pointAt
set_option maxRecDepth 20000 in
theorem ggX10_account_X0_owed : GoodIn wsX10_account wsX0_owed := goodIn_r _ [14, 15, 30, 31, 32, 33] (by decide +kernel) (by decide +kernel)
set_option maxRecDepth 20000 in
theorem gX10_account_X0_owed : GoodIn wsX10_account (wsV RX10 242 RX0 yX0_owed wsX0_owed) := goodIn_app (goodIn_of _ (by decide +kernel)) ggX10_account_X0_owed
theorem dX10_account_0 : decode cX10_account 0 = .ok (.aload_n 0, 1) := by decide +kernel
theorem dX10_account_1 : decode cX10_account 1 = .ok (.iload_n 1, 1) := by decide +kernel
theorem dX10_account_2 : decode cX10_account 2 = .ok (.invokevirtual 134, 3) := by decide +kernel
theorem dX10_account_5 : decode cX10_account 5 = .ok (.getfield 219, 3) := by decide +kernel
theorem dX10_account_8 : decode cX10_account 8 = .ok (.invokevirtual 242, 3) := by decide +kernel
theorem dX10_account_11 : decode cX10_account 11 = .ok (.lreturn, 1) := by decide +kernel
set_option maxRecDepth 20000 in
theorem ggX10_income_X10_needSupplier : GoodIn wsX10_income wsX10_needSupplier := goodIn_ca (goodIn_r _ [6, 7, 8] (by decide +kernel) (by decide +kernel)) (goodIn_sub (fun _ h => List.mem_cons_of_mem _ (List.mem_append_right _ h)) (by decide +kernel))
set_option maxRecDepth 20000 in
theorem gX10_income_X10_needSupplier : GoodIn wsX10_income (wsV RX10 65 RX10 yX10_needSupplier wsX10_needSupplier) := goodIn_app (goodIn_of _ (by decide +kernel)) ggX10_income_X10_needSupplier
set_option maxRecDepth 20000 in
theorem ggX10_income_X5_get : GoodIn wsX10_income wsX5_get := goodIn_r _ [13, 14, 25] (by decide +kernel) (by decide +kernel)
set_option maxRecDepth 20000 in
theorem gX10_income_X5_get : GoodIn wsX10_income (wsV RX10 246 RX5 yX5_get wsX5_get) := goodIn_app (goodIn_of _ (by decide +kernel)) ggX10_income_X5_get
theorem dX10_income_0 : decode cX10_income 0 = .ok (.aload_n 0, 1) := by decide +kernel
theorem dX10_income_1 : decode cX10_income 1 = .ok (.iload_n 1, 1) := by decide +kernel
theorem dX10_income_2 : decode cX10_income 2 = .ok (.invokevirtual 65, 3) := by decide +kernel
theorem dX10_income_5 : decode cX10_income 5 = .ok (.aload_n 0, 1) := by decide +kernel
theorem dX10_income_6 : decode cX10_income 6 = .ok (.getfield 35, 3) := by decide +kernel
theorem dX10_income_9 : decode cX10_income 9 = .ok (.iload_n 1, 1) := by decide +kernel
theorem dX10_income_10 : decode cX10_income 10 = .ok (.invokevirtual 246, 3) := by decide +kernel
theorem dX10_income_13 : decode cX10_income 13 = .ok (.lreturn, 1) := by decide +kernel
set_option maxRecDepth 20000 in
theorem ggX10_inflow_X10_needPassedDay : GoodIn wsX10_inflow wsX10_needPassedDay := goodIn_ca (goodIn_r _ [11, 12, 13, 14, 40, 41, 42, 43, 44, 45, 46, 47, 48, 49] (by decide +kernel) (by decide +kernel)) (goodIn_sub (fun _ h => List.mem_cons_of_mem _ (List.mem_append_right _ h)) (by decide +kernel))
set_option maxRecDepth 20000 in
theorem gX10_inflow_X10_needPassedDay : GoodIn wsX10_inflow (wsV RX10 249 RX10 yX10_needPassedDay wsX10_needPassedDay) := goodIn_app (goodIn_of _ (by decide +kernel)) ggX10_inflow_X10_needPassedDay
set_option maxRecDepth 20000 in
theorem ggX10_inflow_X10_isWithin : GoodIn wsX10_inflow wsX10_isWithin := goodIn_r _ [18] (by decide +kernel) (by decide +kernel)
set_option maxRecDepth 20000 in
theorem gX10_inflow_X10_isWithin : GoodIn wsX10_inflow (wsV RX10 118 RX10 yX10_isWithin wsX10_isWithin) := goodIn_app (goodIn_of _ (by decide +kernel)) ggX10_inflow_X10_isWithin
set_option maxRecDepth 20000 in
theorem ggX10_inflow_X6_runsOf : GoodIn wsX10_inflow wsX6_runsOf := goodIn_r _ [23, 24, 25, 26, 27, 28, 29, 30, 50, 51, 52, 53, 54] (by decide +kernel) (by decide +kernel)
set_option maxRecDepth 20000 in
theorem gX10_inflow_X6_runsOf : GoodIn wsX10_inflow (wsV RX10 255 RX6 yX6_runsOf wsX6_runsOf) := goodIn_app (goodIn_of _ (by decide +kernel)) ggX10_inflow_X6_runsOf
set_option maxRecDepth 20000 in
theorem ggX10_inflow_X6_tell : GoodIn wsX10_inflow wsX6_tell := goodIn_r _ [34, 35, 25, 26, 27, 28, 29, 30, 36, 37, 38, 39, 50, 51, 52, 53, 54] (by decide +kernel) (by decide +kernel)
set_option maxRecDepth 20000 in
theorem gX10_inflow_X6_tell : GoodIn wsX10_inflow (wsV RX10 260 RX6 yX6_tell wsX6_tell) := goodIn_app (goodIn_of _ (by decide +kernel)) ggX10_inflow_X6_tell
theorem dX10_inflow_0 : decode cX10_inflow 0 = .ok (.aload_n 0, 1) := by decide +kernel
theorem dX10_inflow_1 : decode cX10_inflow 1 = .ok (.iconst 0, 1) := by decide +kernel
theorem dX10_inflow_2 : decode cX10_inflow 2 = .ok (.iload_n 1, 1) := by decide +kernel
theorem dX10_inflow_3 : decode cX10_inflow 3 = .ok (.invokevirtual 249, 3) := by decide +kernel
theorem dX10_inflow_6 : decode cX10_inflow 6 = .ok (.aload_n 0, 1) := by decide +kernel
theorem dX10_inflow_7 : decode cX10_inflow 7 = .ok (.iload_n 2, 1) := by decide +kernel
theorem dX10_inflow_8 : decode cX10_inflow 8 = .ok (.ldc 252, 2) := by decide +kernel
theorem dX10_inflow_10 : decode cX10_inflow 10 = .ok (.invokevirtual 118, 3) := by decide +kernel
theorem dX10_inflow_13 : decode cX10_inflow 13 = .ok (.ifCond .ne 13, 3) := by decide +kernel
theorem dX10_inflow_16 : decode cX10_inflow 16 = .ok (.new 72, 3) := by decide +kernel
theorem dX10_inflow_19 : decode cX10_inflow 19 = .ok (.dup, 1) := by decide +kernel
theorem dX10_inflow_20 : decode cX10_inflow 20 = .ok (.ldc 253, 2) := by decide +kernel
theorem dX10_inflow_22 : decode cX10_inflow 22 = .ok (.invokespecial 76, 3) := by decide +kernel
theorem dX10_inflow_25 : decode cX10_inflow 25 = .ok (.athrow, 1) := by decide +kernel
theorem dX10_inflow_26 : decode cX10_inflow 26 = .ok (.aload_n 0, 1) := by decide +kernel
theorem dX10_inflow_27 : decode cX10_inflow 27 = .ok (.getfield 42, 3) := by decide +kernel
theorem dX10_inflow_30 : decode cX10_inflow 30 = .ok (.iload_n 1, 1) := by decide +kernel
theorem dX10_inflow_31 : decode cX10_inflow 31 = .ok (.invokevirtual 255, 3) := by decide +kernel
theorem dX10_inflow_34 : decode cX10_inflow 34 = .ok (.ifCond .le 14, 3) := by decide +kernel
theorem dX10_inflow_37 : decode cX10_inflow 37 = .ok (.new 90, 3) := by decide +kernel
theorem dX10_inflow_40 : decode cX10_inflow 40 = .ok (.dup, 1) := by decide +kernel
theorem dX10_inflow_41 : decode cX10_inflow 41 = .ok (.ldc_w 258, 3) := by decide +kernel
theorem dX10_inflow_44 : decode cX10_inflow 44 = .ok (.invokespecial 94, 3) := by decide +kernel
theorem dX10_inflow_47 : decode cX10_inflow 47 = .ok (.athrow, 1) := by decide +kernel
theorem dX10_inflow_48 : decode cX10_inflow 48 = .ok (.aload_n 0, 1) := by decide +kernel
theorem dX10_inflow_49 : decode cX10_inflow 49 = .ok (.getfield 42, 3) := by decide +kernel
theorem dX10_inflow_52 : decode cX10_inflow 52 = .ok (.iload_n 1, 1) := by decide +kernel
theorem dX10_inflow_53 : decode cX10_inflow 53 = .ok (.iload_n 2, 1) := by decide +kernel
theorem dX10_inflow_54 : decode cX10_inflow 54 = .ok (.i2l, 1) := by decide +kernel
theorem dX10_inflow_55 : decode cX10_inflow 55 = .ok (.invokevirtual 260, 3) := by decide +kernel
theorem dX10_inflow_58 : decode cX10_inflow 58 = .ok (.l2i, 1) := by decide +kernel
theorem dX10_inflow_59 : decode cX10_inflow 59 = .ok (.ireturn, 1) := by decide +kernel
set_option maxRecDepth 20000 in
theorem ggX10_settle_X10_needPassedDay : GoodIn wsX10_settle wsX10_needPassedDay := goodIn_ca (goodIn_r _ [12, 13, 14, 15, 135, 136, 137, 138, 139, 140, 141, 142, 143, 144] (by decide +kernel) (by decide +kernel)) (goodIn_sub (fun _ h => List.mem_cons_of_mem _ (List.mem_append_right _ h)) (by decide +kernel))
set_option maxRecDepth 20000 in
theorem gX10_settle_X10_needPassedDay : GoodIn wsX10_settle (wsV RX10 249 RX10 yX10_needPassedDay wsX10_needPassedDay) := goodIn_app (goodIn_of _ (by decide +kernel)) ggX10_settle_X10_needPassedDay
set_option maxRecDepth 20000 in
theorem ggX10_settle_X6_runsOf : GoodIn wsX10_settle wsX6_runsOf := goodIn_r _ [20, 21, 22, 23, 24, 25, 26, 27, 149, 150, 151, 152, 153] (by decide +kernel) (by decide +kernel)
set_option maxRecDepth 20000 in
theorem gX10_settle_X6_runsOf : GoodIn wsX10_settle (wsV RX10 255 RX6 yX6_runsOf wsX6_runsOf) := goodIn_app (goodIn_of _ (by decide +kernel)) ggX10_settle_X6_runsOf
set_option maxRecDepth 20000 in
theorem ggX10_settle_X6_clearVolumes : GoodIn wsX10_settle wsX6_clearVolumes := goodIn_r _ [31, 32, 33, 34, 35, 36, 37, 38, 39, 40, 41, 25, 42, 27, 149, 150, 151, 152, 154, 155, 156, 153] (by decide +kernel) (by decide +kernel)
set_option maxRecDepth 20000 in
theorem gX10_settle_X6_clearVolumes : GoodIn wsX10_settle (wsV RX10 265 RX6 yX6_clearVolumes wsX6_clearVolumes) := goodIn_app (goodIn_of _ (by decide +kernel)) ggX10_settle_X6_clearVolumes
set_option maxRecDepth 20000 in
theorem ggX10_settle_X8_holderOn : GoodIn wsX10_settle wsX8_holderOn := goodIn_r _ [47, 48, 49, 23, 24, 25, 26, 27, 157, 158, 159, 160, 153] (by decide +kernel) (by decide +kernel)
set_option maxRecDepth 20000 in
theorem gX10_settle_X8_holderOn : GoodIn wsX10_settle (wsV RX10 181 RX8 yX8_holderOn wsX8_holderOn) := goodIn_app (goodIn_of _ (by decide +kernel)) ggX10_settle_X8_holderOn
set_option maxRecDepth 20000 in
theorem ggX10_settle_X4_unitsOf : GoodIn wsX10_settle wsX4_unitsOf := goodIn_r _ [54, 55, 56, 57, 58, 59, 53, 60, 61, 62, 23, 24, 25, 26, 27, 63, 64, 65, 66, 67, 68, 69, 70, 71, 72, 73, 74, 75, 76, 77, 78, 79, 161, 162, 163, 164, 165, 166, 167, 168, 169, 170, 171, 172, 153, 173] (by decide +kernel) (by decide +kernel)
set_option maxRecDepth 20000 in
theorem gX10_settle_X4_unitsOf : GoodIn wsX10_settle (wsV RX10 211 RX4 yX4_unitsOf wsX4_unitsOf) := goodIn_app (goodIn_of _ (by decide +kernel)) ggX10_settle_X4_unitsOf
set_option maxRecDepth 20000 in
theorem ggX10_settle_X6_addVolume : GoodIn wsX10_settle wsX6_addVolume := goodIn_r _ [83, 32, 84, 85, 86, 36, 87, 38, 88, 89, 90, 25, 91, 92, 23, 24, 26, 27, 93, 40, 41, 42, 149, 150, 151, 152, 154, 155, 156, 153] (by decide +kernel) (by decide +kernel)
set_option maxRecDepth 20000 in
theorem gX10_settle_X6_addVolume : GoodIn wsX10_settle (wsV RX10 268 RX6 yX6_addVolume wsX6_addVolume) := goodIn_app (goodIn_of _ (by decide +kernel)) ggX10_settle_X6_addVolume
set_option maxRecDepth 20000 in
theorem ggX10_settle_X6_run : GoodIn wsX10_settle wsX6_run := goodIn_r _ [97, 98, 32, 99, 100, 101, 102, 103, 21, 22, 23, 24, 25, 26, 27, 104, 105, 106, 36, 107, 38, 108, 109, 110, 111, 112, 113, 114, 115, 39, 40, 41, 42, 116, 117, 118, 119, 120, 121, 122, 123, 124, 88, 89, 90, 91, 92, 93, 125, 126, 127, 128, 129, 130, 131, 132, 133, 134, 149, 150, 151, 152, 153, 154, 155, 156] (by decide +kernel) (by decide +kernel)
set_option maxRecDepth 20000 in
theorem gX10_settle_X6_run : GoodIn wsX10_settle (wsV RX10 271 RX6 yX6_run wsX6_run) := goodIn_app (goodIn_of _ (by decide +kernel)) ggX10_settle_X6_run
theorem dX10_settle_0 : decode cX10_settle 0 = .ok (.aload_n 0, 1) := by decide +kernel
theorem dX10_settle_1 : decode cX10_settle 1 = .ok (.iconst 0, 1) := by decide +kernel
theorem dX10_settle_2 : decode cX10_settle 2 = .ok (.iload_n 1, 1) := by decide +kernel
theorem dX10_settle_3 : decode cX10_settle 3 = .ok (.invokevirtual 249, 3) := by decide +kernel
theorem dX10_settle_6 : decode cX10_settle 6 = .ok (.aload_n 0, 1) := by decide +kernel
theorem dX10_settle_7 : decode cX10_settle 7 = .ok (.getfield 42, 3) := by decide +kernel
theorem dX10_settle_10 : decode cX10_settle 10 = .ok (.iload_n 1, 1) := by decide +kernel
theorem dX10_settle_11 : decode cX10_settle 11 = .ok (.invokevirtual 255, 3) := by decide +kernel
theorem dX10_settle_14 : decode cX10_settle 14 = .ok (.iconst 3, 1) := by decide +kernel
theorem dX10_settle_15 : decode cX10_settle 15 = .ok (.if_icmp .lt 14, 3) := by decide +kernel
theorem dX10_settle_18 : decode cX10_settle 18 = .ok (.new 90, 3) := by decide +kernel
theorem dX10_settle_21 : decode cX10_settle 21 = .ok (.dup, 1) := by decide +kernel
theorem dX10_settle_22 : decode cX10_settle 22 = .ok (.ldc_w 263, 3) := by decide +kernel
theorem dX10_settle_25 : decode cX10_settle 25 = .ok (.invokespecial 94, 3) := by decide +kernel
theorem dX10_settle_28 : decode cX10_settle 28 = .ok (.athrow, 1) := by decide +kernel
theorem dX10_settle_29 : decode cX10_settle 29 = .ok (.aload_n 0, 1) := by decide +kernel
theorem dX10_settle_30 : decode cX10_settle 30 = .ok (.getfield 42, 3) := by decide +kernel
theorem dX10_settle_33 : decode cX10_settle 33 = .ok (.invokevirtual 265, 3) := by decide +kernel
theorem dX10_settle_36 : decode cX10_settle 36 = .ok (.iconst 0, 1) := by decide +kernel
theorem dX10_settle_37 : decode cX10_settle 37 = .ok (.istore_n 2, 1) := by decide +kernel
theorem dX10_settle_38 : decode cX10_settle 38 = .ok (.iload_n 2, 1) := by decide +kernel
theorem dX10_settle_39 : decode cX10_settle 39 = .ok (.aload_n 0, 1) := by decide +kernel
theorem dX10_settle_40 : decode cX10_settle 40 = .ok (.getfield 51, 3) := by decide +kernel
theorem dX10_settle_43 : decode cX10_settle 43 = .ok (.arraylength, 1) := by decide +kernel
theorem dX10_settle_44 : decode cX10_settle 44 = .ok (.if_icmp .ge 51, 3) := by decide +kernel
theorem dX10_settle_47 : decode cX10_settle 47 = .ok (.aload_n 0, 1) := by decide +kernel
theorem dX10_settle_48 : decode cX10_settle 48 = .ok (.getfield 51, 3) := by decide +kernel
theorem dX10_settle_51 : decode cX10_settle 51 = .ok (.iload_n 2, 1) := by decide +kernel
theorem dX10_settle_52 : decode cX10_settle 52 = .ok (.aaload, 1) := by decide +kernel
theorem dX10_settle_53 : decode cX10_settle 53 = .ok (.astore_n 3, 1) := by decide +kernel
theorem dX10_settle_54 : decode cX10_settle 54 = .ok (.aload_n 3, 1) := by decide +kernel
theorem dX10_settle_55 : decode cX10_settle 55 = .ok (.ifnull 34, 3) := by decide +kernel
theorem dX10_settle_58 : decode cX10_settle 58 = .ok (.aload_n 3, 1) := by decide +kernel
theorem dX10_settle_59 : decode cX10_settle 59 = .ok (.getfield 208, 3) := by decide +kernel
theorem dX10_settle_62 : decode cX10_settle 62 = .ok (.iload_n 1, 1) := by decide +kernel
theorem dX10_settle_63 : decode cX10_settle 63 = .ok (.if_icmp .gt 26, 3) := by decide +kernel
theorem dX10_settle_66 : decode cX10_settle 66 = .ok (.aload_n 0, 1) := by decide +kernel
theorem dX10_settle_67 : decode cX10_settle 67 = .ok (.getfield 42, 3) := by decide +kernel
theorem dX10_settle_70 : decode cX10_settle 70 = .ok (.aload_n 3, 1) := by decide +kernel
theorem dX10_settle_71 : decode cX10_settle 71 = .ok (.getfield 172, 3) := by decide +kernel
theorem dX10_settle_74 : decode cX10_settle 74 = .ok (.iload_n 1, 1) := by decide +kernel
theorem dX10_settle_75 : decode cX10_settle 75 = .ok (.invokevirtual 181, 3) := by decide +kernel
theorem dX10_settle_78 : decode cX10_settle 78 = .ok (.aload_n 3, 1) := by decide +kernel
theorem dX10_settle_79 : decode cX10_settle 79 = .ok (.getfield 138, 3) := by decide +kernel
theorem dX10_settle_82 : decode cX10_settle 82 = .ok (.iload_n 1, 1) := by decide +kernel
theorem dX10_settle_83 : decode cX10_settle 83 = .ok (.invokevirtual 211, 3) := by decide +kernel
theorem dX10_settle_86 : decode cX10_settle 86 = .ok (.invokevirtual 268, 3) := by decide +kernel
theorem dX10_settle_89 : decode cX10_settle 89 = .ok (.iinc 2 1, 3) := by decide +kernel
theorem dX10_settle_92 : decode cX10_settle 92 = .ok (.goto (-54), 3) := by decide +kernel
theorem dX10_settle_95 : decode cX10_settle 95 = .ok (.aload_n 0, 1) := by decide +kernel
theorem dX10_settle_96 : decode cX10_settle 96 = .ok (.getfield 42, 3) := by decide +kernel
theorem dX10_settle_99 : decode cX10_settle 99 = .ok (.iload_n 1, 1) := by decide +kernel
theorem dX10_settle_100 : decode cX10_settle 100 = .ok (.invokevirtual 271, 3) := by decide +kernel
theorem dX10_settle_103 : decode cX10_settle 103 = .ok (.aload_n 0, 1) := by decide +kernel
theorem dX10_settle_104 : decode cX10_settle 104 = .ok (.getfield 42, 3) := by decide +kernel
theorem dX10_settle_107 : decode cX10_settle 107 = .ok (.iload_n 1, 1) := by decide +kernel
theorem dX10_settle_108 : decode cX10_settle 108 = .ok (.invokevirtual 255, 3) := by decide +kernel
theorem dX10_settle_111 : decode cX10_settle 111 = .ok (.ireturn, 1) := by decide +kernel
set_option maxRecDepth 20000 in
theorem ggX10_settled_X10_needPassedDay : GoodIn wsX10_settled wsX10_needPassedDay := goodIn_ca (goodIn_r _ [6, 7, 8, 9, 26, 27, 28, 29, 30, 31, 32, 33, 34, 35] (by decide +kernel) (by decide +kernel)) (goodIn_sub (fun _ h => List.mem_cons_of_mem _ (List.mem_append_right _ h)) (by decide +kernel))
set_option maxRecDepth 20000 in
theorem gX10_settled_X10_needPassedDay : GoodIn wsX10_settled (wsV RX10 249 RX10 yX10_needPassedDay wsX10_needPassedDay) := goodIn_app (goodIn_of _ (by decide +kernel)) ggX10_settled_X10_needPassedDay
set_option maxRecDepth 20000 in
theorem ggX10_settled_X10_needSupplier : GoodIn wsX10_settled wsX10_needSupplier := goodIn_ca (goodIn_r _ [13, 7, 8] (by decide +kernel) (by decide +kernel)) (goodIn_sub (fun _ h => List.mem_cons_of_mem _ (List.mem_append_right _ h)) (by decide +kernel))
set_option maxRecDepth 20000 in
theorem gX10_settled_X10_needSupplier : GoodIn wsX10_settled (wsV RX10 65 RX10 yX10_needSupplier wsX10_needSupplier) := goodIn_app (goodIn_of _ (by decide +kernel)) ggX10_settled_X10_needSupplier
set_option maxRecDepth 20000 in
theorem ggX10_settled_X6_resultOf : GoodIn wsX10_settled wsX6_resultOf := goodIn_r _ [18, 19, 20, 21, 22, 23, 24, 25, 36, 37, 38, 39, 40] (by decide +kernel) (by decide +kernel)
set_option maxRecDepth 20000 in
theorem gX10_settled_X6_resultOf : GoodIn wsX10_settled (wsV RX10 274 RX6 yX6_resultOf wsX6_resultOf) := goodIn_app (goodIn_of _ (by decide +kernel)) ggX10_settled_X6_resultOf
theorem dX10_settled_0 : decode cX10_settled 0 = .ok (.aload_n 0, 1) := by decide +kernel
theorem dX10_settled_1 : decode cX10_settled 1 = .ok (.iconst 0, 1) := by decide +kernel
theorem dX10_settled_2 : decode cX10_settled 2 = .ok (.iload_n 1, 1) := by decide +kernel
theorem dX10_settled_3 : decode cX10_settled 3 = .ok (.invokevirtual 249, 3) := by decide +kernel
theorem dX10_settled_6 : decode cX10_settled 6 = .ok (.aload_n 0, 1) := by decide +kernel
theorem dX10_settled_7 : decode cX10_settled 7 = .ok (.iload_n 2, 1) := by decide +kernel
theorem dX10_settled_8 : decode cX10_settled 8 = .ok (.invokevirtual 65, 3) := by decide +kernel
theorem dX10_settled_11 : decode cX10_settled 11 = .ok (.aload_n 0, 1) := by decide +kernel
theorem dX10_settled_12 : decode cX10_settled 12 = .ok (.getfield 42, 3) := by decide +kernel
theorem dX10_settled_15 : decode cX10_settled 15 = .ok (.iload_n 1, 1) := by decide +kernel
theorem dX10_settled_16 : decode cX10_settled 16 = .ok (.iload_n 2, 1) := by decide +kernel
theorem dX10_settled_17 : decode cX10_settled 17 = .ok (.invokevirtual 274, 3) := by decide +kernel
theorem dX10_settled_20 : decode cX10_settled 20 = .ok (.l2i, 1) := by decide +kernel
theorem dX10_settled_21 : decode cX10_settled 21 = .ok (.ireturn, 1) := by decide +kernel
set_option maxRecDepth 20000 in
theorem ggX10_volume_X10_pointAt : GoodIn wsX10_volume wsX10_pointAt := goodIn_ca (goodIn_r _ [7, 8, 9, 10, 55, 56, 57, 58, 59, 60, 61, 62, 63, 64] (by decide +kernel) (by decide +kernel)) (goodIn_sub (fun _ h => List.mem_cons_of_mem _ (List.mem_append_right _ h)) (by decide +kernel))
set_option maxRecDepth 20000 in
theorem gX10_volume_X10_pointAt : GoodIn wsX10_volume (wsV RX10 134 RX10 yX10_pointAt wsX10_pointAt) := goodIn_app (goodIn_of _ (by decide +kernel)) ggX10_volume_X10_pointAt
set_option maxRecDepth 20000 in
theorem ggX10_volume_X10_needPassedDay : GoodIn wsX10_volume wsX10_needPassedDay := goodIn_ca (goodIn_r _ [14, 8, 9, 15, 55, 56, 57, 58, 59, 60, 61, 62, 63, 64] (by decide +kernel) (by decide +kernel)) (goodIn_sub (fun _ h => List.mem_cons_of_mem _ (List.mem_append_right _ h)) (by decide +kernel))
set_option maxRecDepth 20000 in
theorem gX10_volume_X10_needPassedDay : GoodIn wsX10_volume (wsV RX10 249 RX10 yX10_needPassedDay wsX10_needPassedDay) := goodIn_app (goodIn_of _ (by decide +kernel)) ggX10_volume_X10_needPassedDay
set_option maxRecDepth 20000 in
theorem ggX10_volume_X4_unitsOf : GoodIn wsX10_volume wsX4_unitsOf := goodIn_r _ [20, 21, 22, 23, 24, 25, 19, 26, 27, 28, 29, 30, 31, 32, 33, 34, 35, 36, 37, 38, 39, 40, 41, 42, 43, 44, 45, 46, 47, 48, 49, 50, 65, 66, 67, 68, 69, 70, 71, 72, 73, 74, 75, 76, 77, 78] (by decide +kernel) (by decide +kernel)
set_option maxRecDepth 20000 in
theorem gX10_volume_X4_unitsOf : GoodIn wsX10_volume (wsV RX10 211 RX4 yX4_unitsOf wsX4_unitsOf) := goodIn_app (goodIn_of _ (by decide +kernel)) ggX10_volume_X4_unitsOf
theorem dX10_volume_0 : decode cX10_volume 0 = .ok (.aload_n 0, 1) := by decide +kernel
theorem dX10_volume_1 : decode cX10_volume 1 = .ok (.iload_n 1, 1) := by decide +kernel
theorem dX10_volume_2 : decode cX10_volume 2 = .ok (.invokevirtual 134, 3) := by decide +kernel
theorem dX10_volume_5 : decode cX10_volume 5 = .ok (.astore_n 3, 1) := by decide +kernel
theorem dX10_volume_6 : decode cX10_volume 6 = .ok (.aload_n 0, 1) := by decide +kernel
theorem dX10_volume_7 : decode cX10_volume 7 = .ok (.aload_n 3, 1) := by decide +kernel
theorem dX10_volume_8 : decode cX10_volume 8 = .ok (.getfield 208, 3) := by decide +kernel
theorem dX10_volume_11 : decode cX10_volume 11 = .ok (.iload_n 2, 1) := by decide +kernel
theorem dX10_volume_12 : decode cX10_volume 12 = .ok (.invokevirtual 249, 3) := by decide +kernel
theorem dX10_volume_15 : decode cX10_volume 15 = .ok (.aload_n 3, 1) := by decide +kernel
theorem dX10_volume_16 : decode cX10_volume 16 = .ok (.getfield 138, 3) := by decide +kernel
theorem dX10_volume_19 : decode cX10_volume 19 = .ok (.iload_n 2, 1) := by decide +kernel
theorem dX10_volume_20 : decode cX10_volume 20 = .ok (.invokevirtual 211, 3) := by decide +kernel
theorem dX10_volume_23 : decode cX10_volume 23 = .ok (.l2i, 1) := by decide +kernel
theorem dX10_volume_24 : decode cX10_volume 24 = .ok (.ireturn, 1) := by decide +kernel
set_option maxRecDepth 20000 in
theorem ggX10_volumeAnew_X10_pointAt : GoodIn wsX10_volumeAnew wsX10_pointAt := goodIn_ca (goodIn_r _ [7, 8, 9, 10, 112, 113, 114, 115, 116, 117, 118, 119, 120, 121] (by decide +kernel) (by decide +kernel)) (goodIn_sub (fun _ h => List.mem_cons_of_mem _ (List.mem_append_right _ h)) (by decide +kernel))
set_option maxRecDepth 20000 in
theorem gX10_volumeAnew_X10_pointAt : GoodIn wsX10_volumeAnew (wsV RX10 134 RX10 yX10_pointAt wsX10_pointAt) := goodIn_app (goodIn_of _ (by decide +kernel)) ggX10_volumeAnew_X10_pointAt
set_option maxRecDepth 20000 in
theorem ggX10_volumeAnew_X10_needPassedDay : GoodIn wsX10_volumeAnew wsX10_needPassedDay := goodIn_ca (goodIn_r _ [14, 8, 9, 15, 112, 113, 114, 115, 116, 117, 118, 119, 120, 121] (by decide +kernel) (by decide +kernel)) (goodIn_sub (fun _ h => List.mem_cons_of_mem _ (List.mem_append_right _ h)) (by decide +kernel))
set_option maxRecDepth 20000 in
theorem gX10_volumeAnew_X10_needPassedDay : GoodIn wsX10_volumeAnew (wsV RX10 249 RX10 yX10_needPassedDay wsX10_needPassedDay) := goodIn_app (goodIn_of _ (by decide +kernel)) ggX10_volumeAnew_X10_needPassedDay
set_option maxRecDepth 20000 in
theorem ggX10_volumeAnew_X4_unitsAnewOf : GoodIn wsX10_volumeAnew wsX4_unitsAnewOf := goodIn_r _ [20, 21, 22, 23, 24, 25, 26, 27, 19, 28, 29, 30, 31, 32, 33, 34, 35, 36, 37, 38, 39, 40, 41, 42, 43, 44, 45, 46, 47, 48, 49, 50, 51, 52, 53, 54, 55, 56, 57, 58, 59, 60, 61, 62, 63, 64, 65, 66, 67, 68, 69, 70, 71, 72, 73, 74, 75, 76, 77, 78, 79, 80, 81, 82, 83, 84, 85, 86, 87, 88, 89, 90, 91, 92, 93, 94, 95, 96, 97, 98, 99, 100, 101, 102, 103, 104, 105, 106, 107, 122, 123, 124, 125, 126, 127, 128, 129, 130, 131, 132, 133, 134, 135, 136, 137, 138] (by decide +kernel) (by decide +kernel)
set_option maxRecDepth 20000 in
theorem gX10_volumeAnew_X4_unitsAnewOf : GoodIn wsX10_volumeAnew (wsV RX10 277 RX4 yX4_unitsAnewOf wsX4_unitsAnewOf) := goodIn_app (goodIn_of _ (by decide +kernel)) ggX10_volumeAnew_X4_unitsAnewOf
theorem dX10_volumeAnew_0 : decode cX10_volumeAnew 0 = .ok (.aload_n 0, 1) := by decide +kernel
theorem dX10_volumeAnew_1 : decode cX10_volumeAnew 1 = .ok (.iload_n 1, 1) := by decide +kernel
theorem dX10_volumeAnew_2 : decode cX10_volumeAnew 2 = .ok (.invokevirtual 134, 3) := by decide +kernel
theorem dX10_volumeAnew_5 : decode cX10_volumeAnew 5 = .ok (.astore_n 3, 1) := by decide +kernel
theorem dX10_volumeAnew_6 : decode cX10_volumeAnew 6 = .ok (.aload_n 0, 1) := by decide +kernel
theorem dX10_volumeAnew_7 : decode cX10_volumeAnew 7 = .ok (.aload_n 3, 1) := by decide +kernel
theorem dX10_volumeAnew_8 : decode cX10_volumeAnew 8 = .ok (.getfield 208, 3) := by decide +kernel
theorem dX10_volumeAnew_11 : decode cX10_volumeAnew 11 = .ok (.iload_n 2, 1) := by decide +kernel
theorem dX10_volumeAnew_12 : decode cX10_volumeAnew 12 = .ok (.invokevirtual 249, 3) := by decide +kernel
theorem dX10_volumeAnew_15 : decode cX10_volumeAnew 15 = .ok (.aload_n 3, 1) := by decide +kernel
theorem dX10_volumeAnew_16 : decode cX10_volumeAnew 16 = .ok (.getfield 138, 3) := by decide +kernel
theorem dX10_volumeAnew_19 : decode cX10_volumeAnew 19 = .ok (.iload_n 2, 1) := by decide +kernel
theorem dX10_volumeAnew_20 : decode cX10_volumeAnew 20 = .ok (.invokevirtual 277, 3) := by decide +kernel
theorem dX10_volumeAnew_23 : decode cX10_volumeAnew 23 = .ok (.l2i, 1) := by decide +kernel
theorem dX10_volumeAnew_24 : decode cX10_volumeAnew 24 = .ok (.ireturn, 1) := by decide +kernel
set_option maxRecDepth 20000 in
theorem ggX10_of_X10_pointAt : GoodIn wsX10_of wsX10_pointAt := goodIn_ca (goodIn_r _ [10, 11, 12, 13, 51, 52, 53, 54, 55, 56, 57, 58, 59, 60] (by decide +kernel) (by decide +kernel)) (goodIn_sub (fun _ h => List.mem_cons_of_mem _ (List.mem_append_right _ h)) (by decide +kernel))
set_option maxRecDepth 20000 in
theorem gX10_of_X10_pointAt : GoodIn wsX10_of (wsV RX10 134 RX10 yX10_pointAt wsX10_pointAt) := goodIn_app (goodIn_of _ (by decide +kernel)) ggX10_of_X10_pointAt
set_option maxRecDepth 20000 in
theorem ggX10_of_X4_pace : GoodIn wsX10_of wsX4_pace := goodIn_r _ [18, 19, 61, 62, 63, 64, 65, 66, 67, 68, 69, 70, 71, 72] (by decide +kernel) (by decide +kernel)
set_option maxRecDepth 20000 in
theorem gX10_of_X4_pace : GoodIn wsX10_of (wsV RX10 280 RX4 yX4_pace wsX4_pace) := goodIn_app (goodIn_of _ (by decide +kernel)) ggX10_of_X4_pace
set_option maxRecDepth 20000 in
theorem ggX10_of_X4_latestDay : GoodIn wsX10_of wsX4_latestDay := goodIn_r _ [23, 24, 61, 62, 63, 64, 65, 66, 67, 68, 69, 70, 71, 72] (by decide +kernel) (by decide +kernel)
set_option maxRecDepth 20000 in
theorem gX10_of_X4_latestDay : GoodIn wsX10_of (wsV RX10 283 RX4 yX4_latestDay wsX4_latestDay) := goodIn_app (goodIn_of _ (by decide +kernel)) ggX10_of_X4_latestDay
set_option maxRecDepth 20000 in
theorem ggX10_of_X4_count : GoodIn wsX10_of wsX4_count := goodIn_r _ [28, 29, 61, 62, 63, 64, 65, 66, 67, 68, 69, 70, 71, 72] (by decide +kernel) (by decide +kernel)
set_option maxRecDepth 20000 in
theorem gX10_of_X4_count : GoodIn wsX10_of (wsV RX10 286 RX4 yX4_count wsX4_count) := goodIn_app (goodIn_of _ (by decide +kernel)) ggX10_of_X4_count
set_option maxRecDepth 20000 in
theorem ggX10_of_X8_holderOn : GoodIn wsX10_of wsX8_holderOn := goodIn_r _ [34, 35, 36, 37, 38, 39, 40, 41, 73, 74, 75, 76, 77] (by decide +kernel) (by decide +kernel)
set_option maxRecDepth 20000 in
theorem gX10_of_X8_holderOn : GoodIn wsX10_of (wsV RX10 181 RX8 yX8_holderOn wsX8_holderOn) := goodIn_app (goodIn_of _ (by decide +kernel)) ggX10_of_X8_holderOn
set_option maxRecDepth 20000 in
theorem ggX10_of_X4_doubtedDay : GoodIn wsX10_of wsX4_doubtedDay := goodIn_r _ [45, 46, 24, 61, 62, 63, 64, 65, 66, 67, 68, 69, 70, 71, 72] (by decide +kernel) (by decide +kernel)
set_option maxRecDepth 20000 in
theorem gX10_of_X4_doubtedDay : GoodIn wsX10_of (wsV RX10 157 RX4 yX4_doubtedDay wsX4_doubtedDay) := goodIn_app (goodIn_of _ (by decide +kernel)) ggX10_of_X4_doubtedDay
theorem dX10_of_0 : decode cX10_of 0 = .ok (.aload_n 0, 1) := by decide +kernel
theorem dX10_of_1 : decode cX10_of 1 = .ok (.iload_n 1, 1) := by decide +kernel
theorem dX10_of_2 : decode cX10_of 2 = .ok (.invokevirtual 134, 3) := by decide +kernel
theorem dX10_of_5 : decode cX10_of 5 = .ok (.astore_n 3, 1) := by decide +kernel
theorem dX10_of_6 : decode cX10_of 6 = .ok (.iload_n 2, 1) := by decide +kernel
theorem dX10_of_7 : decode cX10_of 7 = .ok (.tableswitch 78 0 4 #[33, 42, 50, 58, 70], 33) := by decide +kernel
theorem dX10_of_40 : decode cX10_of 40 = .ok (.aload_n 3, 1) := by decide +kernel
theorem dX10_of_41 : decode cX10_of 41 = .ok (.getfield 138, 3) := by decide +kernel
theorem dX10_of_44 : decode cX10_of 44 = .ok (.invokevirtual 280, 3) := by decide +kernel
theorem dX10_of_47 : decode cX10_of 47 = .ok (.l2i, 1) := by decide +kernel
theorem dX10_of_48 : decode cX10_of 48 = .ok (.ireturn, 1) := by decide +kernel
theorem dX10_of_49 : decode cX10_of 49 = .ok (.aload_n 3, 1) := by decide +kernel
theorem dX10_of_50 : decode cX10_of 50 = .ok (.getfield 138, 3) := by decide +kernel
theorem dX10_of_53 : decode cX10_of 53 = .ok (.invokevirtual 283, 3) := by decide +kernel
theorem dX10_of_56 : decode cX10_of 56 = .ok (.ireturn, 1) := by decide +kernel
theorem dX10_of_57 : decode cX10_of 57 = .ok (.aload_n 3, 1) := by decide +kernel
theorem dX10_of_58 : decode cX10_of 58 = .ok (.getfield 138, 3) := by decide +kernel
theorem dX10_of_61 : decode cX10_of 61 = .ok (.invokevirtual 286, 3) := by decide +kernel
theorem dX10_of_64 : decode cX10_of 64 = .ok (.ireturn, 1) := by decide +kernel
theorem dX10_of_65 : decode cX10_of 65 = .ok (.aload_n 3, 1) := by decide +kernel
theorem dX10_of_66 : decode cX10_of 66 = .ok (.getfield 172, 3) := by decide +kernel
theorem dX10_of_69 : decode cX10_of 69 = .ok (.aload_n 0, 1) := by decide +kernel
theorem dX10_of_70 : decode cX10_of 70 = .ok (.getfield 62, 3) := by decide +kernel
theorem dX10_of_73 : decode cX10_of 73 = .ok (.invokevirtual 181, 3) := by decide +kernel
theorem dX10_of_76 : decode cX10_of 76 = .ok (.ireturn, 1) := by decide +kernel
theorem dX10_of_77 : decode cX10_of 77 = .ok (.aload_n 3, 1) := by decide +kernel
theorem dX10_of_78 : decode cX10_of 78 = .ok (.getfield 138, 3) := by decide +kernel
theorem dX10_of_81 : decode cX10_of 81 = .ok (.invokevirtual 157, 3) := by decide +kernel
theorem dX10_of_84 : decode cX10_of 84 = .ok (.ireturn, 1) := by decide +kernel
theorem dX10_of_85 : decode cX10_of 85 = .ok (.new 72, 3) := by decide +kernel
theorem dX10_of_88 : decode cX10_of 88 = .ok (.dup, 1) := by decide +kernel
theorem dX10_of_89 : decode cX10_of 89 = .ok (.ldc_w 289, 3) := by decide +kernel
theorem dX10_of_92 : decode cX10_of 92 = .ok (.invokespecial 76, 3) := by decide +kernel
theorem dX10_of_95 : decode cX10_of 95 = .ok (.athrow, 1) := by decide +kernel
set_option maxRecDepth 20000 in
theorem ggX10_word_X10_pointAt : GoodIn wsX10_word wsX10_pointAt := goodIn_ca (goodIn_r _ [13, 1, 2, 14, 295, 296, 297, 298, 299, 300, 301, 302, 303, 304] (by decide +kernel) (by decide +kernel)) (goodIn_sub (fun _ h => List.mem_cons_of_mem _ (List.mem_append_right _ h)) (by decide +kernel))
set_option maxRecDepth 20000 in
theorem gX10_word_X10_pointAt : GoodIn wsX10_word (wsV RX10 134 RX10 yX10_pointAt wsX10_pointAt) := goodIn_app (goodIn_of _ (by decide +kernel)) ggX10_word_X10_pointAt
set_option maxRecDepth 20000 in
theorem ggX10_word_X10_needPassedDay : GoodIn wsX10_word wsX10_needPassedDay := goodIn_ca (goodIn_r _ [18, 1, 2, 19, 295, 296, 297, 298, 299, 300, 301, 302, 303, 304] (by decide +kernel) (by decide +kernel)) (goodIn_sub (fun _ h => List.mem_cons_of_mem _ (List.mem_append_right _ h)) (by decide +kernel))
set_option maxRecDepth 20000 in
theorem gX10_word_X10_needPassedDay : GoodIn wsX10_word (wsV RX10 249 RX10 yX10_needPassedDay wsX10_needPassedDay) := goodIn_app (goodIn_of _ (by decide +kernel)) ggX10_word_X10_needPassedDay
set_option maxRecDepth 20000 in
theorem ggX10_word_J4_init_da8c8 : GoodIn wsX10_word wsJ4_init_da8c8 := goodIn_r _ [22, 23, 24, 25, 26, 27, 28, 29, 30, 31, 32, 33, 34, 35, 36, 37, 38, 39, 40, 41, 291, 292, 293, 294] (by decide +kernel) (by decide +kernel)
set_option maxRecDepth 20000 in
theorem gX10_word_J4_init_da8c8 : GoodIn wsX10_word (wsJ4_init_da8c8) := ggX10_word_J4_init_da8c8
set_option maxRecDepth 20000 in
theorem ggX10_word_X4_isSpread : GoodIn wsX10_word wsX4_isSpread := goodIn_r _ [46, 47, 305, 306, 307, 308, 309, 310, 311, 312, 313, 314, 315, 316] (by decide +kernel) (by decide +kernel)
set_option maxRecDepth 20000 in
theorem gX10_word_X4_isSpread : GoodIn wsX10_word (wsV RX10 296 RX4 yX4_isSpread wsX4_isSpread) := goodIn_app (goodIn_of _ (by decide +kernel)) ggX10_word_X4_isSpread
set_option maxRecDepth 20000 in
theorem ggX10_word_J4_append_cf468 : GoodIn wsX10_word wsJ4_append_cf468 := goodIn_r _ [51, 52, 53, 54, 55, 25, 56, 57, 32, 58, 59, 60, 61, 62, 33, 63, 64, 65, 66, 67, 68, 69, 70, 71, 72, 73, 74, 75, 76, 77, 78, 79, 80, 81, 82, 83, 84, 85, 86, 87, 88, 89, 90, 31, 91, 92, 93, 94, 95, 96, 97, 98, 99, 100, 101, 102, 30, 103, 104, 105, 106, 107, 108, 109, 110, 111, 34, 35, 36, 37, 38, 39, 40, 41, 112, 113, 114, 115, 116, 117, 118, 119, 120, 121, 122, 123, 124, 125, 126, 127, 128, 129, 130, 131, 132, 133, 134, 135, 136, 137, 138, 139, 140, 141, 142, 143, 144, 145, 146, 147, 148, 149, 150, 291, 292, 293, 294] (by decide +kernel) (by decide +kernel)
set_option maxRecDepth 20000 in
theorem gX10_word_J4_append_cf468 : GoodIn wsX10_word (wsV RX10 299 RJ4 yJ4_append_cf468 wsJ4_append_cf468) := goodIn_app (goodIn_of _ (by decide +kernel)) ggX10_word_J4_append_cf468
set_option maxRecDepth 20000 in
theorem ggX10_word_X4_unitsOf : GoodIn wsX10_word wsX4_unitsOf := goodIn_r _ [154, 155, 156, 157, 43, 44, 45, 46, 47, 158, 159, 160, 161, 162, 163, 164, 165, 166, 167, 168, 169, 170, 171, 172, 173, 174, 175, 176, 177, 178, 179, 180, 305, 306, 307, 308, 309, 310, 311, 312, 313, 314, 315, 316, 317, 318] (by decide +kernel) (by decide +kernel)
set_option maxRecDepth 20000 in
theorem gX10_word_X4_unitsOf : GoodIn wsX10_word (wsV RX10 211 RX4 yX4_unitsOf wsX4_unitsOf) := goodIn_app (goodIn_of _ (by decide +kernel)) ggX10_word_X4_unitsOf
set_option maxRecDepth 20000 in
theorem ggX10_word_J4_append_bf812 : GoodIn wsX10_word wsJ4_append_bf812 := goodIn_r _ [184, 185, 186, 54, 187, 25, 188, 57, 32, 189, 190, 191, 192, 58, 59, 60, 61, 62, 33, 63, 64, 65, 66, 67, 68, 69, 70, 71, 72, 73, 74, 75, 76, 77, 78, 79, 80, 81, 82, 83, 84, 85, 86, 87, 88, 89, 90, 31, 91, 92, 93, 94, 95, 96, 97, 98, 99, 100, 101, 102, 30, 193, 194, 195, 196, 197, 198, 199, 36, 200, 136, 201, 202, 203, 121, 122, 123, 204, 205, 126, 206, 128, 207, 208, 131, 209, 210, 211, 212, 213, 214, 133, 134, 135, 137, 138, 291, 292, 293, 294] (by decide +kernel) (by decide +kernel)
set_option maxRecDepth 20000 in
theorem gX10_word_J4_append_bf812 : GoodIn wsX10_word (wsV RX10 303 RJ4 yJ4_append_bf812 wsJ4_append_bf812) := goodIn_app (goodIn_of _ (by decide +kernel)) ggX10_word_J4_append_bf812
set_option maxRecDepth 20000 in
theorem ggX10_word_J4_append_15ec4 : GoodIn wsX10_word wsJ4_append_15ec4 := goodIn_r _ [218, 219, 220, 54, 221, 25, 222, 57, 223, 224, 225, 226, 227, 32, 58, 59, 60, 61, 62, 33, 63, 64, 65, 66, 67, 68, 69, 70, 71, 72, 73, 74, 75, 76, 77, 78, 79, 80, 81, 82, 83, 84, 85, 86, 87, 88, 89, 90, 31, 91, 92, 93, 94, 95, 96, 97, 98, 99, 100, 101, 102, 30, 228, 229, 36, 230, 136, 201, 202, 203, 121, 122, 123, 204, 205, 126, 206, 128, 207, 208, 131, 209, 133, 134, 135, 137, 138, 231, 232, 233, 234, 235, 236, 237, 238, 239, 240, 241, 242, 243, 244, 245, 246, 247, 248, 249, 250, 251, 252, 107, 108, 109, 110, 111, 34, 35, 37, 38, 39, 40, 41, 112, 113, 105, 114, 115, 116, 117, 118, 119, 120, 124, 125, 127, 129, 130, 132, 253, 254, 255, 256, 257, 258, 291, 292, 293, 294] (by decide +kernel) (by decide +kernel)
set_option maxRecDepth 20000 in
theorem gX10_word_J4_append_15ec4 : GoodIn wsX10_word (wsV RX10 308 RJ4 yJ4_append_15ec4 wsJ4_append_15ec4) := goodIn_app (goodIn_of _ (by decide +kernel)) ggX10_word_J4_append_15ec4
set_option maxRecDepth 20000 in
theorem ggX10_word_X8_holderOn : GoodIn wsX10_word wsX8_holderOn := goodIn_r _ [263, 264, 265, 159, 160, 161, 162, 163, 319, 320, 321, 322, 317] (by decide +kernel) (by decide +kernel)
set_option maxRecDepth 20000 in
theorem gX10_word_X8_holderOn : GoodIn wsX10_word (wsV RX10 181 RX8 yX8_holderOn wsX8_holderOn) := goodIn_app (goodIn_of _ (by decide +kernel)) ggX10_word_X8_holderOn
set_option maxRecDepth 20000 in
theorem ggX10_word_J4_length_8abf5 : GoodIn wsX10_word wsJ4_length_8abf5 := goodIn_r _ [269, 270, 271, 54, 272, 25, 273, 57, 291, 292, 293, 294] (by decide +kernel) (by decide +kernel)
set_option maxRecDepth 20000 in
theorem gX10_word_J4_length_8abf5 : GoodIn wsX10_word (wsV RX10 311 RJ4 yJ4_length_8abf5 wsJ4_length_8abf5) := goodIn_app (goodIn_of _ (by decide +kernel)) ggX10_word_J4_length_8abf5
set_option maxRecDepth 20000 in
theorem ggX10_word_J4_charAt_5068e : GoodIn wsX10_word wsJ4_charAt_5068e := goodIn_r _ [277, 278, 279, 54, 280, 25, 281, 33, 32, 57, 282, 92, 75, 93, 283, 146, 126, 147, 128, 148, 149, 131, 150, 284, 285, 36, 286, 136, 137, 138, 121, 122, 123, 291, 292, 293, 294] (by decide +kernel) (by decide +kernel)
set_option maxRecDepth 20000 in
theorem gX10_word_J4_charAt_5068e : GoodIn wsX10_word (wsV RX10 314 RJ4 yJ4_charAt_5068e wsJ4_charAt_5068e) := goodIn_app (goodIn_of _ (by decide +kernel)) ggX10_word_J4_charAt_5068e
theorem dX10_word_0 : decode cX10_word 0 = .ok (.aload_n 0, 1) := by decide +kernel
theorem dX10_word_1 : decode cX10_word 1 = .ok (.iload_n 1, 1) := by decide +kernel
theorem dX10_word_2 : decode cX10_word 2 = .ok (.invokevirtual 134, 3) := by decide +kernel
theorem dX10_word_5 : decode cX10_word 5 = .ok (.astore 4, 2) := by decide +kernel
theorem dX10_word_7 : decode cX10_word 7 = .ok (.aload_n 0, 1) := by decide +kernel
theorem dX10_word_8 : decode cX10_word 8 = .ok (.aload 4, 2) := by decide +kernel
theorem dX10_word_10 : decode cX10_word 10 = .ok (.getfield 208, 3) := by decide +kernel
theorem dX10_word_13 : decode cX10_word 13 = .ok (.iload_n 2, 1) := by decide +kernel
theorem dX10_word_14 : decode cX10_word 14 = .ok (.invokevirtual 249, 3) := by decide +kernel
theorem dX10_word_17 : decode cX10_word 17 = .ok (.iload_n 3, 1) := by decide +kernel
theorem dX10_word_18 : decode cX10_word 18 = .ok (.ifCond .ge 14, 3) := by decide +kernel
theorem dX10_word_21 : decode cX10_word 21 = .ok (.new 113, 3) := by decide +kernel
theorem dX10_word_24 : decode cX10_word 24 = .ok (.dup, 1) := by decide +kernel
theorem dX10_word_25 : decode cX10_word 25 = .ok (.ldc_w 291, 3) := by decide +kernel
theorem dX10_word_28 : decode cX10_word 28 = .ok (.invokespecial 117, 3) := by decide +kernel
theorem dX10_word_31 : decode cX10_word 31 = .ok (.athrow, 1) := by decide +kernel
theorem dX10_word_32 : decode cX10_word 32 = .ok (.new 293, 3) := by decide +kernel
theorem dX10_word_35 : decode cX10_word 35 = .ok (.dup, 1) := by decide +kernel
theorem dX10_word_36 : decode cX10_word 36 = .ok (.invokespecial 295, 3) := by decide +kernel
theorem dX10_word_39 : decode cX10_word 39 = .ok (.astore 5, 2) := by decide +kernel
theorem dX10_word_41 : decode cX10_word 41 = .ok (.aload 5, 2) := by decide +kernel
theorem dX10_word_43 : decode cX10_word 43 = .ok (.aload 4, 2) := by decide +kernel
theorem dX10_word_45 : decode cX10_word 45 = .ok (.getfield 138, 3) := by decide +kernel
theorem dX10_word_48 : decode cX10_word 48 = .ok (.iload_n 2, 1) := by decide +kernel
theorem dX10_word_49 : decode cX10_word 49 = .ok (.invokevirtual 296, 3) := by decide +kernel
theorem dX10_word_52 : decode cX10_word 52 = .ok (.ifCond .eq 8, 3) := by decide +kernel
theorem dX10_word_55 : decode cX10_word 55 = .ok (.bipush 109, 2) := by decide +kernel
theorem dX10_word_57 : decode cX10_word 57 = .ok (.goto 5, 3) := by decide +kernel
theorem dX10_word_60 : decode cX10_word 60 = .ok (.bipush 101, 2) := by decide +kernel
theorem dX10_word_62 : decode cX10_word 62 = .ok (.invokevirtual 299, 3) := by decide +kernel
theorem dX10_word_65 : decode cX10_word 65 = .ok (.pop, 1) := by decide +kernel
theorem dX10_word_66 : decode cX10_word 66 = .ok (.aload 5, 2) := by decide +kernel
theorem dX10_word_68 : decode cX10_word 68 = .ok (.aload 4, 2) := by decide +kernel
theorem dX10_word_70 : decode cX10_word 70 = .ok (.getfield 138, 3) := by decide +kernel
theorem dX10_word_73 : decode cX10_word 73 = .ok (.iload_n 2, 1) := by decide +kernel
theorem dX10_word_74 : decode cX10_word 74 = .ok (.invokevirtual 211, 3) := by decide +kernel
theorem dX10_word_77 : decode cX10_word 77 = .ok (.l2i, 1) := by decide +kernel
theorem dX10_word_78 : decode cX10_word 78 = .ok (.invokevirtual 303, 3) := by decide +kernel
theorem dX10_word_81 : decode cX10_word 81 = .ok (.pop, 1) := by decide +kernel
theorem dX10_word_82 : decode cX10_word 82 = .ok (.aload 5, 2) := by decide +kernel
theorem dX10_word_84 : decode cX10_word 84 = .ok (.ldc_w 306, 3) := by decide +kernel
theorem dX10_word_87 : decode cX10_word 87 = .ok (.invokevirtual 308, 3) := by decide +kernel
theorem dX10_word_90 : decode cX10_word 90 = .ok (.pop, 1) := by decide +kernel
theorem dX10_word_91 : decode cX10_word 91 = .ok (.aload 5, 2) := by decide +kernel
theorem dX10_word_93 : decode cX10_word 93 = .ok (.aload 4, 2) := by decide +kernel
theorem dX10_word_95 : decode cX10_word 95 = .ok (.getfield 172, 3) := by decide +kernel
theorem dX10_word_98 : decode cX10_word 98 = .ok (.iload_n 2, 1) := by decide +kernel
theorem dX10_word_99 : decode cX10_word 99 = .ok (.invokevirtual 181, 3) := by decide +kernel
theorem dX10_word_102 : decode cX10_word 102 = .ok (.invokevirtual 303, 3) := by decide +kernel
theorem dX10_word_105 : decode cX10_word 105 = .ok (.pop, 1) := by decide +kernel
theorem dX10_word_106 : decode cX10_word 106 = .ok (.iload_n 3, 1) := by decide +kernel
theorem dX10_word_107 : decode cX10_word 107 = .ok (.aload 5, 2) := by decide +kernel
theorem dX10_word_109 : decode cX10_word 109 = .ok (.invokevirtual 311, 3) := by decide +kernel
theorem dX10_word_112 : decode cX10_word 112 = .ok (.if_icmp .ge 12, 3) := by decide +kernel
theorem dX10_word_115 : decode cX10_word 115 = .ok (.aload 5, 2) := by decide +kernel
theorem dX10_word_117 : decode cX10_word 117 = .ok (.iload_n 3, 1) := by decide +kernel
theorem dX10_word_118 : decode cX10_word 118 = .ok (.invokevirtual 314, 3) := by decide +kernel
theorem dX10_word_121 : decode cX10_word 121 = .ok (.goto 5, 3) := by decide +kernel
theorem dX10_word_124 : decode cX10_word 124 = .ok (.bipush 32, 2) := by decide +kernel
theorem dX10_word_126 : decode cX10_word 126 = .ok (.ireturn, 1) := by decide +kernel
theorem dX10_pointAt_0 : decode cX10_pointAt 0 = .ok (.iload_n 1, 1) := by decide +kernel
theorem dX10_pointAt_1 : decode cX10_pointAt 1 = .ok (.ifCond .lt 21, 3) := by decide +kernel
theorem dX10_pointAt_4 : decode cX10_pointAt 4 = .ok (.iload_n 1, 1) := by decide +kernel
theorem dX10_pointAt_5 : decode cX10_pointAt 5 = .ok (.aload_n 0, 1) := by decide +kernel
theorem dX10_pointAt_6 : decode cX10_pointAt 6 = .ok (.getfield 51, 3) := by decide +kernel
theorem dX10_pointAt_9 : decode cX10_pointAt 9 = .ok (.arraylength, 1) := by decide +kernel
theorem dX10_pointAt_10 : decode cX10_pointAt 10 = .ok (.if_icmp .ge 12, 3) := by decide +kernel
theorem dX10_pointAt_13 : decode cX10_pointAt 13 = .ok (.aload_n 0, 1) := by decide +kernel
theorem dX10_pointAt_14 : decode cX10_pointAt 14 = .ok (.getfield 51, 3) := by decide +kernel
theorem dX10_pointAt_17 : decode cX10_pointAt 17 = .ok (.iload_n 1, 1) := by decide +kernel
theorem dX10_pointAt_18 : decode cX10_pointAt 18 = .ok (.aaload, 1) := by decide +kernel
theorem dX10_pointAt_19 : decode cX10_pointAt 19 = .ok (.goto 4, 3) := by decide +kernel
theorem dX10_pointAt_22 : decode cX10_pointAt 22 = .ok (.aconst_null, 1) := by decide +kernel
theorem dX10_pointAt_23 : decode cX10_pointAt 23 = .ok (.astore_n 2, 1) := by decide +kernel
theorem dX10_pointAt_24 : decode cX10_pointAt 24 = .ok (.aload_n 2, 1) := by decide +kernel
theorem dX10_pointAt_25 : decode cX10_pointAt 25 = .ok (.ifnonnull 14, 3) := by decide +kernel
theorem dX10_pointAt_28 : decode cX10_pointAt 28 = .ok (.new 113, 3) := by decide +kernel
theorem dX10_pointAt_31 : decode cX10_pointAt 31 = .ok (.dup, 1) := by decide +kernel
theorem dX10_pointAt_32 : decode cX10_pointAt 32 = .ok (.ldc_w 318, 3) := by decide +kernel
theorem dX10_pointAt_35 : decode cX10_pointAt 35 = .ok (.invokespecial 117, 3) := by decide +kernel
theorem dX10_pointAt_38 : decode cX10_pointAt 38 = .ok (.athrow, 1) := by decide +kernel
theorem dX10_pointAt_39 : decode cX10_pointAt 39 = .ok (.aload_n 2, 1) := by decide +kernel
theorem dX10_pointAt_40 : decode cX10_pointAt 40 = .ok (.areturn, 1) := by decide +kernel
theorem dX10_needSupplier_0 : decode cX10_needSupplier 0 = .ok (.iload_n 1, 1) := by decide +kernel
theorem dX10_needSupplier_1 : decode cX10_needSupplier 1 = .ok (.ifCond .lt 8, 3) := by decide +kernel
theorem dX10_needSupplier_4 : decode cX10_needSupplier 4 = .ok (.iload_n 1, 1) := by decide +kernel
theorem dX10_needSupplier_5 : decode cX10_needSupplier 5 = .ok (.iconst 4, 1) := by decide +kernel
theorem dX10_needSupplier_6 : decode cX10_needSupplier 6 = .ok (.if_icmp .lt 14, 3) := by decide +kernel
theorem dX10_needSupplier_9 : decode cX10_needSupplier 9 = .ok (.new 113, 3) := by decide +kernel
theorem dX10_needSupplier_12 : decode cX10_needSupplier 12 = .ok (.dup, 1) := by decide +kernel
theorem dX10_needSupplier_13 : decode cX10_needSupplier 13 = .ok (.ldc_w 320, 3) := by decide +kernel
theorem dX10_needSupplier_16 : decode cX10_needSupplier 16 = .ok (.invokespecial 117, 3) := by decide +kernel
theorem dX10_needSupplier_19 : decode cX10_needSupplier 19 = .ok (.athrow, 1) := by decide +kernel
theorem dX10_needSupplier_20 : decode cX10_needSupplier 20 = .ok (.return_, 1) := by decide +kernel
theorem dX10_needPassedDay_0 : decode cX10_needPassedDay 0 = .ok (.iload_n 2, 1) := by decide +kernel
theorem dX10_needPassedDay_1 : decode cX10_needPassedDay 1 = .ok (.iload_n 1, 1) := by decide +kernel
theorem dX10_needPassedDay_2 : decode cX10_needPassedDay 2 = .ok (.if_icmp .lt 11, 3) := by decide +kernel
theorem dX10_needPassedDay_5 : decode cX10_needPassedDay 5 = .ok (.iload_n 2, 1) := by decide +kernel
theorem dX10_needPassedDay_6 : decode cX10_needPassedDay 6 = .ok (.aload_n 0, 1) := by decide +kernel
theorem dX10_needPassedDay_7 : decode cX10_needPassedDay 7 = .ok (.getfield 62, 3) := by decide +kernel
theorem dX10_needPassedDay_10 : decode cX10_needPassedDay 10 = .ok (.if_icmp .lt 14, 3) := by decide +kernel
theorem dX10_needPassedDay_13 : decode cX10_needPassedDay 13 = .ok (.new 113, 3) := by decide +kernel
theorem dX10_needPassedDay_16 : decode cX10_needPassedDay 16 = .ok (.dup, 1) := by decide +kernel
theorem dX10_needPassedDay_17 : decode cX10_needPassedDay 17 = .ok (.ldc_w 322, 3) := by decide +kernel
theorem dX10_needPassedDay_20 : decode cX10_needPassedDay 20 = .ok (.invokespecial 117, 3) := by decide +kernel
theorem dX10_needPassedDay_23 : decode cX10_needPassedDay 23 = .ok (.athrow, 1) := by decide +kernel
theorem dX10_needPassedDay_24 : decode cX10_needPassedDay 24 = .ok (.return_, 1) := by decide +kernel
set_option maxRecDepth 20000 in
theorem ggX10_needNoReadingToday_X4_latestDay : GoodIn wsX10_needNoReadingToday wsX4_latestDay := goodIn_r _ [8, 9, 20, 21, 22, 23, 24, 25, 26, 27, 28, 29, 30, 31] (by decide +kernel) (by decide +kernel)
set_option maxRecDepth 20000 in
theorem gX10_needNoReadingToday_X4_latestDay : GoodIn wsX10_needNoReadingToday (wsV RX10 283 RX4 yX4_latestDay wsX4_latestDay) := goodIn_app (goodIn_of _ (by decide +kernel)) ggX10_needNoReadingToday_X4_latestDay
theorem dX10_needNoReadingToday_0 : decode cX10_needNoReadingToday 0 = .ok (.aload_n 1, 1) := by decide +kernel
theorem dX10_needNoReadingToday_1 : decode cX10_needNoReadingToday 1 = .ok (.invokevirtual 283, 3) := by decide +kernel
theorem dX10_needNoReadingToday_4 : decode cX10_needNoReadingToday 4 = .ok (.aload_n 0, 1) := by decide +kernel
theorem dX10_needNoReadingToday_5 : decode cX10_needNoReadingToday 5 = .ok (.getfield 62, 3) := by decide +kernel
theorem dX10_needNoReadingToday_8 : decode cX10_needNoReadingToday 8 = .ok (.if_icmp .ne 14, 3) := by decide +kernel
theorem dX10_needNoReadingToday_11 : decode cX10_needNoReadingToday 11 = .ok (.new 90, 3) := by decide +kernel
theorem dX10_needNoReadingToday_14 : decode cX10_needNoReadingToday 14 = .ok (.dup, 1) := by decide +kernel
theorem dX10_needNoReadingToday_15 : decode cX10_needNoReadingToday 15 = .ok (.ldc_w 324, 3) := by decide +kernel
theorem dX10_needNoReadingToday_18 : decode cX10_needNoReadingToday 18 = .ok (.invokespecial 94, 3) := by decide +kernel
theorem dX10_needNoReadingToday_21 : decode cX10_needNoReadingToday 21 = .ok (.athrow, 1) := by decide +kernel
theorem dX10_needNoReadingToday_22 : decode cX10_needNoReadingToday 22 = .ok (.return_, 1) := by decide +kernel
theorem dX10_isWithin_0 : decode cX10_isWithin 0 = .ok (.iload_n 1, 1) := by decide +kernel
theorem dX10_isWithin_1 : decode cX10_isWithin 1 = .ok (.ifCond .lt 12, 3) := by decide +kernel
theorem dX10_isWithin_4 : decode cX10_isWithin 4 = .ok (.iload_n 1, 1) := by decide +kernel
theorem dX10_isWithin_5 : decode cX10_isWithin 5 = .ok (.iload_n 2, 1) := by decide +kernel
theorem dX10_isWithin_6 : decode cX10_isWithin 6 = .ok (.if_icmp .gt 7, 3) := by decide +kernel
theorem dX10_isWithin_9 : decode cX10_isWithin 9 = .ok (.iconst 1, 1) := by decide +kernel
theorem dX10_isWithin_10 : decode cX10_isWithin 10 = .ok (.goto 4, 3) := by decide +kernel
theorem dX10_isWithin_13 : decode cX10_isWithin 13 = .ok (.iconst 0, 1) := by decide +kernel
theorem dX10_isWithin_14 : decode cX10_isWithin 14 = .ok (.ireturn, 1) := by decide +kernel
theorem dX10_isMeter_0 : decode cX10_isMeter 0 = .ok (.iload_n 1, 1) := by decide +kernel
theorem dX10_isMeter_1 : decode cX10_isMeter 1 = .ok (.iconst 3, 1) := by decide +kernel
theorem dX10_isMeter_2 : decode cX10_isMeter 2 = .ok (.if_icmp .lt 24, 3) := by decide +kernel
theorem dX10_isMeter_5 : decode cX10_isMeter 5 = .ok (.iload_n 1, 1) := by decide +kernel
theorem dX10_isMeter_6 : decode cX10_isMeter 6 = .ok (.bipush 6, 2) := by decide +kernel
theorem dX10_isMeter_8 : decode cX10_isMeter 8 = .ok (.if_icmp .gt 18, 3) := by decide +kernel
theorem dX10_isMeter_11 : decode cX10_isMeter 11 = .ok (.iload_n 2, 1) := by decide +kernel
theorem dX10_isMeter_12 : decode cX10_isMeter 12 = .ok (.iconst 1, 1) := by decide +kernel
theorem dX10_isMeter_13 : decode cX10_isMeter 13 = .ok (.if_icmp .lt 13, 3) := by decide +kernel
theorem dX10_isMeter_16 : decode cX10_isMeter 16 = .ok (.iload_n 2, 1) := by decide +kernel
theorem dX10_isMeter_17 : decode cX10_isMeter 17 = .ok (.bipush 10, 2) := by decide +kernel
theorem dX10_isMeter_19 : decode cX10_isMeter 19 = .ok (.if_icmp .gt 7, 3) := by decide +kernel
theorem dX10_isMeter_22 : decode cX10_isMeter 22 = .ok (.iconst 1, 1) := by decide +kernel
theorem dX10_isMeter_23 : decode cX10_isMeter 23 = .ok (.goto 4, 3) := by decide +kernel
theorem dX10_isMeter_26 : decode cX10_isMeter 26 = .ok (.iconst 0, 1) := by decide +kernel
theorem dX10_isMeter_27 : decode cX10_isMeter 27 = .ok (.ireturn, 1) := by decide +kernel
set_option maxRecDepth 20000 in
theorem ggX10_isCodeTaken_X5_get : GoodIn wsX10_isCodeTaken wsX5_get := goodIn_r _ [7, 8, 19] (by decide +kernel) (by decide +kernel)
set_option maxRecDepth 20000 in
theorem gX10_isCodeTaken_X5_get : GoodIn wsX10_isCodeTaken (wsV RX10 246 RX5 yX5_get wsX5_get) := goodIn_app (goodIn_of _ (by decide +kernel)) ggX10_isCodeTaken_X5_get
theorem dX10_isCodeTaken_0 : decode cX10_isCodeTaken 0 = .ok (.iconst 0, 1) := by decide +kernel
theorem dX10_isCodeTaken_1 : decode cX10_isCodeTaken 1 = .ok (.istore_n 2, 1) := by decide +kernel
theorem dX10_isCodeTaken_2 : decode cX10_isCodeTaken 2 = .ok (.iload_n 2, 1) := by decide +kernel
theorem dX10_isCodeTaken_3 : decode cX10_isCodeTaken 3 = .ok (.aload_n 0, 1) := by decide +kernel
theorem dX10_isCodeTaken_4 : decode cX10_isCodeTaken 4 = .ok (.getfield 55, 3) := by decide +kernel
theorem dX10_isCodeTaken_7 : decode cX10_isCodeTaken 7 = .ok (.if_icmp .ge 25, 3) := by decide +kernel
theorem dX10_isCodeTaken_10 : decode cX10_isCodeTaken 10 = .ok (.aload_n 0, 1) := by decide +kernel
theorem dX10_isCodeTaken_11 : decode cX10_isCodeTaken 11 = .ok (.getfield 46, 3) := by decide +kernel
theorem dX10_isCodeTaken_14 : decode cX10_isCodeTaken 14 = .ok (.iload_n 2, 1) := by decide +kernel
theorem dX10_isCodeTaken_15 : decode cX10_isCodeTaken 15 = .ok (.invokevirtual 246, 3) := by decide +kernel
theorem dX10_isCodeTaken_18 : decode cX10_isCodeTaken 18 = .ok (.iload_n 1, 1) := by decide +kernel
theorem dX10_isCodeTaken_19 : decode cX10_isCodeTaken 19 = .ok (.i2l, 1) := by decide +kernel
theorem dX10_isCodeTaken_20 : decode cX10_isCodeTaken 20 = .ok (.lcmp, 1) := by decide +kernel
theorem dX10_isCodeTaken_21 : decode cX10_isCodeTaken 21 = .ok (.ifCond .ne 5, 3) := by decide +kernel
theorem dX10_isCodeTaken_24 : decode cX10_isCodeTaken 24 = .ok (.iconst 1, 1) := by decide +kernel
theorem dX10_isCodeTaken_25 : decode cX10_isCodeTaken 25 = .ok (.ireturn, 1) := by decide +kernel
theorem dX10_isCodeTaken_26 : decode cX10_isCodeTaken 26 = .ok (.iinc 2 1, 3) := by decide +kernel
theorem dX10_isCodeTaken_29 : decode cX10_isCodeTaken 29 = .ok (.goto (-27), 3) := by decide +kernel
theorem dX10_isCodeTaken_32 : decode cX10_isCodeTaken 32 = .ok (.iconst 0, 1) := by decide +kernel
theorem dX10_isCodeTaken_33 : decode cX10_isCodeTaken 33 = .ok (.ireturn, 1) := by decide +kernel
set_option maxRecDepth 20000 in
theorem ggX10_beginNextDay_X9_begin : GoodIn wsX10_beginNextDay wsX9_begin := goodIn_r _ [9, 10, 11, 12, 13, 14, 15, 16, 17, 18, 19, 20, 21, 8, 22, 23, 24, 25, 26, 52, 53, 54, 55] (by decide +kernel) (by decide +kernel)
set_option maxRecDepth 20000 in
theorem gX10_beginNextDay_X9_begin : GoodIn wsX10_beginNextDay (wsV RX10 326 RX9 yX9_begin wsX9_begin) := goodIn_app (goodIn_of _ (by decide +kernel)) ggX10_beginNextDay_X9_begin
set_option maxRecDepth 20000 in
theorem ggX10_beginNextDay_X8_begin : GoodIn wsX10_beginNextDay wsX8_begin := goodIn_r _ [31, 32, 33, 34, 35, 36, 24, 25, 16, 26, 18, 37, 14, 15, 17, 56, 57, 58, 59, 55] (by decide +kernel) (by decide +kernel)
set_option maxRecDepth 20000 in
theorem gX10_beginNextDay_X8_begin : GoodIn wsX10_beginNextDay (wsV RX10 329 RX8 yX8_begin wsX8_begin) := goodIn_app (goodIn_of _ (by decide +kernel)) ggX10_beginNextDay_X8_begin
theorem dX10_beginNextDay_0 : decode cX10_beginNextDay 0 = .ok (.aload_n 0, 1) := by decide +kernel
theorem dX10_beginNextDay_1 : decode cX10_beginNextDay 1 = .ok (.dup, 1) := by decide +kernel
theorem dX10_beginNextDay_2 : decode cX10_beginNextDay 2 = .ok (.getfield 62, 3) := by decide +kernel
theorem dX10_beginNextDay_5 : decode cX10_beginNextDay 5 = .ok (.iconst 1, 1) := by decide +kernel
theorem dX10_beginNextDay_6 : decode cX10_beginNextDay 6 = .ok (.iadd, 1) := by decide +kernel
theorem dX10_beginNextDay_7 : decode cX10_beginNextDay 7 = .ok (.putfield 62, 3) := by decide +kernel
theorem dX10_beginNextDay_10 : decode cX10_beginNextDay 10 = .ok (.aload_n 0, 1) := by decide +kernel
theorem dX10_beginNextDay_11 : decode cX10_beginNextDay 11 = .ok (.getfield 28, 3) := by decide +kernel
theorem dX10_beginNextDay_14 : decode cX10_beginNextDay 14 = .ok (.aload_n 0, 1) := by decide +kernel
theorem dX10_beginNextDay_15 : decode cX10_beginNextDay 15 = .ok (.getfield 62, 3) := by decide +kernel
theorem dX10_beginNextDay_18 : decode cX10_beginNextDay 18 = .ok (.invokevirtual 326, 3) := by decide +kernel
theorem dX10_beginNextDay_21 : decode cX10_beginNextDay 21 = .ok (.iconst 0, 1) := by decide +kernel
theorem dX10_beginNextDay_22 : decode cX10_beginNextDay 22 = .ok (.istore_n 1, 1) := by decide +kernel
theorem dX10_beginNextDay_23 : decode cX10_beginNextDay 23 = .ok (.iload_n 1, 1) := by decide +kernel
theorem dX10_beginNextDay_24 : decode cX10_beginNextDay 24 = .ok (.aload_n 0, 1) := by decide +kernel
theorem dX10_beginNextDay_25 : decode cX10_beginNextDay 25 = .ok (.getfield 51, 3) := by decide +kernel
theorem dX10_beginNextDay_28 : decode cX10_beginNextDay 28 = .ok (.arraylength, 1) := by decide +kernel
theorem dX10_beginNextDay_29 : decode cX10_beginNextDay 29 = .ok (.if_icmp .ge 31, 3) := by decide +kernel
theorem dX10_beginNextDay_32 : decode cX10_beginNextDay 32 = .ok (.aload_n 0, 1) := by decide +kernel
theorem dX10_beginNextDay_33 : decode cX10_beginNextDay 33 = .ok (.getfield 51, 3) := by decide +kernel
theorem dX10_beginNextDay_36 : decode cX10_beginNextDay 36 = .ok (.iload_n 1, 1) := by decide +kernel
theorem dX10_beginNextDay_37 : decode cX10_beginNextDay 37 = .ok (.aaload, 1) := by decide +kernel
theorem dX10_beginNextDay_38 : decode cX10_beginNextDay 38 = .ok (.astore_n 2, 1) := by decide +kernel
theorem dX10_beginNextDay_39 : decode cX10_beginNextDay 39 = .ok (.aload_n 2, 1) := by decide +kernel
theorem dX10_beginNextDay_40 : decode cX10_beginNextDay 40 = .ok (.ifnull 14, 3) := by decide +kernel
theorem dX10_beginNextDay_43 : decode cX10_beginNextDay 43 = .ok (.aload_n 2, 1) := by decide +kernel
theorem dX10_beginNextDay_44 : decode cX10_beginNextDay 44 = .ok (.getfield 172, 3) := by decide +kernel
theorem dX10_beginNextDay_47 : decode cX10_beginNextDay 47 = .ok (.aload_n 0, 1) := by decide +kernel
theorem dX10_beginNextDay_48 : decode cX10_beginNextDay 48 = .ok (.getfield 62, 3) := by decide +kernel
theorem dX10_beginNextDay_51 : decode cX10_beginNextDay 51 = .ok (.invokevirtual 329, 3) := by decide +kernel
theorem dX10_beginNextDay_54 : decode cX10_beginNextDay 54 = .ok (.iinc 1 1, 3) := by decide +kernel
theorem dX10_beginNextDay_57 : decode cX10_beginNextDay 57 = .ok (.goto (-34), 3) := by decide +kernel
theorem dX10_beginNextDay_60 : decode cX10_beginNextDay 60 = .ok (.return_, 1) := by decide +kernel

set_option maxRecDepth 20000 in
theorem ggX0_init_X3_init : GoodIn wsX0_init wsX3_init := goodIn_r _ [11, 12, 2, 3, 13, 14, 15] (by decide +kernel) (by decide +kernel)
set_option maxRecDepth 20000 in
theorem gX0_init_X3_init : GoodIn wsX0_init (wsX3_init) := ggX0_init_X3_init
theorem dX0_init_0 : decode cX0_init 0 = .ok (.aload_n 0, 1) := by decide +kernel
theorem dX0_init_1 : decode cX0_init 1 = .ok (.invokespecial 3, 3) := by decide +kernel
theorem dX0_init_4 : decode cX0_init 4 = .ok (.aload_n 0, 1) := by decide +kernel
theorem dX0_init_5 : decode cX0_init 5 = .ok (.new 9, 3) := by decide +kernel
theorem dX0_init_8 : decode cX0_init 8 = .ok (.dup, 1) := by decide +kernel
theorem dX0_init_9 : decode cX0_init 9 = .ok (.bipush 60, 2) := by decide +kernel
theorem dX0_init_11 : decode cX0_init 11 = .ok (.invokespecial 11, 3) := by decide +kernel
theorem dX0_init_14 : decode cX0_init 14 = .ok (.putfield 14, 3) := by decide +kernel
theorem dX0_init_17 : decode cX0_init 17 = .ok (.aload_n 0, 1) := by decide +kernel
theorem dX0_init_18 : decode cX0_init 18 = .ok (.iconst 0, 1) := by decide +kernel
theorem dX0_init_19 : decode cX0_init 19 = .ok (.putfield 20, 3) := by decide +kernel
theorem dX0_init_22 : decode cX0_init 22 = .ok (.return_, 1) := by decide +kernel
set_option maxRecDepth 20000 in
theorem ggX1_init_X3_init : GoodIn wsX1_init wsX3_init := goodIn_r _ [19, 20, 2, 3, 21, 22, 23] (by decide +kernel) (by decide +kernel)
set_option maxRecDepth 20000 in
theorem gX1_init_X3_init : GoodIn wsX1_init (wsX3_init) := ggX1_init_X3_init
theorem dX1_init_0 : decode cX1_init 0 = .ok (.aload_n 0, 1) := by decide +kernel
theorem dX1_init_1 : decode cX1_init 1 = .ok (.invokespecial 3, 3) := by decide +kernel
theorem dX1_init_4 : decode cX1_init 4 = .ok (.aload_n 0, 1) := by decide +kernel
theorem dX1_init_5 : decode cX1_init 5 = .ok (.new 9, 3) := by decide +kernel
theorem dX1_init_8 : decode cX1_init 8 = .ok (.dup, 1) := by decide +kernel
theorem dX1_init_9 : decode cX1_init 9 = .ok (.bipush 20, 2) := by decide +kernel
theorem dX1_init_11 : decode cX1_init 11 = .ok (.invokespecial 11, 3) := by decide +kernel
theorem dX1_init_14 : decode cX1_init 14 = .ok (.putfield 14, 3) := by decide +kernel
theorem dX1_init_17 : decode cX1_init 17 = .ok (.aload_n 0, 1) := by decide +kernel
theorem dX1_init_18 : decode cX1_init 18 = .ok (.new 9, 3) := by decide +kernel
theorem dX1_init_21 : decode cX1_init 21 = .ok (.dup, 1) := by decide +kernel
theorem dX1_init_22 : decode cX1_init 22 = .ok (.bipush 20, 2) := by decide +kernel
theorem dX1_init_24 : decode cX1_init 24 = .ok (.invokespecial 11, 3) := by decide +kernel
theorem dX1_init_27 : decode cX1_init 27 = .ok (.putfield 20, 3) := by decide +kernel
theorem dX1_init_30 : decode cX1_init 30 = .ok (.aload_n 0, 1) := by decide +kernel
theorem dX1_init_31 : decode cX1_init 31 = .ok (.new 9, 3) := by decide +kernel
theorem dX1_init_34 : decode cX1_init 34 = .ok (.dup, 1) := by decide +kernel
theorem dX1_init_35 : decode cX1_init 35 = .ok (.bipush 6, 2) := by decide +kernel
theorem dX1_init_37 : decode cX1_init 37 = .ok (.invokespecial 11, 3) := by decide +kernel
theorem dX1_init_40 : decode cX1_init 40 = .ok (.putfield 23, 3) := by decide +kernel
theorem dX1_init_43 : decode cX1_init 43 = .ok (.aload_n 0, 1) := by decide +kernel
theorem dX1_init_44 : decode cX1_init 44 = .ok (.new 9, 3) := by decide +kernel
theorem dX1_init_47 : decode cX1_init 47 = .ok (.dup, 1) := by decide +kernel
theorem dX1_init_48 : decode cX1_init 48 = .ok (.bipush 20, 2) := by decide +kernel
theorem dX1_init_50 : decode cX1_init 50 = .ok (.invokespecial 11, 3) := by decide +kernel
theorem dX1_init_53 : decode cX1_init 53 = .ok (.putfield 26, 3) := by decide +kernel
theorem dX1_init_56 : decode cX1_init 56 = .ok (.aload_n 0, 1) := by decide +kernel
theorem dX1_init_57 : decode cX1_init 57 = .ok (.new 9, 3) := by decide +kernel
theorem dX1_init_60 : decode cX1_init 60 = .ok (.dup, 1) := by decide +kernel
theorem dX1_init_61 : decode cX1_init 61 = .ok (.bipush 20, 2) := by decide +kernel
theorem dX1_init_63 : decode cX1_init 63 = .ok (.invokespecial 11, 3) := by decide +kernel
theorem dX1_init_66 : decode cX1_init 66 = .ok (.putfield 29, 3) := by decide +kernel
theorem dX1_init_69 : decode cX1_init 69 = .ok (.aload_n 0, 1) := by decide +kernel
theorem dX1_init_70 : decode cX1_init 70 = .ok (.iconst 0, 1) := by decide +kernel
theorem dX1_init_71 : decode cX1_init 71 = .ok (.putfield 32, 3) := by decide +kernel
theorem dX1_init_74 : decode cX1_init 74 = .ok (.aload_n 0, 1) := by decide +kernel
theorem dX1_init_75 : decode cX1_init 75 = .ok (.iconst 0, 1) := by decide +kernel
theorem dX1_init_76 : decode cX1_init 76 = .ok (.putfield 36, 3) := by decide +kernel
theorem dX1_init_79 : decode cX1_init 79 = .ok (.aload_n 0, 1) := by decide +kernel
theorem dX1_init_80 : decode cX1_init 80 = .ok (.iconst 0, 1) := by decide +kernel
theorem dX1_init_81 : decode cX1_init 81 = .ok (.putfield 39, 3) := by decide +kernel
theorem dX1_init_84 : decode cX1_init 84 = .ok (.aload_n 0, 1) := by decide +kernel
theorem dX1_init_85 : decode cX1_init 85 = .ok (.iconst 0, 1) := by decide +kernel
theorem dX1_init_86 : decode cX1_init 86 = .ok (.putfield 42, 3) := by decide +kernel
theorem dX1_init_89 : decode cX1_init 89 = .ok (.aload_n 0, 1) := by decide +kernel
theorem dX1_init_90 : decode cX1_init 90 = .ok (.iconst 0, 1) := by decide +kernel
theorem dX1_init_91 : decode cX1_init 91 = .ok (.putfield 45, 3) := by decide +kernel
theorem dX1_init_94 : decode cX1_init 94 = .ok (.return_, 1) := by decide +kernel
set_option maxRecDepth 20000 in
theorem ggX1_copyFrom_X3_copyFrom : GoodIn wsX1_copyFrom wsX3_copyFrom := goodIn_r _ [15, 16, 17, 18, 19, 14, 20, 31] (by decide +kernel) (by decide +kernel)
set_option maxRecDepth 20000 in
theorem gX1_copyFrom_X3_copyFrom : GoodIn wsX1_copyFrom (wsV RX1 48 RX3 yX3_copyFrom wsX3_copyFrom) := goodIn_app (goodIn_of _ (by decide +kernel)) ggX1_copyFrom_X3_copyFrom
theorem dX1_copyFrom_0 : decode cX1_copyFrom 0 = .ok (.aload_n 0, 1) := by decide +kernel
theorem dX1_copyFrom_1 : decode cX1_copyFrom 1 = .ok (.getfield 14, 3) := by decide +kernel
theorem dX1_copyFrom_4 : decode cX1_copyFrom 4 = .ok (.aload_n 1, 1) := by decide +kernel
theorem dX1_copyFrom_5 : decode cX1_copyFrom 5 = .ok (.getfield 14, 3) := by decide +kernel
theorem dX1_copyFrom_8 : decode cX1_copyFrom 8 = .ok (.invokevirtual 48, 3) := by decide +kernel
theorem dX1_copyFrom_11 : decode cX1_copyFrom 11 = .ok (.aload_n 0, 1) := by decide +kernel
theorem dX1_copyFrom_12 : decode cX1_copyFrom 12 = .ok (.getfield 20, 3) := by decide +kernel
theorem dX1_copyFrom_15 : decode cX1_copyFrom 15 = .ok (.aload_n 1, 1) := by decide +kernel
theorem dX1_copyFrom_16 : decode cX1_copyFrom 16 = .ok (.getfield 20, 3) := by decide +kernel
theorem dX1_copyFrom_19 : decode cX1_copyFrom 19 = .ok (.invokevirtual 48, 3) := by decide +kernel
theorem dX1_copyFrom_22 : decode cX1_copyFrom 22 = .ok (.aload_n 0, 1) := by decide +kernel
theorem dX1_copyFrom_23 : decode cX1_copyFrom 23 = .ok (.getfield 23, 3) := by decide +kernel
theorem dX1_copyFrom_26 : decode cX1_copyFrom 26 = .ok (.aload_n 1, 1) := by decide +kernel
theorem dX1_copyFrom_27 : decode cX1_copyFrom 27 = .ok (.getfield 23, 3) := by decide +kernel
theorem dX1_copyFrom_30 : decode cX1_copyFrom 30 = .ok (.invokevirtual 48, 3) := by decide +kernel
theorem dX1_copyFrom_33 : decode cX1_copyFrom 33 = .ok (.aload_n 0, 1) := by decide +kernel
theorem dX1_copyFrom_34 : decode cX1_copyFrom 34 = .ok (.getfield 26, 3) := by decide +kernel
theorem dX1_copyFrom_37 : decode cX1_copyFrom 37 = .ok (.aload_n 1, 1) := by decide +kernel
theorem dX1_copyFrom_38 : decode cX1_copyFrom 38 = .ok (.getfield 26, 3) := by decide +kernel
theorem dX1_copyFrom_41 : decode cX1_copyFrom 41 = .ok (.invokevirtual 48, 3) := by decide +kernel
theorem dX1_copyFrom_44 : decode cX1_copyFrom 44 = .ok (.aload_n 0, 1) := by decide +kernel
theorem dX1_copyFrom_45 : decode cX1_copyFrom 45 = .ok (.getfield 29, 3) := by decide +kernel
theorem dX1_copyFrom_48 : decode cX1_copyFrom 48 = .ok (.aload_n 1, 1) := by decide +kernel
theorem dX1_copyFrom_49 : decode cX1_copyFrom 49 = .ok (.getfield 29, 3) := by decide +kernel
theorem dX1_copyFrom_52 : decode cX1_copyFrom 52 = .ok (.invokevirtual 48, 3) := by decide +kernel
theorem dX1_copyFrom_55 : decode cX1_copyFrom 55 = .ok (.aload_n 0, 1) := by decide +kernel
theorem dX1_copyFrom_56 : decode cX1_copyFrom 56 = .ok (.aload_n 1, 1) := by decide +kernel
theorem dX1_copyFrom_57 : decode cX1_copyFrom 57 = .ok (.getfield 32, 3) := by decide +kernel
theorem dX1_copyFrom_60 : decode cX1_copyFrom 60 = .ok (.putfield 32, 3) := by decide +kernel
theorem dX1_copyFrom_63 : decode cX1_copyFrom 63 = .ok (.aload_n 0, 1) := by decide +kernel
theorem dX1_copyFrom_64 : decode cX1_copyFrom 64 = .ok (.aload_n 1, 1) := by decide +kernel
theorem dX1_copyFrom_65 : decode cX1_copyFrom 65 = .ok (.getfield 36, 3) := by decide +kernel
theorem dX1_copyFrom_68 : decode cX1_copyFrom 68 = .ok (.putfield 36, 3) := by decide +kernel
theorem dX1_copyFrom_71 : decode cX1_copyFrom 71 = .ok (.aload_n 0, 1) := by decide +kernel
theorem dX1_copyFrom_72 : decode cX1_copyFrom 72 = .ok (.aload_n 1, 1) := by decide +kernel
theorem dX1_copyFrom_73 : decode cX1_copyFrom 73 = .ok (.getfield 39, 3) := by decide +kernel
theorem dX1_copyFrom_76 : decode cX1_copyFrom 76 = .ok (.putfield 39, 3) := by decide +kernel
theorem dX1_copyFrom_79 : decode cX1_copyFrom 79 = .ok (.aload_n 0, 1) := by decide +kernel
theorem dX1_copyFrom_80 : decode cX1_copyFrom 80 = .ok (.aload_n 1, 1) := by decide +kernel
theorem dX1_copyFrom_81 : decode cX1_copyFrom 81 = .ok (.getfield 42, 3) := by decide +kernel
theorem dX1_copyFrom_84 : decode cX1_copyFrom 84 = .ok (.putfield 42, 3) := by decide +kernel
theorem dX1_copyFrom_87 : decode cX1_copyFrom 87 = .ok (.aload_n 0, 1) := by decide +kernel
theorem dX1_copyFrom_88 : decode cX1_copyFrom 88 = .ok (.aload_n 1, 1) := by decide +kernel
theorem dX1_copyFrom_89 : decode cX1_copyFrom 89 = .ok (.getfield 45, 3) := by decide +kernel
theorem dX1_copyFrom_92 : decode cX1_copyFrom 92 = .ok (.putfield 45, 3) := by decide +kernel
theorem dX1_copyFrom_95 : decode cX1_copyFrom 95 = .ok (.return_, 1) := by decide +kernel
set_option maxRecDepth 20000 in
theorem ggX1_mayAdd_X1_isHandingOver : GoodIn wsX1_mayAdd wsX1_isHandingOver := goodIn_r _ [6, 7, 8, 9, 10, 11, 12, 13, 14, 15, 16, 17] (by decide +kernel) (by decide +kernel)
set_option maxRecDepth 20000 in
theorem gX1_mayAdd_X1_isHandingOver : GoodIn wsX1_mayAdd (wsV RX1 52 RX1 yX1_isHandingOver wsX1_isHandingOver) := goodIn_app (goodIn_of _ (by decide +kernel)) ggX1_mayAdd_X1_isHandingOver
theorem dX1_mayAdd_0 : decode cX1_mayAdd 0 = .ok (.aload_n 0, 1) := by decide +kernel
theorem dX1_mayAdd_1 : decode cX1_mayAdd 1 = .ok (.invokevirtual 52, 3) := by decide +kernel
theorem dX1_mayAdd_4 : decode cX1_mayAdd 4 = .ok (.ifCond .ne 16, 3) := by decide +kernel
theorem dX1_mayAdd_7 : decode cX1_mayAdd 7 = .ok (.aload_n 0, 1) := by decide +kernel
theorem dX1_mayAdd_8 : decode cX1_mayAdd 8 = .ok (.getfield 32, 3) := by decide +kernel
theorem dX1_mayAdd_11 : decode cX1_mayAdd 11 = .ok (.bipush 20, 2) := by decide +kernel
theorem dX1_mayAdd_13 : decode cX1_mayAdd 13 = .ok (.if_icmp .ge 7, 3) := by decide +kernel
theorem dX1_mayAdd_16 : decode cX1_mayAdd 16 = .ok (.iconst 1, 1) := by decide +kernel
theorem dX1_mayAdd_17 : decode cX1_mayAdd 17 = .ok (.goto 4, 3) := by decide +kernel
theorem dX1_mayAdd_20 : decode cX1_mayAdd 20 = .ok (.iconst 0, 1) := by decide +kernel
theorem dX1_mayAdd_21 : decode cX1_mayAdd 21 = .ok (.ireturn, 1) := by decide +kernel
set_option maxRecDepth 20000 in
theorem ggX1_addOne_X3_put : GoodIn wsX1_addOne wsX3_put := goodIn_r _ [8, 9, 20] (by decide +kernel) (by decide +kernel)
set_option maxRecDepth 20000 in
theorem gX1_addOne_X3_put : GoodIn wsX1_addOne (wsV RX1 56 RX3 yX3_put wsX3_put) := goodIn_app (goodIn_of _ (by decide +kernel)) ggX1_addOne_X3_put
theorem dX1_addOne_0 : decode cX1_addOne 0 = .ok (.aload_n 0, 1) := by decide +kernel
theorem dX1_addOne_1 : decode cX1_addOne 1 = .ok (.getfield 32, 3) := by decide +kernel
theorem dX1_addOne_4 : decode cX1_addOne 4 = .ok (.istore_n 2, 1) := by decide +kernel
theorem dX1_addOne_5 : decode cX1_addOne 5 = .ok (.aload_n 0, 1) := by decide +kernel
theorem dX1_addOne_6 : decode cX1_addOne 6 = .ok (.getfield 14, 3) := by decide +kernel
theorem dX1_addOne_9 : decode cX1_addOne 9 = .ok (.iload_n 2, 1) := by decide +kernel
theorem dX1_addOne_10 : decode cX1_addOne 10 = .ok (.iload_n 1, 1) := by decide +kernel
theorem dX1_addOne_11 : decode cX1_addOne 11 = .ok (.invokevirtual 56, 3) := by decide +kernel
theorem dX1_addOne_14 : decode cX1_addOne 14 = .ok (.aload_n 0, 1) := by decide +kernel
theorem dX1_addOne_15 : decode cX1_addOne 15 = .ok (.getfield 20, 3) := by decide +kernel
theorem dX1_addOne_18 : decode cX1_addOne 18 = .ok (.iload_n 2, 1) := by decide +kernel
theorem dX1_addOne_19 : decode cX1_addOne 19 = .ok (.iconst (-1), 1) := by decide +kernel
theorem dX1_addOne_20 : decode cX1_addOne 20 = .ok (.invokevirtual 56, 3) := by decide +kernel
theorem dX1_addOne_23 : decode cX1_addOne 23 = .ok (.aload_n 0, 1) := by decide +kernel
theorem dX1_addOne_24 : decode cX1_addOne 24 = .ok (.dup, 1) := by decide +kernel
theorem dX1_addOne_25 : decode cX1_addOne 25 = .ok (.getfield 32, 3) := by decide +kernel
theorem dX1_addOne_28 : decode cX1_addOne 28 = .ok (.iconst 1, 1) := by decide +kernel
theorem dX1_addOne_29 : decode cX1_addOne 29 = .ok (.iadd, 1) := by decide +kernel
theorem dX1_addOne_30 : decode cX1_addOne 30 = .ok (.putfield 32, 3) := by decide +kernel
theorem dX1_addOne_33 : decode cX1_addOne 33 = .ok (.iload_n 2, 1) := by decide +kernel
theorem dX1_addOne_34 : decode cX1_addOne 34 = .ok (.ireturn, 1) := by decide +kernel
set_option maxRecDepth 20000 in
theorem ggX1_mayRemove_X1_hasDoorstep : GoodIn wsX1_mayRemove wsX1_hasDoorstep := goodIn_r _ [5, 6, 12, 13, 14, 15, 16, 17, 18, 19, 20, 21] (by decide +kernel) (by decide +kernel)
set_option maxRecDepth 20000 in
theorem gX1_mayRemove_X1_hasDoorstep : GoodIn wsX1_mayRemove (wsV RX1 60 RX1 yX1_hasDoorstep wsX1_hasDoorstep) := goodIn_app (goodIn_of _ (by decide +kernel)) ggX1_mayRemove_X1_hasDoorstep
set_option maxRecDepth 20000 in
theorem ggX1_mayRemove_X1_isHandingOver : GoodIn wsX1_mayRemove wsX1_isHandingOver := goodIn_r _ [10, 11, 12, 13, 14, 15, 16, 17, 18, 19, 20, 21] (by decide +kernel) (by decide +kernel)
set_option maxRecDepth 20000 in
theorem gX1_mayRemove_X1_isHandingOver : GoodIn wsX1_mayRemove (wsV RX1 52 RX1 yX1_isHandingOver wsX1_isHandingOver) := goodIn_app (goodIn_of _ (by decide +kernel)) ggX1_mayRemove_X1_isHandingOver
theorem dX1_mayRemove_0 : decode cX1_mayRemove 0 = .ok (.aload_n 0, 1) := by decide +kernel
theorem dX1_mayRemove_1 : decode cX1_mayRemove 1 = .ok (.iload_n 1, 1) := by decide +kernel
theorem dX1_mayRemove_2 : decode cX1_mayRemove 2 = .ok (.invokevirtual 60, 3) := by decide +kernel
theorem dX1_mayRemove_5 : decode cX1_mayRemove 5 = .ok (.ifCond .eq 14, 3) := by decide +kernel
theorem dX1_mayRemove_8 : decode cX1_mayRemove 8 = .ok (.aload_n 0, 1) := by decide +kernel
theorem dX1_mayRemove_9 : decode cX1_mayRemove 9 = .ok (.invokevirtual 52, 3) := by decide +kernel
theorem dX1_mayRemove_12 : decode cX1_mayRemove 12 = .ok (.ifCond .ne 7, 3) := by decide +kernel
theorem dX1_mayRemove_15 : decode cX1_mayRemove 15 = .ok (.iconst 1, 1) := by decide +kernel
theorem dX1_mayRemove_16 : decode cX1_mayRemove 16 = .ok (.goto 4, 3) := by decide +kernel
theorem dX1_mayRemove_19 : decode cX1_mayRemove 19 = .ok (.iconst 0, 1) := by decide +kernel
theorem dX1_mayRemove_20 : decode cX1_mayRemove 20 = .ok (.ireturn, 1) := by decide +kernel
set_option maxRecDepth 20000 in
theorem ggX1_removeOne_X3_at : GoodIn wsX1_removeOne wsX3_at := goodIn_r _ [8, 9, 24] (by decide +kernel) (by decide +kernel)
set_option maxRecDepth 20000 in
theorem gX1_removeOne_X3_at : GoodIn wsX1_removeOne (wsV RX1 64 RX3 yX3_at wsX3_at) := goodIn_app (goodIn_of _ (by decide +kernel)) ggX1_removeOne_X3_at
set_option maxRecDepth 20000 in
theorem ggX1_removeOne_X3_closeGap : GoodIn wsX1_removeOne wsX3_closeGap := goodIn_r _ [13, 9, 24] (by decide +kernel) (by decide +kernel)
set_option maxRecDepth 20000 in
theorem gX1_removeOne_X3_closeGap : GoodIn wsX1_removeOne (wsV RX1 68 RX3 yX3_closeGap wsX3_closeGap) := goodIn_app (goodIn_of _ (by decide +kernel)) ggX1_removeOne_X3_closeGap
theorem dX1_removeOne_0 : decode cX1_removeOne 0 = .ok (.aload_n 0, 1) := by decide +kernel
theorem dX1_removeOne_1 : decode cX1_removeOne 1 = .ok (.getfield 20, 3) := by decide +kernel
theorem dX1_removeOne_4 : decode cX1_removeOne 4 = .ok (.iload_n 1, 1) := by decide +kernel
theorem dX1_removeOne_5 : decode cX1_removeOne 5 = .ok (.invokevirtual 64, 3) := by decide +kernel
theorem dX1_removeOne_8 : decode cX1_removeOne 8 = .ok (.istore_n 2, 1) := by decide +kernel
theorem dX1_removeOne_9 : decode cX1_removeOne 9 = .ok (.aload_n 0, 1) := by decide +kernel
theorem dX1_removeOne_10 : decode cX1_removeOne 10 = .ok (.getfield 14, 3) := by decide +kernel
theorem dX1_removeOne_13 : decode cX1_removeOne 13 = .ok (.iload_n 1, 1) := by decide +kernel
theorem dX1_removeOne_14 : decode cX1_removeOne 14 = .ok (.invokevirtual 68, 3) := by decide +kernel
theorem dX1_removeOne_17 : decode cX1_removeOne 17 = .ok (.aload_n 0, 1) := by decide +kernel
theorem dX1_removeOne_18 : decode cX1_removeOne 18 = .ok (.getfield 20, 3) := by decide +kernel
theorem dX1_removeOne_21 : decode cX1_removeOne 21 = .ok (.iload_n 1, 1) := by decide +kernel
theorem dX1_removeOne_22 : decode cX1_removeOne 22 = .ok (.invokevirtual 68, 3) := by decide +kernel
theorem dX1_removeOne_25 : decode cX1_removeOne 25 = .ok (.aload_n 0, 1) := by decide +kernel
theorem dX1_removeOne_26 : decode cX1_removeOne 26 = .ok (.dup, 1) := by decide +kernel
theorem dX1_removeOne_27 : decode cX1_removeOne 27 = .ok (.getfield 32, 3) := by decide +kernel
theorem dX1_removeOne_30 : decode cX1_removeOne 30 = .ok (.iconst 1, 1) := by decide +kernel
theorem dX1_removeOne_31 : decode cX1_removeOne 31 = .ok (.isub, 1) := by decide +kernel
theorem dX1_removeOne_32 : decode cX1_removeOne 32 = .ok (.putfield 32, 3) := by decide +kernel
theorem dX1_removeOne_35 : decode cX1_removeOne 35 = .ok (.iload_n 2, 1) := by decide +kernel
theorem dX1_removeOne_36 : decode cX1_removeOne 36 = .ok (.ireturn, 1) := by decide +kernel
set_option maxRecDepth 20000 in
theorem ggX1_changePints_X3_at : GoodIn wsX1_changePints wsX3_at := goodIn_r _ [6, 7, 22] (by decide +kernel) (by decide +kernel)
set_option maxRecDepth 20000 in
theorem gX1_changePints_X3_at : GoodIn wsX1_changePints (wsV RX1 64 RX3 yX3_at wsX3_at) := goodIn_app (goodIn_of _ (by decide +kernel)) ggX1_changePints_X3_at
set_option maxRecDepth 20000 in
theorem ggX1_changePints_X3_put : GoodIn wsX1_changePints wsX3_put := goodIn_r _ [11, 7, 22] (by decide +kernel) (by decide +kernel)
set_option maxRecDepth 20000 in
theorem gX1_changePints_X3_put : GoodIn wsX1_changePints (wsV RX1 56 RX3 yX3_put wsX3_put) := goodIn_app (goodIn_of _ (by decide +kernel)) ggX1_changePints_X3_put
theorem dX1_changePints_0 : decode cX1_changePints 0 = .ok (.aload_n 0, 1) := by decide +kernel
theorem dX1_changePints_1 : decode cX1_changePints 1 = .ok (.getfield 14, 3) := by decide +kernel
theorem dX1_changePints_4 : decode cX1_changePints 4 = .ok (.iload_n 1, 1) := by decide +kernel
theorem dX1_changePints_5 : decode cX1_changePints 5 = .ok (.invokevirtual 64, 3) := by decide +kernel
theorem dX1_changePints_8 : decode cX1_changePints 8 = .ok (.istore_n 3, 1) := by decide +kernel
theorem dX1_changePints_9 : decode cX1_changePints 9 = .ok (.aload_n 0, 1) := by decide +kernel
theorem dX1_changePints_10 : decode cX1_changePints 10 = .ok (.getfield 14, 3) := by decide +kernel
theorem dX1_changePints_13 : decode cX1_changePints 13 = .ok (.iload_n 1, 1) := by decide +kernel
theorem dX1_changePints_14 : decode cX1_changePints 14 = .ok (.iload_n 2, 1) := by decide +kernel
theorem dX1_changePints_15 : decode cX1_changePints 15 = .ok (.invokevirtual 56, 3) := by decide +kernel
theorem dX1_changePints_18 : decode cX1_changePints 18 = .ok (.iload_n 3, 1) := by decide +kernel
theorem dX1_changePints_19 : decode cX1_changePints 19 = .ok (.ireturn, 1) := by decide +kernel
set_option maxRecDepth 20000 in
theorem ggX1_mayCome_X1_isHandingOver : GoodIn wsX1_mayCome wsX1_isHandingOver := goodIn_r _ [5, 6, 18, 19, 20, 21, 22, 23, 24, 25, 26, 27] (by decide +kernel) (by decide +kernel)
set_option maxRecDepth 20000 in
theorem gX1_mayCome_X1_isHandingOver : GoodIn wsX1_mayCome (wsV RX1 52 RX1 yX1_isHandingOver wsX1_isHandingOver) := goodIn_app (goodIn_of _ (by decide +kernel)) ggX1_mayCome_X1_isHandingOver
set_option maxRecDepth 20000 in
theorem ggX1_mayCome_X1_works : GoodIn wsX1_mayCome wsX1_works := goodIn_r _ [10, 11, 12, 13, 14, 15, 16, 17, 18, 19, 20, 21, 22, 23, 24, 25, 26, 27, 28] (by decide +kernel) (by decide +kernel)
set_option maxRecDepth 20000 in
theorem gX1_mayCome_X1_works : GoodIn wsX1_mayCome (wsV RX1 71 RX1 yX1_works wsX1_works) := goodIn_app (goodIn_of _ (by decide +kernel)) ggX1_mayCome_X1_works
theorem dX1_mayCome_0 : decode cX1_mayCome 0 = .ok (.aload_n 0, 1) := by decide +kernel
theorem dX1_mayCome_1 : decode cX1_mayCome 1 = .ok (.invokevirtual 52, 3) := by decide +kernel
theorem dX1_mayCome_4 : decode cX1_mayCome 4 = .ok (.ifCond .ne 15, 3) := by decide +kernel
theorem dX1_mayCome_7 : decode cX1_mayCome 7 = .ok (.aload_n 0, 1) := by decide +kernel
theorem dX1_mayCome_8 : decode cX1_mayCome 8 = .ok (.iload_n 1, 1) := by decide +kernel
theorem dX1_mayCome_9 : decode cX1_mayCome 9 = .ok (.invokevirtual 71, 3) := by decide +kernel
theorem dX1_mayCome_12 : decode cX1_mayCome 12 = .ok (.ifCond .ne 7, 3) := by decide +kernel
theorem dX1_mayCome_15 : decode cX1_mayCome 15 = .ok (.iconst 1, 1) := by decide +kernel
theorem dX1_mayCome_16 : decode cX1_mayCome 16 = .ok (.goto 4, 3) := by decide +kernel
theorem dX1_mayCome_19 : decode cX1_mayCome 19 = .ok (.iconst 0, 1) := by decide +kernel
theorem dX1_mayCome_20 : decode cX1_mayCome 20 = .ok (.ireturn, 1) := by decide +kernel
set_option maxRecDepth 20000 in
theorem ggX1_welcome_X3_put : GoodIn wsX1_welcome wsX3_put := goodIn_r _ [6, 7, 31] (by decide +kernel) (by decide +kernel)
set_option maxRecDepth 20000 in
theorem gX1_welcome_X3_put : GoodIn wsX1_welcome (wsV RX1 56 RX3 yX3_put wsX3_put) := goodIn_app (goodIn_of _ (by decide +kernel)) ggX1_welcome_X3_put
set_option maxRecDepth 20000 in
theorem ggX1_welcome_X1_countAtWork : GoodIn wsX1_welcome wsX1_countAtWork := goodIn_r _ [12, 13, 14, 15, 11, 16, 1, 17, 18, 19, 5, 20, 7, 21, 22, 23, 24, 25, 26, 27, 28, 29, 30, 31] (by decide +kernel) (by decide +kernel)
set_option maxRecDepth 20000 in
theorem gX1_welcome_X1_countAtWork : GoodIn wsX1_welcome (wsV RX1 74 RX1 yX1_countAtWork wsX1_countAtWork) := goodIn_app (goodIn_of _ (by decide +kernel)) ggX1_welcome_X1_countAtWork
theorem dX1_welcome_0 : decode cX1_welcome 0 = .ok (.aload_n 0, 1) := by decide +kernel
theorem dX1_welcome_1 : decode cX1_welcome 1 = .ok (.getfield 23, 3) := by decide +kernel
theorem dX1_welcome_4 : decode cX1_welcome 4 = .ok (.iload_n 1, 1) := by decide +kernel
theorem dX1_welcome_5 : decode cX1_welcome 5 = .ok (.iconst 1, 1) := by decide +kernel
theorem dX1_welcome_6 : decode cX1_welcome 6 = .ok (.invokevirtual 56, 3) := by decide +kernel
theorem dX1_welcome_9 : decode cX1_welcome 9 = .ok (.aload_n 0, 1) := by decide +kernel
theorem dX1_welcome_10 : decode cX1_welcome 10 = .ok (.invokevirtual 74, 3) := by decide +kernel
theorem dX1_welcome_13 : decode cX1_welcome 13 = .ok (.ireturn, 1) := by decide +kernel
set_option maxRecDepth 20000 in
theorem ggX1_mayLeave_X1_isHandingOver : GoodIn wsX1_mayLeave wsX1_isHandingOver := goodIn_r _ [5, 6, 18, 19, 20, 21, 22, 23, 24, 25, 26, 27] (by decide +kernel) (by decide +kernel)
set_option maxRecDepth 20000 in
theorem gX1_mayLeave_X1_isHandingOver : GoodIn wsX1_mayLeave (wsV RX1 52 RX1 yX1_isHandingOver wsX1_isHandingOver) := goodIn_app (goodIn_of _ (by decide +kernel)) ggX1_mayLeave_X1_isHandingOver
set_option maxRecDepth 20000 in
theorem ggX1_mayLeave_X1_works : GoodIn wsX1_mayLeave wsX1_works := goodIn_r _ [10, 11, 12, 13, 14, 15, 16, 17, 18, 19, 20, 21, 22, 23, 24, 25, 26, 27, 28] (by decide +kernel) (by decide +kernel)
set_option maxRecDepth 20000 in
theorem gX1_mayLeave_X1_works : GoodIn wsX1_mayLeave (wsV RX1 71 RX1 yX1_works wsX1_works) := goodIn_app (goodIn_of _ (by decide +kernel)) ggX1_mayLeave_X1_works
theorem dX1_mayLeave_0 : decode cX1_mayLeave 0 = .ok (.aload_n 0, 1) := by decide +kernel
theorem dX1_mayLeave_1 : decode cX1_mayLeave 1 = .ok (.invokevirtual 52, 3) := by decide +kernel
theorem dX1_mayLeave_4 : decode cX1_mayLeave 4 = .ok (.ifCond .ne 15, 3) := by decide +kernel
theorem dX1_mayLeave_7 : decode cX1_mayLeave 7 = .ok (.aload_n 0, 1) := by decide +kernel
theorem dX1_mayLeave_8 : decode cX1_mayLeave 8 = .ok (.iload_n 1, 1) := by decide +kernel
theorem dX1_mayLeave_9 : decode cX1_mayLeave 9 = .ok (.invokevirtual 71, 3) := by decide +kernel
theorem dX1_mayLeave_12 : decode cX1_mayLeave 12 = .ok (.ifCond .eq 7, 3) := by decide +kernel
theorem dX1_mayLeave_15 : decode cX1_mayLeave 15 = .ok (.iconst 1, 1) := by decide +kernel
theorem dX1_mayLeave_16 : decode cX1_mayLeave 16 = .ok (.goto 4, 3) := by decide +kernel
theorem dX1_mayLeave_19 : decode cX1_mayLeave 19 = .ok (.iconst 0, 1) := by decide +kernel
theorem dX1_mayLeave_20 : decode cX1_mayLeave 20 = .ok (.ireturn, 1) := by decide +kernel
set_option maxRecDepth 20000 in
theorem ggX1_dismiss_X3_at : GoodIn wsX1_dismiss wsX3_at := goodIn_r _ [8, 9, 24] (by decide +kernel) (by decide +kernel)
set_option maxRecDepth 20000 in
theorem gX1_dismiss_X3_at : GoodIn wsX1_dismiss (wsV RX1 64 RX3 yX3_at wsX3_at) := goodIn_app (goodIn_of _ (by decide +kernel)) ggX1_dismiss_X3_at
set_option maxRecDepth 20000 in
theorem ggX1_dismiss_X3_put : GoodIn wsX1_dismiss wsX3_put := goodIn_r _ [13, 9, 24] (by decide +kernel) (by decide +kernel)
set_option maxRecDepth 20000 in
theorem gX1_dismiss_X3_put : GoodIn wsX1_dismiss (wsV RX1 56 RX3 yX3_put wsX3_put) := goodIn_app (goodIn_of _ (by decide +kernel)) ggX1_dismiss_X3_put
theorem dX1_dismiss_0 : decode cX1_dismiss 0 = .ok (.iconst 0, 1) := by decide +kernel
theorem dX1_dismiss_1 : decode cX1_dismiss 1 = .ok (.istore_n 2, 1) := by decide +kernel
theorem dX1_dismiss_2 : decode cX1_dismiss 2 = .ok (.iconst 0, 1) := by decide +kernel
theorem dX1_dismiss_3 : decode cX1_dismiss 3 = .ok (.istore_n 3, 1) := by decide +kernel
theorem dX1_dismiss_4 : decode cX1_dismiss 4 = .ok (.iload_n 3, 1) := by decide +kernel
theorem dX1_dismiss_5 : decode cX1_dismiss 5 = .ok (.aload_n 0, 1) := by decide +kernel
theorem dX1_dismiss_6 : decode cX1_dismiss 6 = .ok (.getfield 32, 3) := by decide +kernel
theorem dX1_dismiss_9 : decode cX1_dismiss 9 = .ok (.if_icmp .ge 33, 3) := by decide +kernel
theorem dX1_dismiss_12 : decode cX1_dismiss 12 = .ok (.aload_n 0, 1) := by decide +kernel
theorem dX1_dismiss_13 : decode cX1_dismiss 13 = .ok (.getfield 20, 3) := by decide +kernel
theorem dX1_dismiss_16 : decode cX1_dismiss 16 = .ok (.iload_n 3, 1) := by decide +kernel
theorem dX1_dismiss_17 : decode cX1_dismiss 17 = .ok (.invokevirtual 64, 3) := by decide +kernel
theorem dX1_dismiss_20 : decode cX1_dismiss 20 = .ok (.iload_n 1, 1) := by decide +kernel
theorem dX1_dismiss_21 : decode cX1_dismiss 21 = .ok (.if_icmp .ne 15, 3) := by decide +kernel
theorem dX1_dismiss_24 : decode cX1_dismiss 24 = .ok (.aload_n 0, 1) := by decide +kernel
theorem dX1_dismiss_25 : decode cX1_dismiss 25 = .ok (.getfield 20, 3) := by decide +kernel
theorem dX1_dismiss_28 : decode cX1_dismiss 28 = .ok (.iload_n 3, 1) := by decide +kernel
theorem dX1_dismiss_29 : decode cX1_dismiss 29 = .ok (.iconst (-1), 1) := by decide +kernel
theorem dX1_dismiss_30 : decode cX1_dismiss 30 = .ok (.invokevirtual 56, 3) := by decide +kernel
theorem dX1_dismiss_33 : decode cX1_dismiss 33 = .ok (.iinc 2 1, 3) := by decide +kernel
theorem dX1_dismiss_36 : decode cX1_dismiss 36 = .ok (.iinc 3 1, 3) := by decide +kernel
theorem dX1_dismiss_39 : decode cX1_dismiss 39 = .ok (.goto (-35), 3) := by decide +kernel
theorem dX1_dismiss_42 : decode cX1_dismiss 42 = .ok (.aload_n 0, 1) := by decide +kernel
theorem dX1_dismiss_43 : decode cX1_dismiss 43 = .ok (.getfield 23, 3) := by decide +kernel
theorem dX1_dismiss_46 : decode cX1_dismiss 46 = .ok (.iload_n 1, 1) := by decide +kernel
theorem dX1_dismiss_47 : decode cX1_dismiss 47 = .ok (.iconst 0, 1) := by decide +kernel
theorem dX1_dismiss_48 : decode cX1_dismiss 48 = .ok (.invokevirtual 56, 3) := by decide +kernel
theorem dX1_dismiss_51 : decode cX1_dismiss 51 = .ok (.iload_n 2, 1) := by decide +kernel
theorem dX1_dismiss_52 : decode cX1_dismiss 52 = .ok (.ireturn, 1) := by decide +kernel
theorem dX1_countDoorsteps_0 : decode cX1_countDoorsteps 0 = .ok (.aload_n 0, 1) := by decide +kernel
theorem dX1_countDoorsteps_1 : decode cX1_countDoorsteps 1 = .ok (.getfield 32, 3) := by decide +kernel
theorem dX1_countDoorsteps_4 : decode cX1_countDoorsteps 4 = .ok (.ireturn, 1) := by decide +kernel
theorem dX1_hasDoorstep_0 : decode cX1_hasDoorstep 0 = .ok (.iload_n 1, 1) := by decide +kernel
theorem dX1_hasDoorstep_1 : decode cX1_hasDoorstep 1 = .ok (.ifCond .lt 15, 3) := by decide +kernel
theorem dX1_hasDoorstep_4 : decode cX1_hasDoorstep 4 = .ok (.iload_n 1, 1) := by decide +kernel
theorem dX1_hasDoorstep_5 : decode cX1_hasDoorstep 5 = .ok (.aload_n 0, 1) := by decide +kernel
theorem dX1_hasDoorstep_6 : decode cX1_hasDoorstep 6 = .ok (.getfield 32, 3) := by decide +kernel
theorem dX1_hasDoorstep_9 : decode cX1_hasDoorstep 9 = .ok (.if_icmp .ge 7, 3) := by decide +kernel
theorem dX1_hasDoorstep_12 : decode cX1_hasDoorstep 12 = .ok (.iconst 1, 1) := by decide +kernel
theorem dX1_hasDoorstep_13 : decode cX1_hasDoorstep 13 = .ok (.goto 4, 3) := by decide +kernel
theorem dX1_hasDoorstep_16 : decode cX1_hasDoorstep 16 = .ok (.iconst 0, 1) := by decide +kernel
theorem dX1_hasDoorstep_17 : decode cX1_hasDoorstep 17 = .ok (.ireturn, 1) := by decide +kernel
set_option maxRecDepth 20000 in
theorem ggX1_pintsOf_X3_at : GoodIn wsX1_pintsOf wsX3_at := goodIn_r _ [6, 7, 18] (by decide +kernel) (by decide +kernel)
set_option maxRecDepth 20000 in
theorem gX1_pintsOf_X3_at : GoodIn wsX1_pintsOf (wsV RX1 64 RX3 yX3_at wsX3_at) := goodIn_app (goodIn_of _ (by decide +kernel)) ggX1_pintsOf_X3_at
theorem dX1_pintsOf_0 : decode cX1_pintsOf 0 = .ok (.aload_n 0, 1) := by decide +kernel
theorem dX1_pintsOf_1 : decode cX1_pintsOf 1 = .ok (.getfield 14, 3) := by decide +kernel
theorem dX1_pintsOf_4 : decode cX1_pintsOf 4 = .ok (.iload_n 1, 1) := by decide +kernel
theorem dX1_pintsOf_5 : decode cX1_pintsOf 5 = .ok (.invokevirtual 64, 3) := by decide +kernel
theorem dX1_pintsOf_8 : decode cX1_pintsOf 8 = .ok (.ireturn, 1) := by decide +kernel
set_option maxRecDepth 20000 in
theorem ggX1_ownerOf_X3_at : GoodIn wsX1_ownerOf wsX3_at := goodIn_r _ [6, 7, 18] (by decide +kernel) (by decide +kernel)
set_option maxRecDepth 20000 in
theorem gX1_ownerOf_X3_at : GoodIn wsX1_ownerOf (wsV RX1 64 RX3 yX3_at wsX3_at) := goodIn_app (goodIn_of _ (by decide +kernel)) ggX1_ownerOf_X3_at
theorem dX1_ownerOf_0 : decode cX1_ownerOf 0 = .ok (.aload_n 0, 1) := by decide +kernel
theorem dX1_ownerOf_1 : decode cX1_ownerOf 1 = .ok (.getfield 20, 3) := by decide +kernel
theorem dX1_ownerOf_4 : decode cX1_ownerOf 4 = .ok (.iload_n 1, 1) := by decide +kernel
theorem dX1_ownerOf_5 : decode cX1_ownerOf 5 = .ok (.invokevirtual 64, 3) := by decide +kernel
theorem dX1_ownerOf_8 : decode cX1_ownerOf 8 = .ok (.ireturn, 1) := by decide +kernel
set_option maxRecDepth 20000 in
theorem ggX1_works_X3_at : GoodIn wsX1_works wsX3_at := goodIn_r _ [6, 7, 18] (by decide +kernel) (by decide +kernel)
set_option maxRecDepth 20000 in
theorem gX1_works_X3_at : GoodIn wsX1_works (wsV RX1 64 RX3 yX3_at wsX3_at) := goodIn_app (goodIn_of _ (by decide +kernel)) ggX1_works_X3_at
theorem dX1_works_0 : decode cX1_works 0 = .ok (.aload_n 0, 1) := by decide +kernel
theorem dX1_works_1 : decode cX1_works 1 = .ok (.getfield 23, 3) := by decide +kernel
theorem dX1_works_4 : decode cX1_works 4 = .ok (.iload_n 1, 1) := by decide +kernel
theorem dX1_works_5 : decode cX1_works 5 = .ok (.invokevirtual 64, 3) := by decide +kernel
theorem dX1_works_8 : decode cX1_works 8 = .ok (.iconst 1, 1) := by decide +kernel
theorem dX1_works_9 : decode cX1_works 9 = .ok (.if_icmp .ne 7, 3) := by decide +kernel
theorem dX1_works_12 : decode cX1_works 12 = .ok (.iconst 1, 1) := by decide +kernel
theorem dX1_works_13 : decode cX1_works 13 = .ok (.goto 4, 3) := by decide +kernel
theorem dX1_works_16 : decode cX1_works 16 = .ok (.iconst 0, 1) := by decide +kernel
theorem dX1_works_17 : decode cX1_works 17 = .ok (.ireturn, 1) := by decide +kernel
set_option maxRecDepth 20000 in
theorem ggX1_countAtWork_X1_works : GoodIn wsX1_countAtWork wsX1_works := goodIn_r _ [5, 6, 7, 8, 9, 10, 11, 12, 13, 14, 15, 16, 17, 18, 19, 20, 21, 22, 23] (by decide +kernel) (by decide +kernel)
set_option maxRecDepth 20000 in
theorem gX1_countAtWork_X1_works : GoodIn wsX1_countAtWork (wsV RX1 71 RX1 yX1_works wsX1_works) := goodIn_app (goodIn_of _ (by decide +kernel)) ggX1_countAtWork_X1_works
theorem dX1_countAtWork_0 : decode cX1_countAtWork 0 = .ok (.iconst 0, 1) := by decide +kernel
theorem dX1_countAtWork_1 : decode cX1_countAtWork 1 = .ok (.istore_n 1, 1) := by decide +kernel
theorem dX1_countAtWork_2 : decode cX1_countAtWork 2 = .ok (.iconst 0, 1) := by decide +kernel
theorem dX1_countAtWork_3 : decode cX1_countAtWork 3 = .ok (.istore_n 2, 1) := by decide +kernel
theorem dX1_countAtWork_4 : decode cX1_countAtWork 4 = .ok (.iload_n 2, 1) := by decide +kernel
theorem dX1_countAtWork_5 : decode cX1_countAtWork 5 = .ok (.bipush 6, 2) := by decide +kernel
theorem dX1_countAtWork_7 : decode cX1_countAtWork 7 = .ok (.if_icmp .ge 20, 3) := by decide +kernel
theorem dX1_countAtWork_10 : decode cX1_countAtWork 10 = .ok (.aload_n 0, 1) := by decide +kernel
theorem dX1_countAtWork_11 : decode cX1_countAtWork 11 = .ok (.iload_n 2, 1) := by decide +kernel
theorem dX1_countAtWork_12 : decode cX1_countAtWork 12 = .ok (.invokevirtual 71, 3) := by decide +kernel
theorem dX1_countAtWork_15 : decode cX1_countAtWork 15 = .ok (.ifCond .eq 6, 3) := by decide +kernel
theorem dX1_countAtWork_18 : decode cX1_countAtWork 18 = .ok (.iinc 1 1, 3) := by decide +kernel
theorem dX1_countAtWork_21 : decode cX1_countAtWork 21 = .ok (.iinc 2 1, 3) := by decide +kernel
theorem dX1_countAtWork_24 : decode cX1_countAtWork 24 = .ok (.goto (-20), 3) := by decide +kernel
theorem dX1_countAtWork_27 : decode cX1_countAtWork 27 = .ok (.iload_n 1, 1) := by decide +kernel
theorem dX1_countAtWork_28 : decode cX1_countAtWork 28 = .ok (.ireturn, 1) := by decide +kernel
set_option maxRecDepth 20000 in
theorem ggX1_roundSize_X3_at : GoodIn wsX1_roundSize wsX3_at := goodIn_r _ [7, 8, 19] (by decide +kernel) (by decide +kernel)
set_option maxRecDepth 20000 in
theorem gX1_roundSize_X3_at : GoodIn wsX1_roundSize (wsV RX1 64 RX3 yX3_at wsX3_at) := goodIn_app (goodIn_of _ (by decide +kernel)) ggX1_roundSize_X3_at
theorem dX1_roundSize_0 : decode cX1_roundSize 0 = .ok (.iconst 0, 1) := by decide +kernel
theorem dX1_roundSize_1 : decode cX1_roundSize 1 = .ok (.istore_n 2, 1) := by decide +kernel
theorem dX1_roundSize_2 : decode cX1_roundSize 2 = .ok (.iconst 0, 1) := by decide +kernel
theorem dX1_roundSize_3 : decode cX1_roundSize 3 = .ok (.istore_n 3, 1) := by decide +kernel
theorem dX1_roundSize_4 : decode cX1_roundSize 4 = .ok (.iload_n 3, 1) := by decide +kernel
theorem dX1_roundSize_5 : decode cX1_roundSize 5 = .ok (.aload_n 0, 1) := by decide +kernel
theorem dX1_roundSize_6 : decode cX1_roundSize 6 = .ok (.getfield 32, 3) := by decide +kernel
theorem dX1_roundSize_9 : decode cX1_roundSize 9 = .ok (.if_icmp .ge 24, 3) := by decide +kernel
theorem dX1_roundSize_12 : decode cX1_roundSize 12 = .ok (.aload_n 0, 1) := by decide +kernel
theorem dX1_roundSize_13 : decode cX1_roundSize 13 = .ok (.getfield 20, 3) := by decide +kernel
theorem dX1_roundSize_16 : decode cX1_roundSize 16 = .ok (.iload_n 3, 1) := by decide +kernel
theorem dX1_roundSize_17 : decode cX1_roundSize 17 = .ok (.invokevirtual 64, 3) := by decide +kernel
theorem dX1_roundSize_20 : decode cX1_roundSize 20 = .ok (.iload_n 1, 1) := by decide +kernel
theorem dX1_roundSize_21 : decode cX1_roundSize 21 = .ok (.if_icmp .ne 6, 3) := by decide +kernel
theorem dX1_roundSize_24 : decode cX1_roundSize 24 = .ok (.iinc 2 1, 3) := by decide +kernel
theorem dX1_roundSize_27 : decode cX1_roundSize 27 = .ok (.iinc 3 1, 3) := by decide +kernel
theorem dX1_roundSize_30 : decode cX1_roundSize 30 = .ok (.goto (-26), 3) := by decide +kernel
theorem dX1_roundSize_33 : decode cX1_roundSize 33 = .ok (.iload_n 2, 1) := by decide +kernel
theorem dX1_roundSize_34 : decode cX1_roundSize 34 = .ok (.ireturn, 1) := by decide +kernel
set_option maxRecDepth 20000 in
theorem ggX1_roundLoad_X3_at : GoodIn wsX1_roundLoad wsX3_at := goodIn_r _ [8, 9, 20] (by decide +kernel) (by decide +kernel)
set_option maxRecDepth 20000 in
theorem gX1_roundLoad_X3_at : GoodIn wsX1_roundLoad (wsV RX1 64 RX3 yX3_at wsX3_at) := goodIn_app (goodIn_of _ (by decide +kernel)) ggX1_roundLoad_X3_at
theorem dX1_roundLoad_0 : decode cX1_roundLoad 0 = .ok (.iconst 0, 1) := by decide +kernel
theorem dX1_roundLoad_1 : decode cX1_roundLoad 1 = .ok (.istore_n 2, 1) := by decide +kernel
theorem dX1_roundLoad_2 : decode cX1_roundLoad 2 = .ok (.iconst 0, 1) := by decide +kernel
theorem dX1_roundLoad_3 : decode cX1_roundLoad 3 = .ok (.istore_n 3, 1) := by decide +kernel
theorem dX1_roundLoad_4 : decode cX1_roundLoad 4 = .ok (.iload_n 3, 1) := by decide +kernel
theorem dX1_roundLoad_5 : decode cX1_roundLoad 5 = .ok (.aload_n 0, 1) := by decide +kernel
theorem dX1_roundLoad_6 : decode cX1_roundLoad 6 = .ok (.getfield 32, 3) := by decide +kernel
theorem dX1_roundLoad_9 : decode cX1_roundLoad 9 = .ok (.if_icmp .ge 32, 3) := by decide +kernel
theorem dX1_roundLoad_12 : decode cX1_roundLoad 12 = .ok (.aload_n 0, 1) := by decide +kernel
theorem dX1_roundLoad_13 : decode cX1_roundLoad 13 = .ok (.getfield 20, 3) := by decide +kernel
theorem dX1_roundLoad_16 : decode cX1_roundLoad 16 = .ok (.iload_n 3, 1) := by decide +kernel
theorem dX1_roundLoad_17 : decode cX1_roundLoad 17 = .ok (.invokevirtual 64, 3) := by decide +kernel
theorem dX1_roundLoad_20 : decode cX1_roundLoad 20 = .ok (.iload_n 1, 1) := by decide +kernel
theorem dX1_roundLoad_21 : decode cX1_roundLoad 21 = .ok (.if_icmp .ne 14, 3) := by decide +kernel
theorem dX1_roundLoad_24 : decode cX1_roundLoad 24 = .ok (.iload_n 2, 1) := by decide +kernel
theorem dX1_roundLoad_25 : decode cX1_roundLoad 25 = .ok (.aload_n 0, 1) := by decide +kernel
theorem dX1_roundLoad_26 : decode cX1_roundLoad 26 = .ok (.getfield 14, 3) := by decide +kernel
theorem dX1_roundLoad_29 : decode cX1_roundLoad 29 = .ok (.iload_n 3, 1) := by decide +kernel
theorem dX1_roundLoad_30 : decode cX1_roundLoad 30 = .ok (.invokevirtual 64, 3) := by decide +kernel
theorem dX1_roundLoad_33 : decode cX1_roundLoad 33 = .ok (.iadd, 1) := by decide +kernel
theorem dX1_roundLoad_34 : decode cX1_roundLoad 34 = .ok (.istore_n 2, 1) := by decide +kernel
theorem dX1_roundLoad_35 : decode cX1_roundLoad 35 = .ok (.iinc 3 1, 3) := by decide +kernel
theorem dX1_roundLoad_38 : decode cX1_roundLoad 38 = .ok (.goto (-34), 3) := by decide +kernel
theorem dX1_roundLoad_41 : decode cX1_roundLoad 41 = .ok (.iload_n 2, 1) := by decide +kernel
theorem dX1_roundLoad_42 : decode cX1_roundLoad 42 = .ok (.ireturn, 1) := by decide +kernel
set_option maxRecDepth 20000 in
theorem ggX1_roundDifference_X1_works : GoodIn wsX1_roundDifference wsX1_works := goodIn_r _ [5, 6, 7, 8, 9, 10, 11, 12, 19, 20, 21, 22, 23, 24, 25, 26, 27, 28, 29] (by decide +kernel) (by decide +kernel)
set_option maxRecDepth 20000 in
theorem gX1_roundDifference_X1_works : GoodIn wsX1_roundDifference (wsV RX1 71 RX1 yX1_works wsX1_works) := goodIn_app (goodIn_of _ (by decide +kernel)) ggX1_roundDifference_X1_works
set_option maxRecDepth 20000 in
theorem ggX1_roundDifference_X1_roundSize : GoodIn wsX1_roundDifference wsX1_roundSize := goodIn_r _ [16, 17, 18, 7, 8, 9, 10, 11, 12, 19, 20, 21, 22, 23, 24, 25, 26, 27, 28, 29] (by decide +kernel) (by decide +kernel)
set_option maxRecDepth 20000 in
theorem gX1_roundDifference_X1_roundSize : GoodIn wsX1_roundDifference (wsV RX1 78 RX1 yX1_roundSize wsX1_roundSize) := goodIn_app (goodIn_of _ (by decide +kernel)) ggX1_roundDifference_X1_roundSize
theorem dX1_roundDifference_0 : decode cX1_roundDifference 0 = .ok (.iconst 0, 1) := by decide +kernel
theorem dX1_roundDifference_1 : decode cX1_roundDifference 1 = .ok (.istore_n 1, 1) := by decide +kernel
theorem dX1_roundDifference_2 : decode cX1_roundDifference 2 = .ok (.bipush 20, 2) := by decide +kernel
theorem dX1_roundDifference_4 : decode cX1_roundDifference 4 = .ok (.istore_n 2, 1) := by decide +kernel
theorem dX1_roundDifference_5 : decode cX1_roundDifference 5 = .ok (.iconst 0, 1) := by decide +kernel
theorem dX1_roundDifference_6 : decode cX1_roundDifference 6 = .ok (.istore_n 3, 1) := by decide +kernel
theorem dX1_roundDifference_7 : decode cX1_roundDifference 7 = .ok (.iload_n 3, 1) := by decide +kernel
theorem dX1_roundDifference_8 : decode cX1_roundDifference 8 = .ok (.bipush 6, 2) := by decide +kernel
theorem dX1_roundDifference_10 : decode cX1_roundDifference 10 = .ok (.if_icmp .ge 50, 3) := by decide +kernel
theorem dX1_roundDifference_13 : decode cX1_roundDifference 13 = .ok (.aload_n 0, 1) := by decide +kernel
theorem dX1_roundDifference_14 : decode cX1_roundDifference 14 = .ok (.iload_n 3, 1) := by decide +kernel
theorem dX1_roundDifference_15 : decode cX1_roundDifference 15 = .ok (.invokevirtual 71, 3) := by decide +kernel
theorem dX1_roundDifference_18 : decode cX1_roundDifference 18 = .ok (.ifCond .eq 36, 3) := by decide +kernel
theorem dX1_roundDifference_21 : decode cX1_roundDifference 21 = .ok (.aload_n 0, 1) := by decide +kernel
theorem dX1_roundDifference_22 : decode cX1_roundDifference 22 = .ok (.iload_n 3, 1) := by decide +kernel
theorem dX1_roundDifference_23 : decode cX1_roundDifference 23 = .ok (.invokevirtual 78, 3) := by decide +kernel
theorem dX1_roundDifference_26 : decode cX1_roundDifference 26 = .ok (.istore 4, 2) := by decide +kernel
theorem dX1_roundDifference_28 : decode cX1_roundDifference 28 = .ok (.iload 4, 2) := by decide +kernel
theorem dX1_roundDifference_30 : decode cX1_roundDifference 30 = .ok (.iload_n 1, 1) := by decide +kernel
theorem dX1_roundDifference_31 : decode cX1_roundDifference 31 = .ok (.if_icmp .le 8, 3) := by decide +kernel
theorem dX1_roundDifference_34 : decode cX1_roundDifference 34 = .ok (.iload 4, 2) := by decide +kernel
theorem dX1_roundDifference_36 : decode cX1_roundDifference 36 = .ok (.goto 4, 3) := by decide +kernel
theorem dX1_roundDifference_39 : decode cX1_roundDifference 39 = .ok (.iload_n 1, 1) := by decide +kernel
theorem dX1_roundDifference_40 : decode cX1_roundDifference 40 = .ok (.istore_n 1, 1) := by decide +kernel
theorem dX1_roundDifference_41 : decode cX1_roundDifference 41 = .ok (.iload 4, 2) := by decide +kernel
theorem dX1_roundDifference_43 : decode cX1_roundDifference 43 = .ok (.iload_n 2, 1) := by decide +kernel
theorem dX1_roundDifference_44 : decode cX1_roundDifference 44 = .ok (.if_icmp .ge 8, 3) := by decide +kernel
theorem dX1_roundDifference_47 : decode cX1_roundDifference 47 = .ok (.iload 4, 2) := by decide +kernel
theorem dX1_roundDifference_49 : decode cX1_roundDifference 49 = .ok (.goto 4, 3) := by decide +kernel
theorem dX1_roundDifference_52 : decode cX1_roundDifference 52 = .ok (.iload_n 2, 1) := by decide +kernel
theorem dX1_roundDifference_53 : decode cX1_roundDifference 53 = .ok (.istore_n 2, 1) := by decide +kernel
theorem dX1_roundDifference_54 : decode cX1_roundDifference 54 = .ok (.iinc 3 1, 3) := by decide +kernel
theorem dX1_roundDifference_57 : decode cX1_roundDifference 57 = .ok (.goto (-50), 3) := by decide +kernel
theorem dX1_roundDifference_60 : decode cX1_roundDifference 60 = .ok (.iload_n 1, 1) := by decide +kernel
theorem dX1_roundDifference_61 : decode cX1_roundDifference 61 = .ok (.iload_n 2, 1) := by decide +kernel
theorem dX1_roundDifference_62 : decode cX1_roundDifference 62 = .ok (.if_icmp .le 9, 3) := by decide +kernel
theorem dX1_roundDifference_65 : decode cX1_roundDifference 65 = .ok (.iload_n 1, 1) := by decide +kernel
theorem dX1_roundDifference_66 : decode cX1_roundDifference 66 = .ok (.iload_n 2, 1) := by decide +kernel
theorem dX1_roundDifference_67 : decode cX1_roundDifference 67 = .ok (.isub, 1) := by decide +kernel
theorem dX1_roundDifference_68 : decode cX1_roundDifference 68 = .ok (.goto 4, 3) := by decide +kernel
theorem dX1_roundDifference_71 : decode cX1_roundDifference 71 = .ok (.iconst 0, 1) := by decide +kernel
theorem dX1_roundDifference_72 : decode cX1_roundDifference 72 = .ok (.ireturn, 1) := by decide +kernel
set_option maxRecDepth 20000 in
theorem ggX1_mayPlan_X1_isHandingOver : GoodIn wsX1_mayPlan wsX1_isHandingOver := goodIn_r _ [5, 6, 22, 23, 24, 25, 26, 27, 28, 29, 30, 31] (by decide +kernel) (by decide +kernel)
set_option maxRecDepth 20000 in
theorem gX1_mayPlan_X1_isHandingOver : GoodIn wsX1_mayPlan (wsV RX1 52 RX1 yX1_isHandingOver wsX1_isHandingOver) := goodIn_app (goodIn_of _ (by decide +kernel)) ggX1_mayPlan_X1_isHandingOver
set_option maxRecDepth 20000 in
theorem ggX1_mayPlan_X1_countAtWork : GoodIn wsX1_mayPlan wsX1_countAtWork := goodIn_r _ [10, 11, 12, 13, 4, 14, 15, 16, 17, 18, 19, 20, 21, 22, 23, 24, 25, 26, 27, 28, 29, 30, 31, 32] (by decide +kernel) (by decide +kernel)
set_option maxRecDepth 20000 in
theorem gX1_mayPlan_X1_countAtWork : GoodIn wsX1_mayPlan (wsV RX1 74 RX1 yX1_countAtWork wsX1_countAtWork) := goodIn_app (goodIn_of _ (by decide +kernel)) ggX1_mayPlan_X1_countAtWork
theorem dX1_mayPlan_0 : decode cX1_mayPlan 0 = .ok (.aload_n 0, 1) := by decide +kernel
theorem dX1_mayPlan_1 : decode cX1_mayPlan 1 = .ok (.invokevirtual 52, 3) := by decide +kernel
theorem dX1_mayPlan_4 : decode cX1_mayPlan 4 = .ok (.ifCond .ne 14, 3) := by decide +kernel
theorem dX1_mayPlan_7 : decode cX1_mayPlan 7 = .ok (.aload_n 0, 1) := by decide +kernel
theorem dX1_mayPlan_8 : decode cX1_mayPlan 8 = .ok (.invokevirtual 74, 3) := by decide +kernel
theorem dX1_mayPlan_11 : decode cX1_mayPlan 11 = .ok (.ifCond .le 7, 3) := by decide +kernel
theorem dX1_mayPlan_14 : decode cX1_mayPlan 14 = .ok (.iconst 1, 1) := by decide +kernel
theorem dX1_mayPlan_15 : decode cX1_mayPlan 15 = .ok (.goto 4, 3) := by decide +kernel
theorem dX1_mayPlan_18 : decode cX1_mayPlan 18 = .ok (.iconst 0, 1) := by decide +kernel
theorem dX1_mayPlan_19 : decode cX1_mayPlan 19 = .ok (.ireturn, 1) := by decide +kernel
theorem dX1_isHandingOver_0 : decode cX1_isHandingOver 0 = .ok (.aload_n 0, 1) := by decide +kernel
theorem dX1_isHandingOver_1 : decode cX1_isHandingOver 1 = .ok (.getfield 36, 3) := by decide +kernel
theorem dX1_isHandingOver_4 : decode cX1_isHandingOver 4 = .ok (.ifCond .eq 7, 3) := by decide +kernel
theorem dX1_isHandingOver_7 : decode cX1_isHandingOver 7 = .ok (.iconst 1, 1) := by decide +kernel
theorem dX1_isHandingOver_8 : decode cX1_isHandingOver 8 = .ok (.goto 4, 3) := by decide +kernel
theorem dX1_isHandingOver_11 : decode cX1_isHandingOver 11 = .ok (.iconst 0, 1) := by decide +kernel
theorem dX1_isHandingOver_12 : decode cX1_isHandingOver 12 = .ok (.ireturn, 1) := by decide +kernel
theorem dX1_nextStep_0 : decode cX1_nextStep 0 = .ok (.aload_n 0, 1) := by decide +kernel
theorem dX1_nextStep_1 : decode cX1_nextStep 1 = .ok (.getfield 36, 3) := by decide +kernel
theorem dX1_nextStep_4 : decode cX1_nextStep 4 = .ok (.ireturn, 1) := by decide +kernel
set_option maxRecDepth 20000 in
theorem ggX1_beginHandover_X4_ownerInPlan : GoodIn wsX1_beginHandover wsX4_ownerInPlan := goodIn_r _ [10, 11, 12, 13, 14, 15, 16, 17, 37, 38, 39, 40, 41, 42, 43] (by decide +kernel) (by decide +kernel)
set_option maxRecDepth 20000 in
theorem gX1_beginHandover_X4_ownerInPlan : GoodIn wsX1_beginHandover (wsV RX1 81 RX4 yX4_ownerInPlan wsX4_ownerInPlan) := goodIn_app (goodIn_of _ (by decide +kernel)) ggX1_beginHandover_X4_ownerInPlan
set_option maxRecDepth 20000 in
theorem ggX1_beginHandover_X3_put : GoodIn wsX1_beginHandover wsX3_put := goodIn_r _ [21, 17, 43] (by decide +kernel) (by decide +kernel)
set_option maxRecDepth 20000 in
theorem gX1_beginHandover_X3_put : GoodIn wsX1_beginHandover (wsV RX1 56 RX3 yX3_put wsX3_put) := goodIn_app (goodIn_of _ (by decide +kernel)) ggX1_beginHandover_X3_put
set_option maxRecDepth 20000 in
theorem ggX1_beginHandover_X3_copyFrom : GoodIn wsX1_beginHandover wsX3_copyFrom := goodIn_r _ [25, 17, 26, 13, 14, 15, 16, 43] (by decide +kernel) (by decide +kernel)
set_option maxRecDepth 20000 in
theorem gX1_beginHandover_X3_copyFrom : GoodIn wsX1_beginHandover (wsV RX1 48 RX3 yX3_copyFrom wsX3_copyFrom) := goodIn_app (goodIn_of _ (by decide +kernel)) ggX1_beginHandover_X3_copyFrom
theorem dX1_beginHandover_0 : decode cX1_beginHandover 0 = .ok (.iconst 0, 1) := by decide +kernel
theorem dX1_beginHandover_1 : decode cX1_beginHandover 1 = .ok (.istore_n 2, 1) := by decide +kernel
theorem dX1_beginHandover_2 : decode cX1_beginHandover 2 = .ok (.iload_n 2, 1) := by decide +kernel
theorem dX1_beginHandover_3 : decode cX1_beginHandover 3 = .ok (.aload_n 0, 1) := by decide +kernel
theorem dX1_beginHandover_4 : decode cX1_beginHandover 4 = .ok (.getfield 32, 3) := by decide +kernel
theorem dX1_beginHandover_7 : decode cX1_beginHandover 7 = .ok (.if_icmp .ge 22, 3) := by decide +kernel
theorem dX1_beginHandover_10 : decode cX1_beginHandover 10 = .ok (.aload_n 0, 1) := by decide +kernel
theorem dX1_beginHandover_11 : decode cX1_beginHandover 11 = .ok (.getfield 26, 3) := by decide +kernel
theorem dX1_beginHandover_14 : decode cX1_beginHandover 14 = .ok (.iload_n 2, 1) := by decide +kernel
theorem dX1_beginHandover_15 : decode cX1_beginHandover 15 = .ok (.aload_n 1, 1) := by decide +kernel
theorem dX1_beginHandover_16 : decode cX1_beginHandover 16 = .ok (.iload_n 2, 1) := by decide +kernel
theorem dX1_beginHandover_17 : decode cX1_beginHandover 17 = .ok (.invokevirtual 81, 3) := by decide +kernel
theorem dX1_beginHandover_20 : decode cX1_beginHandover 20 = .ok (.invokevirtual 56, 3) := by decide +kernel
theorem dX1_beginHandover_23 : decode cX1_beginHandover 23 = .ok (.iinc 2 1, 3) := by decide +kernel
theorem dX1_beginHandover_26 : decode cX1_beginHandover 26 = .ok (.goto (-24), 3) := by decide +kernel
theorem dX1_beginHandover_29 : decode cX1_beginHandover 29 = .ok (.aload_n 0, 1) := by decide +kernel
theorem dX1_beginHandover_30 : decode cX1_beginHandover 30 = .ok (.getfield 29, 3) := by decide +kernel
theorem dX1_beginHandover_33 : decode cX1_beginHandover 33 = .ok (.aload_n 0, 1) := by decide +kernel
theorem dX1_beginHandover_34 : decode cX1_beginHandover 34 = .ok (.getfield 20, 3) := by decide +kernel
theorem dX1_beginHandover_37 : decode cX1_beginHandover 37 = .ok (.invokevirtual 48, 3) := by decide +kernel
theorem dX1_beginHandover_40 : decode cX1_beginHandover 40 = .ok (.aload_n 0, 1) := by decide +kernel
theorem dX1_beginHandover_41 : decode cX1_beginHandover 41 = .ok (.iconst 1, 1) := by decide +kernel
theorem dX1_beginHandover_42 : decode cX1_beginHandover 42 = .ok (.putfield 36, 3) := by decide +kernel
theorem dX1_beginHandover_45 : decode cX1_beginHandover 45 = .ok (.return_, 1) := by decide +kernel
set_option maxRecDepth 20000 in
theorem ggX1_doNextStep_X1_giveUp : GoodIn wsX1_doNextStep wsX1_giveUp := goodIn_r _ [6, 7, 8, 9, 1, 10, 11, 12, 13, 14, 15, 16, 17, 18, 19, 29, 30, 31, 32, 33, 34, 35, 36, 37, 38, 39] (by decide +kernel) (by decide +kernel)
set_option maxRecDepth 20000 in
theorem gX1_doNextStep_X1_giveUp : GoodIn wsX1_doNextStep (wsV RX1 86 RX1 yX1_giveUp wsX1_giveUp) := goodIn_app (goodIn_of _ (by decide +kernel)) ggX1_doNextStep_X1_giveUp
set_option maxRecDepth 20000 in
theorem ggX1_doNextStep_X1_takeOver : GoodIn wsX1_doNextStep wsX1_takeOver := goodIn_r _ [23, 9, 24, 1, 25, 26, 27, 5, 28, 7, 8, 10, 11, 12, 13, 14, 15, 16, 17, 18, 19, 29, 30, 31, 32, 33, 34, 35, 36, 37, 38, 39] (by decide +kernel) (by decide +kernel)
set_option maxRecDepth 20000 in
theorem gX1_doNextStep_X1_takeOver : GoodIn wsX1_doNextStep (wsV RX1 89 RX1 yX1_takeOver wsX1_takeOver) := goodIn_app (goodIn_of _ (by decide +kernel)) ggX1_doNextStep_X1_takeOver
theorem dX1_doNextStep_0 : decode cX1_doNextStep 0 = .ok (.aload_n 0, 1) := by decide +kernel
theorem dX1_doNextStep_1 : decode cX1_doNextStep 1 = .ok (.getfield 36, 3) := by decide +kernel
theorem dX1_doNextStep_4 : decode cX1_doNextStep 4 = .ok (.iconst 1, 1) := by decide +kernel
theorem dX1_doNextStep_5 : decode cX1_doNextStep 5 = .ok (.if_icmp .ne 10, 3) := by decide +kernel
theorem dX1_doNextStep_8 : decode cX1_doNextStep 8 = .ok (.aload_n 0, 1) := by decide +kernel
theorem dX1_doNextStep_9 : decode cX1_doNextStep 9 = .ok (.invokevirtual 86, 3) := by decide +kernel
theorem dX1_doNextStep_12 : decode cX1_doNextStep 12 = .ok (.goto 7, 3) := by decide +kernel
theorem dX1_doNextStep_15 : decode cX1_doNextStep 15 = .ok (.aload_n 0, 1) := by decide +kernel
theorem dX1_doNextStep_16 : decode cX1_doNextStep 16 = .ok (.invokevirtual 89, 3) := by decide +kernel
theorem dX1_doNextStep_19 : decode cX1_doNextStep 19 = .ok (.ireturn, 1) := by decide +kernel
set_option maxRecDepth 20000 in
theorem ggX1_giveUp_X3_at : GoodIn wsX1_giveUp wsX3_at := goodIn_r _ [9, 10, 25] (by decide +kernel) (by decide +kernel)
set_option maxRecDepth 20000 in
theorem gX1_giveUp_X3_at : GoodIn wsX1_giveUp (wsV RX1 64 RX3 yX3_at wsX3_at) := goodIn_app (goodIn_of _ (by decide +kernel)) ggX1_giveUp_X3_at
set_option maxRecDepth 20000 in
theorem ggX1_giveUp_X3_put : GoodIn wsX1_giveUp wsX3_put := goodIn_r _ [14, 10, 25] (by decide +kernel) (by decide +kernel)
set_option maxRecDepth 20000 in
theorem gX1_giveUp_X3_put : GoodIn wsX1_giveUp (wsV RX1 56 RX3 yX3_put wsX3_put) := goodIn_app (goodIn_of _ (by decide +kernel)) ggX1_giveUp_X3_put
theorem dX1_giveUp_0 : decode cX1_giveUp 0 = .ok (.iconst 0, 1) := by decide +kernel
theorem dX1_giveUp_1 : decode cX1_giveUp 1 = .ok (.istore_n 1, 1) := by decide +kernel
theorem dX1_giveUp_2 : decode cX1_giveUp 2 = .ok (.iconst 0, 1) := by decide +kernel
theorem dX1_giveUp_3 : decode cX1_giveUp 3 = .ok (.istore_n 2, 1) := by decide +kernel
theorem dX1_giveUp_4 : decode cX1_giveUp 4 = .ok (.iload_n 2, 1) := by decide +kernel
theorem dX1_giveUp_5 : decode cX1_giveUp 5 = .ok (.aload_n 0, 1) := by decide +kernel
theorem dX1_giveUp_6 : decode cX1_giveUp 6 = .ok (.getfield 32, 3) := by decide +kernel
theorem dX1_giveUp_9 : decode cX1_giveUp 9 = .ok (.if_icmp .ge 47, 3) := by decide +kernel
theorem dX1_giveUp_12 : decode cX1_giveUp 12 = .ok (.aload_n 0, 1) := by decide +kernel
theorem dX1_giveUp_13 : decode cX1_giveUp 13 = .ok (.getfield 20, 3) := by decide +kernel
theorem dX1_giveUp_16 : decode cX1_giveUp 16 = .ok (.iload_n 2, 1) := by decide +kernel
theorem dX1_giveUp_17 : decode cX1_giveUp 17 = .ok (.invokevirtual 64, 3) := by decide +kernel
theorem dX1_giveUp_20 : decode cX1_giveUp 20 = .ok (.istore_n 3, 1) := by decide +kernel
theorem dX1_giveUp_21 : decode cX1_giveUp 21 = .ok (.iload_n 3, 1) := by decide +kernel
theorem dX1_giveUp_22 : decode cX1_giveUp 22 = .ok (.iconst (-1), 1) := by decide +kernel
theorem dX1_giveUp_23 : decode cX1_giveUp 23 = .ok (.if_icmp .eq 27, 3) := by decide +kernel
theorem dX1_giveUp_26 : decode cX1_giveUp 26 = .ok (.iload_n 3, 1) := by decide +kernel
theorem dX1_giveUp_27 : decode cX1_giveUp 27 = .ok (.aload_n 0, 1) := by decide +kernel
theorem dX1_giveUp_28 : decode cX1_giveUp 28 = .ok (.getfield 26, 3) := by decide +kernel
theorem dX1_giveUp_31 : decode cX1_giveUp 31 = .ok (.iload_n 2, 1) := by decide +kernel
theorem dX1_giveUp_32 : decode cX1_giveUp 32 = .ok (.invokevirtual 64, 3) := by decide +kernel
theorem dX1_giveUp_35 : decode cX1_giveUp 35 = .ok (.if_icmp .eq 15, 3) := by decide +kernel
theorem dX1_giveUp_38 : decode cX1_giveUp 38 = .ok (.aload_n 0, 1) := by decide +kernel
theorem dX1_giveUp_39 : decode cX1_giveUp 39 = .ok (.getfield 20, 3) := by decide +kernel
theorem dX1_giveUp_42 : decode cX1_giveUp 42 = .ok (.iload_n 2, 1) := by decide +kernel
theorem dX1_giveUp_43 : decode cX1_giveUp 43 = .ok (.iconst (-1), 1) := by decide +kernel
theorem dX1_giveUp_44 : decode cX1_giveUp 44 = .ok (.invokevirtual 56, 3) := by decide +kernel
theorem dX1_giveUp_47 : decode cX1_giveUp 47 = .ok (.iinc 1 1, 3) := by decide +kernel
theorem dX1_giveUp_50 : decode cX1_giveUp 50 = .ok (.iinc 2 1, 3) := by decide +kernel
theorem dX1_giveUp_53 : decode cX1_giveUp 53 = .ok (.goto (-49), 3) := by decide +kernel
theorem dX1_giveUp_56 : decode cX1_giveUp 56 = .ok (.aload_n 0, 1) := by decide +kernel
theorem dX1_giveUp_57 : decode cX1_giveUp 57 = .ok (.iconst 2, 1) := by decide +kernel
theorem dX1_giveUp_58 : decode cX1_giveUp 58 = .ok (.putfield 36, 3) := by decide +kernel
theorem dX1_giveUp_61 : decode cX1_giveUp 61 = .ok (.iload_n 1, 1) := by decide +kernel
theorem dX1_giveUp_62 : decode cX1_giveUp 62 = .ok (.ireturn, 1) := by decide +kernel
set_option maxRecDepth 20000 in
theorem ggX1_takeOver_X1_moveTo : GoodIn wsX1_takeOver wsX1_moveTo := goodIn_r _ [8, 9, 10, 11, 12, 13, 14, 15, 16, 17, 18, 19, 20, 21, 22, 23, 24, 25, 26, 27, 28, 29, 30, 31] (by decide +kernel) (by decide +kernel)
set_option maxRecDepth 20000 in
theorem gX1_takeOver_X1_moveTo : GoodIn wsX1_takeOver (wsV RX1 92 RX1 yX1_moveTo wsX1_moveTo) := goodIn_app (goodIn_of _ (by decide +kernel)) ggX1_takeOver_X1_moveTo
theorem dX1_takeOver_0 : decode cX1_takeOver 0 = .ok (.aload_n 0, 1) := by decide +kernel
theorem dX1_takeOver_1 : decode cX1_takeOver 1 = .ok (.aload_n 0, 1) := by decide +kernel
theorem dX1_takeOver_2 : decode cX1_takeOver 2 = .ok (.getfield 26, 3) := by decide +kernel
theorem dX1_takeOver_5 : decode cX1_takeOver 5 = .ok (.invokevirtual 92, 3) := by decide +kernel
theorem dX1_takeOver_8 : decode cX1_takeOver 8 = .ok (.istore_n 1, 1) := by decide +kernel
theorem dX1_takeOver_9 : decode cX1_takeOver 9 = .ok (.aload_n 0, 1) := by decide +kernel
theorem dX1_takeOver_10 : decode cX1_takeOver 10 = .ok (.dup, 1) := by decide +kernel
theorem dX1_takeOver_11 : decode cX1_takeOver 11 = .ok (.getfield 39, 3) := by decide +kernel
theorem dX1_takeOver_14 : decode cX1_takeOver 14 = .ok (.iload_n 1, 1) := by decide +kernel
theorem dX1_takeOver_15 : decode cX1_takeOver 15 = .ok (.iadd, 1) := by decide +kernel
theorem dX1_takeOver_16 : decode cX1_takeOver 16 = .ok (.putfield 39, 3) := by decide +kernel
theorem dX1_takeOver_19 : decode cX1_takeOver 19 = .ok (.aload_n 0, 1) := by decide +kernel
theorem dX1_takeOver_20 : decode cX1_takeOver 20 = .ok (.iconst 0, 1) := by decide +kernel
theorem dX1_takeOver_21 : decode cX1_takeOver 21 = .ok (.putfield 36, 3) := by decide +kernel
theorem dX1_takeOver_24 : decode cX1_takeOver 24 = .ok (.iload_n 1, 1) := by decide +kernel
theorem dX1_takeOver_25 : decode cX1_takeOver 25 = .ok (.ireturn, 1) := by decide +kernel
set_option maxRecDepth 20000 in
theorem ggX1_giveBack_X1_moveTo : GoodIn wsX1_giveBack wsX1_moveTo := goodIn_r _ [7, 8, 9, 10, 11, 12, 13, 14, 15, 16, 17, 18, 19, 20, 21, 22, 23, 24, 25, 26, 27, 28, 29, 30] (by decide +kernel) (by decide +kernel)
set_option maxRecDepth 20000 in
theorem gX1_giveBack_X1_moveTo : GoodIn wsX1_giveBack (wsV RX1 92 RX1 yX1_moveTo wsX1_moveTo) := goodIn_app (goodIn_of _ (by decide +kernel)) ggX1_giveBack_X1_moveTo
theorem dX1_giveBack_0 : decode cX1_giveBack 0 = .ok (.aload_n 0, 1) := by decide +kernel
theorem dX1_giveBack_1 : decode cX1_giveBack 1 = .ok (.aload_n 0, 1) := by decide +kernel
theorem dX1_giveBack_2 : decode cX1_giveBack 2 = .ok (.getfield 29, 3) := by decide +kernel
theorem dX1_giveBack_5 : decode cX1_giveBack 5 = .ok (.invokevirtual 92, 3) := by decide +kernel
theorem dX1_giveBack_8 : decode cX1_giveBack 8 = .ok (.istore_n 1, 1) := by decide +kernel
theorem dX1_giveBack_9 : decode cX1_giveBack 9 = .ok (.aload_n 0, 1) := by decide +kernel
theorem dX1_giveBack_10 : decode cX1_giveBack 10 = .ok (.iconst 0, 1) := by decide +kernel
theorem dX1_giveBack_11 : decode cX1_giveBack 11 = .ok (.putfield 36, 3) := by decide +kernel
theorem dX1_giveBack_14 : decode cX1_giveBack 14 = .ok (.iload_n 1, 1) := by decide +kernel
theorem dX1_giveBack_15 : decode cX1_giveBack 15 = .ok (.ireturn, 1) := by decide +kernel
set_option maxRecDepth 20000 in
theorem ggX1_moveTo_X3_at : GoodIn wsX1_moveTo wsX3_at := goodIn_r _ [7, 8, 23] (by decide +kernel) (by decide +kernel)
set_option maxRecDepth 20000 in
theorem gX1_moveTo_X3_at : GoodIn wsX1_moveTo (wsV RX1 64 RX3 yX3_at wsX3_at) := goodIn_app (goodIn_of _ (by decide +kernel)) ggX1_moveTo_X3_at
set_option maxRecDepth 20000 in
theorem ggX1_moveTo_X3_put : GoodIn wsX1_moveTo wsX3_put := goodIn_r _ [12, 8, 23] (by decide +kernel) (by decide +kernel)
set_option maxRecDepth 20000 in
theorem gX1_moveTo_X3_put : GoodIn wsX1_moveTo (wsV RX1 56 RX3 yX3_put wsX3_put) := goodIn_app (goodIn_of _ (by decide +kernel)) ggX1_moveTo_X3_put
theorem dX1_moveTo_0 : decode cX1_moveTo 0 = .ok (.iconst 0, 1) := by decide +kernel
theorem dX1_moveTo_1 : decode cX1_moveTo 1 = .ok (.istore_n 2, 1) := by decide +kernel
theorem dX1_moveTo_2 : decode cX1_moveTo 2 = .ok (.iconst 0, 1) := by decide +kernel
theorem dX1_moveTo_3 : decode cX1_moveTo 3 = .ok (.istore_n 3, 1) := by decide +kernel
theorem dX1_moveTo_4 : decode cX1_moveTo 4 = .ok (.iload_n 3, 1) := by decide +kernel
theorem dX1_moveTo_5 : decode cX1_moveTo 5 = .ok (.aload_n 0, 1) := by decide +kernel
theorem dX1_moveTo_6 : decode cX1_moveTo 6 = .ok (.getfield 32, 3) := by decide +kernel
theorem dX1_moveTo_9 : decode cX1_moveTo 9 = .ok (.if_icmp .ge 41, 3) := by decide +kernel
theorem dX1_moveTo_12 : decode cX1_moveTo 12 = .ok (.aload_n 0, 1) := by decide +kernel
theorem dX1_moveTo_13 : decode cX1_moveTo 13 = .ok (.getfield 20, 3) := by decide +kernel
theorem dX1_moveTo_16 : decode cX1_moveTo 16 = .ok (.iload_n 3, 1) := by decide +kernel
theorem dX1_moveTo_17 : decode cX1_moveTo 17 = .ok (.invokevirtual 64, 3) := by decide +kernel
theorem dX1_moveTo_20 : decode cX1_moveTo 20 = .ok (.aload_n 1, 1) := by decide +kernel
theorem dX1_moveTo_21 : decode cX1_moveTo 21 = .ok (.iload_n 3, 1) := by decide +kernel
theorem dX1_moveTo_22 : decode cX1_moveTo 22 = .ok (.invokevirtual 64, 3) := by decide +kernel
theorem dX1_moveTo_25 : decode cX1_moveTo 25 = .ok (.if_icmp .eq 19, 3) := by decide +kernel
theorem dX1_moveTo_28 : decode cX1_moveTo 28 = .ok (.aload_n 0, 1) := by decide +kernel
theorem dX1_moveTo_29 : decode cX1_moveTo 29 = .ok (.getfield 20, 3) := by decide +kernel
theorem dX1_moveTo_32 : decode cX1_moveTo 32 = .ok (.iload_n 3, 1) := by decide +kernel
theorem dX1_moveTo_33 : decode cX1_moveTo 33 = .ok (.aload_n 1, 1) := by decide +kernel
theorem dX1_moveTo_34 : decode cX1_moveTo 34 = .ok (.iload_n 3, 1) := by decide +kernel
theorem dX1_moveTo_35 : decode cX1_moveTo 35 = .ok (.invokevirtual 64, 3) := by decide +kernel
theorem dX1_moveTo_38 : decode cX1_moveTo 38 = .ok (.invokevirtual 56, 3) := by decide +kernel
theorem dX1_moveTo_41 : decode cX1_moveTo 41 = .ok (.iinc 2 1, 3) := by decide +kernel
theorem dX1_moveTo_44 : decode cX1_moveTo 44 = .ok (.iinc 3 1, 3) := by decide +kernel
theorem dX1_moveTo_47 : decode cX1_moveTo 47 = .ok (.goto (-43), 3) := by decide +kernel
theorem dX1_moveTo_50 : decode cX1_moveTo 50 = .ok (.iload_n 2, 1) := by decide +kernel
theorem dX1_moveTo_51 : decode cX1_moveTo 51 = .ok (.ireturn, 1) := by decide +kernel
set_option maxRecDepth 20000 in
theorem ggX1_plannedOwner_X1_isHandingOver : GoodIn wsX1_plannedOwner wsX1_isHandingOver := goodIn_r _ [7, 8, 15, 16, 17, 18, 19, 20, 21, 22, 23, 24] (by decide +kernel) (by decide +kernel)
set_option maxRecDepth 20000 in
theorem gX1_plannedOwner_X1_isHandingOver : GoodIn wsX1_plannedOwner (wsV RX1 52 RX1 yX1_isHandingOver wsX1_isHandingOver) := goodIn_app (goodIn_of _ (by decide +kernel)) ggX1_plannedOwner_X1_isHandingOver
set_option maxRecDepth 20000 in
theorem ggX1_plannedOwner_X3_at : GoodIn wsX1_plannedOwner wsX3_at := goodIn_r _ [13, 14, 25] (by decide +kernel) (by decide +kernel)
set_option maxRecDepth 20000 in
theorem gX1_plannedOwner_X3_at : GoodIn wsX1_plannedOwner (wsV RX1 64 RX3 yX3_at wsX3_at) := goodIn_app (goodIn_of _ (by decide +kernel)) ggX1_plannedOwner_X3_at
theorem dX1_plannedOwner_0 : decode cX1_plannedOwner 0 = .ok (.aload_n 0, 1) := by decide +kernel
theorem dX1_plannedOwner_1 : decode cX1_plannedOwner 1 = .ok (.invokevirtual 52, 3) := by decide +kernel
theorem dX1_plannedOwner_4 : decode cX1_plannedOwner 4 = .ok (.ifCond .eq 14, 3) := by decide +kernel
theorem dX1_plannedOwner_7 : decode cX1_plannedOwner 7 = .ok (.aload_n 0, 1) := by decide +kernel
theorem dX1_plannedOwner_8 : decode cX1_plannedOwner 8 = .ok (.getfield 26, 3) := by decide +kernel
theorem dX1_plannedOwner_11 : decode cX1_plannedOwner 11 = .ok (.iload_n 1, 1) := by decide +kernel
theorem dX1_plannedOwner_12 : decode cX1_plannedOwner 12 = .ok (.invokevirtual 64, 3) := by decide +kernel
theorem dX1_plannedOwner_15 : decode cX1_plannedOwner 15 = .ok (.goto 11, 3) := by decide +kernel
theorem dX1_plannedOwner_18 : decode cX1_plannedOwner 18 = .ok (.aload_n 0, 1) := by decide +kernel
theorem dX1_plannedOwner_19 : decode cX1_plannedOwner 19 = .ok (.getfield 20, 3) := by decide +kernel
theorem dX1_plannedOwner_22 : decode cX1_plannedOwner 22 = .ok (.iload_n 1, 1) := by decide +kernel
theorem dX1_plannedOwner_23 : decode cX1_plannedOwner 23 = .ok (.invokevirtual 64, 3) := by decide +kernel
theorem dX1_plannedOwner_26 : decode cX1_plannedOwner 26 = .ok (.ireturn, 1) := by decide +kernel
theorem dX1_countTakenOver_0 : decode cX1_countTakenOver 0 = .ok (.aload_n 0, 1) := by decide +kernel
theorem dX1_countTakenOver_1 : decode cX1_countTakenOver 1 = .ok (.getfield 39, 3) := by decide +kernel
theorem dX1_countTakenOver_4 : decode cX1_countTakenOver 4 = .ok (.ireturn, 1) := by decide +kernel
set_option maxRecDepth 20000 in
theorem ggX1_bringMilk_X3_at : GoodIn wsX1_bringMilk wsX3_at := goodIn_r _ [10, 11, 22] (by decide +kernel) (by decide +kernel)
set_option maxRecDepth 20000 in
theorem gX1_bringMilk_X3_at : GoodIn wsX1_bringMilk (wsV RX1 64 RX3 yX3_at wsX3_at) := goodIn_app (goodIn_of _ (by decide +kernel)) ggX1_bringMilk_X3_at
theorem dX1_bringMilk_0 : decode cX1_bringMilk 0 = .ok (.iconst 0, 1) := by decide +kernel
theorem dX1_bringMilk_1 : decode cX1_bringMilk 1 = .ok (.istore_n 1, 1) := by decide +kernel
theorem dX1_bringMilk_2 : decode cX1_bringMilk 2 = .ok (.iconst 0, 1) := by decide +kernel
theorem dX1_bringMilk_3 : decode cX1_bringMilk 3 = .ok (.istore_n 2, 1) := by decide +kernel
theorem dX1_bringMilk_4 : decode cX1_bringMilk 4 = .ok (.iload_n 2, 1) := by decide +kernel
theorem dX1_bringMilk_5 : decode cX1_bringMilk 5 = .ok (.aload_n 0, 1) := by decide +kernel
theorem dX1_bringMilk_6 : decode cX1_bringMilk 6 = .ok (.getfield 32, 3) := by decide +kernel
theorem dX1_bringMilk_9 : decode cX1_bringMilk 9 = .ok (.if_icmp .ge 45, 3) := by decide +kernel
theorem dX1_bringMilk_12 : decode cX1_bringMilk 12 = .ok (.aload_n 0, 1) := by decide +kernel
theorem dX1_bringMilk_13 : decode cX1_bringMilk 13 = .ok (.getfield 20, 3) := by decide +kernel
theorem dX1_bringMilk_16 : decode cX1_bringMilk 16 = .ok (.iload_n 2, 1) := by decide +kernel
theorem dX1_bringMilk_17 : decode cX1_bringMilk 17 = .ok (.invokevirtual 64, 3) := by decide +kernel
theorem dX1_bringMilk_20 : decode cX1_bringMilk 20 = .ok (.iconst (-1), 1) := by decide +kernel
theorem dX1_bringMilk_21 : decode cX1_bringMilk 21 = .ok (.if_icmp .ne 16, 3) := by decide +kernel
theorem dX1_bringMilk_24 : decode cX1_bringMilk 24 = .ok (.aload_n 0, 1) := by decide +kernel
theorem dX1_bringMilk_25 : decode cX1_bringMilk 25 = .ok (.dup, 1) := by decide +kernel
theorem dX1_bringMilk_26 : decode cX1_bringMilk 26 = .ok (.getfield 45, 3) := by decide +kernel
theorem dX1_bringMilk_29 : decode cX1_bringMilk 29 = .ok (.iconst 1, 1) := by decide +kernel
theorem dX1_bringMilk_30 : decode cX1_bringMilk 30 = .ok (.iadd, 1) := by decide +kernel
theorem dX1_bringMilk_31 : decode cX1_bringMilk 31 = .ok (.putfield 45, 3) := by decide +kernel
theorem dX1_bringMilk_34 : decode cX1_bringMilk 34 = .ok (.goto 14, 3) := by decide +kernel
theorem dX1_bringMilk_37 : decode cX1_bringMilk 37 = .ok (.iload_n 1, 1) := by decide +kernel
theorem dX1_bringMilk_38 : decode cX1_bringMilk 38 = .ok (.aload_n 0, 1) := by decide +kernel
theorem dX1_bringMilk_39 : decode cX1_bringMilk 39 = .ok (.getfield 14, 3) := by decide +kernel
theorem dX1_bringMilk_42 : decode cX1_bringMilk 42 = .ok (.iload_n 2, 1) := by decide +kernel
theorem dX1_bringMilk_43 : decode cX1_bringMilk 43 = .ok (.invokevirtual 64, 3) := by decide +kernel
theorem dX1_bringMilk_46 : decode cX1_bringMilk 46 = .ok (.iadd, 1) := by decide +kernel
theorem dX1_bringMilk_47 : decode cX1_bringMilk 47 = .ok (.istore_n 1, 1) := by decide +kernel
theorem dX1_bringMilk_48 : decode cX1_bringMilk 48 = .ok (.iinc 2 1, 3) := by decide +kernel
theorem dX1_bringMilk_51 : decode cX1_bringMilk 51 = .ok (.goto (-47), 3) := by decide +kernel
theorem dX1_bringMilk_54 : decode cX1_bringMilk 54 = .ok (.aload_n 0, 1) := by decide +kernel
theorem dX1_bringMilk_55 : decode cX1_bringMilk 55 = .ok (.dup, 1) := by decide +kernel
theorem dX1_bringMilk_56 : decode cX1_bringMilk 56 = .ok (.getfield 42, 3) := by decide +kernel
theorem dX1_bringMilk_59 : decode cX1_bringMilk 59 = .ok (.iload_n 1, 1) := by decide +kernel
theorem dX1_bringMilk_60 : decode cX1_bringMilk 60 = .ok (.iadd, 1) := by decide +kernel
theorem dX1_bringMilk_61 : decode cX1_bringMilk 61 = .ok (.putfield 42, 3) := by decide +kernel
theorem dX1_bringMilk_64 : decode cX1_bringMilk 64 = .ok (.iload_n 1, 1) := by decide +kernel
theorem dX1_bringMilk_65 : decode cX1_bringMilk 65 = .ok (.ireturn, 1) := by decide +kernel
theorem dX1_countPintsBrought_0 : decode cX1_countPintsBrought 0 = .ok (.aload_n 0, 1) := by decide +kernel
theorem dX1_countPintsBrought_1 : decode cX1_countPintsBrought 1 = .ok (.getfield 42, 3) := by decide +kernel
theorem dX1_countPintsBrought_4 : decode cX1_countPintsBrought 4 = .ok (.ireturn, 1) := by decide +kernel
theorem dX1_countMisses_0 : decode cX1_countMisses 0 = .ok (.aload_n 0, 1) := by decide +kernel
theorem dX1_countMisses_1 : decode cX1_countMisses 1 = .ok (.getfield 45, 3) := by decide +kernel
theorem dX1_countMisses_4 : decode cX1_countMisses 4 = .ok (.ireturn, 1) := by decide +kernel
set_option maxRecDepth 20000 in
theorem ggX2_init_X1_init : GoodIn wsX2_init wsX1_init := goodIn_r _ [10, 11, 2, 3, 12, 13, 14, 15, 16, 17, 18, 19, 20, 21, 22, 23, 24, 25, 26, 27, 28, 29, 30, 43, 33, 34, 35, 36, 37, 38, 39, 40, 41, 42] (by decide +kernel) (by decide +kernel)
set_option maxRecDepth 20000 in
theorem gX2_init_X1_init_n21 : GoodIn wsX2_init (wsX1_init) := ggX2_init_X1_init

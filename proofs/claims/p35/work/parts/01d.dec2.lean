theorem dX2_init_0 : decode cX2_init 0 = .ok (.aload_n 0, 1) := by decide +kernel
theorem dX2_init_1 : decode cX2_init 1 = .ok (.invokespecial 3, 3) := by decide +kernel
theorem dX2_init_4 : decode cX2_init 4 = .ok (.aload_n 0, 1) := by decide +kernel
theorem dX2_init_5 : decode cX2_init 5 = .ok (.bipush 6, 2) := by decide +kernel
theorem dX2_init_7 : decode cX2_init 7 = .ok (.anewarray 9, 3) := by decide +kernel
theorem dX2_init_10 : decode cX2_init 10 = .ok (.putfield 11, 3) := by decide +kernel
theorem dX2_init_13 : decode cX2_init 13 = .ok (.aload_n 0, 1) := by decide +kernel
theorem dX2_init_14 : decode cX2_init 14 = .ok (.iconst 0, 1) := by decide +kernel
theorem dX2_init_15 : decode cX2_init 15 = .ok (.putfield 17, 3) := by decide +kernel
theorem dX2_init_18 : decode cX2_init 18 = .ok (.iconst 0, 1) := by decide +kernel
theorem dX2_init_19 : decode cX2_init 19 = .ok (.istore_n 1, 1) := by decide +kernel
theorem dX2_init_20 : decode cX2_init 20 = .ok (.iload_n 1, 1) := by decide +kernel
theorem dX2_init_21 : decode cX2_init 21 = .ok (.aload_n 0, 1) := by decide +kernel
theorem dX2_init_22 : decode cX2_init 22 = .ok (.getfield 11, 3) := by decide +kernel
theorem dX2_init_25 : decode cX2_init 25 = .ok (.arraylength, 1) := by decide +kernel
theorem dX2_init_26 : decode cX2_init 26 = .ok (.if_icmp .ge 22, 3) := by decide +kernel
theorem dX2_init_29 : decode cX2_init 29 = .ok (.aload_n 0, 1) := by decide +kernel
theorem dX2_init_30 : decode cX2_init 30 = .ok (.getfield 11, 3) := by decide +kernel
theorem dX2_init_33 : decode cX2_init 33 = .ok (.iload_n 1, 1) := by decide +kernel
theorem dX2_init_34 : decode cX2_init 34 = .ok (.new 9, 3) := by decide +kernel
theorem dX2_init_37 : decode cX2_init 37 = .ok (.dup, 1) := by decide +kernel
theorem dX2_init_38 : decode cX2_init 38 = .ok (.invokespecial 21, 3) := by decide +kernel
theorem dX2_init_41 : decode cX2_init 41 = .ok (.aastore, 1) := by decide +kernel
theorem dX2_init_42 : decode cX2_init 42 = .ok (.iinc 1 1, 3) := by decide +kernel
theorem dX2_init_45 : decode cX2_init 45 = .ok (.goto (-25), 3) := by decide +kernel
theorem dX2_init_48 : decode cX2_init 48 = .ok (.return_, 1) := by decide +kernel
theorem dX2_isEmpty_0 : decode cX2_isEmpty 0 = .ok (.aload_n 0, 1) := by decide +kernel
theorem dX2_isEmpty_1 : decode cX2_isEmpty 1 = .ok (.getfield 17, 3) := by decide +kernel
theorem dX2_isEmpty_4 : decode cX2_isEmpty 4 = .ok (.ifCond .gt 7, 3) := by decide +kernel
theorem dX2_isEmpty_7 : decode cX2_isEmpty 7 = .ok (.iconst 1, 1) := by decide +kernel
theorem dX2_isEmpty_8 : decode cX2_isEmpty 8 = .ok (.goto 4, 3) := by decide +kernel
theorem dX2_isEmpty_11 : decode cX2_isEmpty 11 = .ok (.iconst 0, 1) := by decide +kernel
theorem dX2_isEmpty_12 : decode cX2_isEmpty 12 = .ok (.ireturn, 1) := by decide +kernel
set_option maxRecDepth 20000 in
theorem ggX2_save_X2_moveOldestToEnd : GoodIn wsX2_save wsX2_moveOldestToEnd := goodIn_r _ [7, 2, 8, 9, 10, 6, 11, 37, 38] (by decide +kernel) (by decide +kernel)
set_option maxRecDepth 20000 in
theorem gX2_save_X2_moveOldestToEnd : GoodIn wsX2_save (wsV RX2 22 RX2 yX2_moveOldestToEnd wsX2_moveOldestToEnd) := goodIn_app (goodIn_of _ (by decide +kernel)) ggX2_save_X2_moveOldestToEnd
set_option maxRecDepth 20000 in
theorem ggX2_save_X2_savedAt : GoodIn wsX2_save wsX2_savedAt := goodIn_r _ [11, 2, 37, 38] (by decide +kernel) (by decide +kernel)
set_option maxRecDepth 20000 in
theorem gX2_save_X2_savedAt : GoodIn wsX2_save (wsV RX2 25 RX2 yX2_savedAt wsX2_savedAt) := goodIn_app (goodIn_of _ (by decide +kernel)) ggX2_save_X2_savedAt
set_option maxRecDepth 20000 in
theorem ggX2_save_X1_copyFrom : GoodIn wsX2_save wsX1_copyFrom := goodIn_r _ [16, 17, 18, 19, 20, 21, 22, 23, 24, 25, 26, 27, 28, 29, 30, 31, 32, 33, 34, 35, 36, 39, 40, 41, 42, 43, 44, 45, 46, 47, 48, 49] (by decide +kernel) (by decide +kernel)
set_option maxRecDepth 20000 in
theorem gX2_save_X1_copyFrom : GoodIn wsX2_save (wsV RX2 29 RX1 yX1_copyFrom wsX1_copyFrom) := goodIn_app (goodIn_of _ (by decide +kernel)) ggX2_save_X1_copyFrom
theorem dX2_save_0 : decode cX2_save 0 = .ok (.aload_n 0, 1) := by decide +kernel
theorem dX2_save_1 : decode cX2_save 1 = .ok (.getfield 17, 3) := by decide +kernel
theorem dX2_save_4 : decode cX2_save 4 = .ok (.aload_n 0, 1) := by decide +kernel
theorem dX2_save_5 : decode cX2_save 5 = .ok (.getfield 11, 3) := by decide +kernel
theorem dX2_save_8 : decode cX2_save 8 = .ok (.arraylength, 1) := by decide +kernel
theorem dX2_save_9 : decode cX2_save 9 = .ok (.if_icmp .lt 18, 3) := by decide +kernel
theorem dX2_save_12 : decode cX2_save 12 = .ok (.aload_n 0, 1) := by decide +kernel
theorem dX2_save_13 : decode cX2_save 13 = .ok (.invokevirtual 22, 3) := by decide +kernel
theorem dX2_save_16 : decode cX2_save 16 = .ok (.aload_n 0, 1) := by decide +kernel
theorem dX2_save_17 : decode cX2_save 17 = .ok (.aload_n 0, 1) := by decide +kernel
theorem dX2_save_18 : decode cX2_save 18 = .ok (.getfield 11, 3) := by decide +kernel
theorem dX2_save_21 : decode cX2_save 21 = .ok (.arraylength, 1) := by decide +kernel
theorem dX2_save_22 : decode cX2_save 22 = .ok (.iconst 1, 1) := by decide +kernel
theorem dX2_save_23 : decode cX2_save 23 = .ok (.isub, 1) := by decide +kernel
theorem dX2_save_24 : decode cX2_save 24 = .ok (.putfield 17, 3) := by decide +kernel
theorem dX2_save_27 : decode cX2_save 27 = .ok (.aload_n 0, 1) := by decide +kernel
theorem dX2_save_28 : decode cX2_save 28 = .ok (.aload_n 0, 1) := by decide +kernel
theorem dX2_save_29 : decode cX2_save 29 = .ok (.getfield 17, 3) := by decide +kernel
theorem dX2_save_32 : decode cX2_save 32 = .ok (.invokevirtual 25, 3) := by decide +kernel
theorem dX2_save_35 : decode cX2_save 35 = .ok (.astore_n 2, 1) := by decide +kernel
theorem dX2_save_36 : decode cX2_save 36 = .ok (.aload_n 2, 1) := by decide +kernel
theorem dX2_save_37 : decode cX2_save 37 = .ok (.ifnull 18, 3) := by decide +kernel
theorem dX2_save_40 : decode cX2_save 40 = .ok (.aload_n 2, 1) := by decide +kernel
theorem dX2_save_41 : decode cX2_save 41 = .ok (.aload_n 1, 1) := by decide +kernel
theorem dX2_save_42 : decode cX2_save 42 = .ok (.invokevirtual 29, 3) := by decide +kernel
theorem dX2_save_45 : decode cX2_save 45 = .ok (.aload_n 0, 1) := by decide +kernel
theorem dX2_save_46 : decode cX2_save 46 = .ok (.dup, 1) := by decide +kernel
theorem dX2_save_47 : decode cX2_save 47 = .ok (.getfield 17, 3) := by decide +kernel
theorem dX2_save_50 : decode cX2_save 50 = .ok (.iconst 1, 1) := by decide +kernel
theorem dX2_save_51 : decode cX2_save 51 = .ok (.iadd, 1) := by decide +kernel
theorem dX2_save_52 : decode cX2_save 52 = .ok (.putfield 17, 3) := by decide +kernel
theorem dX2_save_55 : decode cX2_save 55 = .ok (.return_, 1) := by decide +kernel
set_option maxRecDepth 20000 in
theorem ggX2_restore_X2_savedAt : GoodIn wsX2_restore wsX2_savedAt := goodIn_r _ [6, 7, 33, 34] (by decide +kernel) (by decide +kernel)
set_option maxRecDepth 20000 in
theorem gX2_restore_X2_savedAt : GoodIn wsX2_restore (wsV RX2 25 RX2 yX2_savedAt wsX2_savedAt) := goodIn_app (goodIn_of _ (by decide +kernel)) ggX2_restore_X2_savedAt
set_option maxRecDepth 20000 in
theorem ggX2_restore_X1_copyFrom : GoodIn wsX2_restore wsX1_copyFrom := goodIn_r _ [12, 13, 14, 15, 16, 17, 18, 19, 20, 21, 22, 23, 24, 25, 26, 27, 28, 29, 30, 31, 32, 35, 36, 37, 38, 39, 40, 41, 42, 43, 44, 45] (by decide +kernel) (by decide +kernel)
set_option maxRecDepth 20000 in
theorem gX2_restore_X1_copyFrom : GoodIn wsX2_restore (wsV RX2 29 RX1 yX1_copyFrom wsX1_copyFrom) := goodIn_app (goodIn_of _ (by decide +kernel)) ggX2_restore_X1_copyFrom
theorem dX2_restore_0 : decode cX2_restore 0 = .ok (.aload_n 0, 1) := by decide +kernel
theorem dX2_restore_1 : decode cX2_restore 1 = .ok (.aload_n 0, 1) := by decide +kernel
theorem dX2_restore_2 : decode cX2_restore 2 = .ok (.getfield 17, 3) := by decide +kernel
theorem dX2_restore_5 : decode cX2_restore 5 = .ok (.iconst 1, 1) := by decide +kernel
theorem dX2_restore_6 : decode cX2_restore 6 = .ok (.isub, 1) := by decide +kernel
theorem dX2_restore_7 : decode cX2_restore 7 = .ok (.invokevirtual 25, 3) := by decide +kernel
theorem dX2_restore_10 : decode cX2_restore 10 = .ok (.astore_n 2, 1) := by decide +kernel
theorem dX2_restore_11 : decode cX2_restore 11 = .ok (.aload_n 2, 1) := by decide +kernel
theorem dX2_restore_12 : decode cX2_restore 12 = .ok (.ifnull 18, 3) := by decide +kernel
theorem dX2_restore_15 : decode cX2_restore 15 = .ok (.aload_n 1, 1) := by decide +kernel
theorem dX2_restore_16 : decode cX2_restore 16 = .ok (.aload_n 2, 1) := by decide +kernel
theorem dX2_restore_17 : decode cX2_restore 17 = .ok (.invokevirtual 29, 3) := by decide +kernel
theorem dX2_restore_20 : decode cX2_restore 20 = .ok (.aload_n 0, 1) := by decide +kernel
theorem dX2_restore_21 : decode cX2_restore 21 = .ok (.dup, 1) := by decide +kernel
theorem dX2_restore_22 : decode cX2_restore 22 = .ok (.getfield 17, 3) := by decide +kernel
theorem dX2_restore_25 : decode cX2_restore 25 = .ok (.iconst 1, 1) := by decide +kernel
theorem dX2_restore_26 : decode cX2_restore 26 = .ok (.isub, 1) := by decide +kernel
theorem dX2_restore_27 : decode cX2_restore 27 = .ok (.putfield 17, 3) := by decide +kernel
theorem dX2_restore_30 : decode cX2_restore 30 = .ok (.aload_n 0, 1) := by decide +kernel
theorem dX2_restore_31 : decode cX2_restore 31 = .ok (.getfield 17, 3) := by decide +kernel
theorem dX2_restore_34 : decode cX2_restore 34 = .ok (.ireturn, 1) := by decide +kernel
theorem dX2_savedAt_0 : decode cX2_savedAt 0 = .ok (.iload_n 1, 1) := by decide +kernel
theorem dX2_savedAt_1 : decode cX2_savedAt 1 = .ok (.ifCond .lt 21, 3) := by decide +kernel
theorem dX2_savedAt_4 : decode cX2_savedAt 4 = .ok (.iload_n 1, 1) := by decide +kernel
theorem dX2_savedAt_5 : decode cX2_savedAt 5 = .ok (.aload_n 0, 1) := by decide +kernel
theorem dX2_savedAt_6 : decode cX2_savedAt 6 = .ok (.getfield 11, 3) := by decide +kernel
theorem dX2_savedAt_9 : decode cX2_savedAt 9 = .ok (.arraylength, 1) := by decide +kernel
theorem dX2_savedAt_10 : decode cX2_savedAt 10 = .ok (.if_icmp .ge 12, 3) := by decide +kernel
theorem dX2_savedAt_13 : decode cX2_savedAt 13 = .ok (.aload_n 0, 1) := by decide +kernel
theorem dX2_savedAt_14 : decode cX2_savedAt 14 = .ok (.getfield 11, 3) := by decide +kernel
theorem dX2_savedAt_17 : decode cX2_savedAt 17 = .ok (.iload_n 1, 1) := by decide +kernel
theorem dX2_savedAt_18 : decode cX2_savedAt 18 = .ok (.aaload, 1) := by decide +kernel
theorem dX2_savedAt_19 : decode cX2_savedAt 19 = .ok (.goto 4, 3) := by decide +kernel
theorem dX2_savedAt_22 : decode cX2_savedAt 22 = .ok (.aconst_null, 1) := by decide +kernel
theorem dX2_savedAt_23 : decode cX2_savedAt 23 = .ok (.areturn, 1) := by decide +kernel
set_option maxRecDepth 20000 in
theorem ggX2_moveOldestToEnd_X2_savedAt : GoodIn wsX2_moveOldestToEnd wsX2_savedAt := goodIn_r _ [6, 1, 7, 8] (by decide +kernel) (by decide +kernel)
set_option maxRecDepth 20000 in
theorem gX2_moveOldestToEnd_X2_savedAt : GoodIn wsX2_moveOldestToEnd (wsV RX2 25 RX2 yX2_savedAt wsX2_savedAt) := goodIn_app (goodIn_of _ (by decide +kernel)) ggX2_moveOldestToEnd_X2_savedAt
theorem dX2_moveOldestToEnd_0 : decode cX2_moveOldestToEnd 0 = .ok (.aload_n 0, 1) := by decide +kernel
theorem dX2_moveOldestToEnd_1 : decode cX2_moveOldestToEnd 1 = .ok (.iconst 0, 1) := by decide +kernel
theorem dX2_moveOldestToEnd_2 : decode cX2_moveOldestToEnd 2 = .ok (.invokevirtual 25, 3) := by decide +kernel
theorem dX2_moveOldestToEnd_5 : decode cX2_moveOldestToEnd 5 = .ok (.astore_n 1, 1) := by decide +kernel
theorem dX2_moveOldestToEnd_6 : decode cX2_moveOldestToEnd 6 = .ok (.iconst 1, 1) := by decide +kernel
theorem dX2_moveOldestToEnd_7 : decode cX2_moveOldestToEnd 7 = .ok (.istore_n 2, 1) := by decide +kernel
theorem dX2_moveOldestToEnd_8 : decode cX2_moveOldestToEnd 8 = .ok (.iload_n 2, 1) := by decide +kernel
theorem dX2_moveOldestToEnd_9 : decode cX2_moveOldestToEnd 9 = .ok (.aload_n 0, 1) := by decide +kernel
theorem dX2_moveOldestToEnd_10 : decode cX2_moveOldestToEnd 10 = .ok (.getfield 11, 3) := by decide +kernel
theorem dX2_moveOldestToEnd_13 : decode cX2_moveOldestToEnd 13 = .ok (.arraylength, 1) := by decide +kernel
theorem dX2_moveOldestToEnd_14 : decode cX2_moveOldestToEnd 14 = .ok (.if_icmp .ge 23, 3) := by decide +kernel
theorem dX2_moveOldestToEnd_17 : decode cX2_moveOldestToEnd 17 = .ok (.aload_n 0, 1) := by decide +kernel
theorem dX2_moveOldestToEnd_18 : decode cX2_moveOldestToEnd 18 = .ok (.getfield 11, 3) := by decide +kernel
theorem dX2_moveOldestToEnd_21 : decode cX2_moveOldestToEnd 21 = .ok (.iload_n 2, 1) := by decide +kernel
theorem dX2_moveOldestToEnd_22 : decode cX2_moveOldestToEnd 22 = .ok (.iconst 1, 1) := by decide +kernel
theorem dX2_moveOldestToEnd_23 : decode cX2_moveOldestToEnd 23 = .ok (.isub, 1) := by decide +kernel
theorem dX2_moveOldestToEnd_24 : decode cX2_moveOldestToEnd 24 = .ok (.aload_n 0, 1) := by decide +kernel
theorem dX2_moveOldestToEnd_25 : decode cX2_moveOldestToEnd 25 = .ok (.getfield 11, 3) := by decide +kernel
theorem dX2_moveOldestToEnd_28 : decode cX2_moveOldestToEnd 28 = .ok (.iload_n 2, 1) := by decide +kernel
theorem dX2_moveOldestToEnd_29 : decode cX2_moveOldestToEnd 29 = .ok (.aaload, 1) := by decide +kernel
theorem dX2_moveOldestToEnd_30 : decode cX2_moveOldestToEnd 30 = .ok (.aastore, 1) := by decide +kernel
theorem dX2_moveOldestToEnd_31 : decode cX2_moveOldestToEnd 31 = .ok (.iinc 2 1, 3) := by decide +kernel
theorem dX2_moveOldestToEnd_34 : decode cX2_moveOldestToEnd 34 = .ok (.goto (-26), 3) := by decide +kernel
theorem dX2_moveOldestToEnd_37 : decode cX2_moveOldestToEnd 37 = .ok (.aload_n 0, 1) := by decide +kernel
theorem dX2_moveOldestToEnd_38 : decode cX2_moveOldestToEnd 38 = .ok (.getfield 11, 3) := by decide +kernel
theorem dX2_moveOldestToEnd_41 : decode cX2_moveOldestToEnd 41 = .ok (.arraylength, 1) := by decide +kernel
theorem dX2_moveOldestToEnd_42 : decode cX2_moveOldestToEnd 42 = .ok (.ifCond .le 16, 3) := by decide +kernel
theorem dX2_moveOldestToEnd_45 : decode cX2_moveOldestToEnd 45 = .ok (.aload_n 0, 1) := by decide +kernel
theorem dX2_moveOldestToEnd_46 : decode cX2_moveOldestToEnd 46 = .ok (.getfield 11, 3) := by decide +kernel
theorem dX2_moveOldestToEnd_49 : decode cX2_moveOldestToEnd 49 = .ok (.aload_n 0, 1) := by decide +kernel
theorem dX2_moveOldestToEnd_50 : decode cX2_moveOldestToEnd 50 = .ok (.getfield 11, 3) := by decide +kernel
theorem dX2_moveOldestToEnd_53 : decode cX2_moveOldestToEnd 53 = .ok (.arraylength, 1) := by decide +kernel
theorem dX2_moveOldestToEnd_54 : decode cX2_moveOldestToEnd 54 = .ok (.iconst 1, 1) := by decide +kernel
theorem dX2_moveOldestToEnd_55 : decode cX2_moveOldestToEnd 55 = .ok (.isub, 1) := by decide +kernel
theorem dX2_moveOldestToEnd_56 : decode cX2_moveOldestToEnd 56 = .ok (.aload_n 1, 1) := by decide +kernel
theorem dX2_moveOldestToEnd_57 : decode cX2_moveOldestToEnd 57 = .ok (.aastore, 1) := by decide +kernel
theorem dX2_moveOldestToEnd_58 : decode cX2_moveOldestToEnd 58 = .ok (.return_, 1) := by decide +kernel
theorem dX3_init_0 : decode cX3_init 0 = .ok (.aload_n 0, 1) := by decide +kernel
theorem dX3_init_1 : decode cX3_init 1 = .ok (.invokespecial 3, 3) := by decide +kernel
theorem dX3_init_4 : decode cX3_init 4 = .ok (.aload_n 0, 1) := by decide +kernel
theorem dX3_init_5 : decode cX3_init 5 = .ok (.iload_n 1, 1) := by decide +kernel
theorem dX3_init_6 : decode cX3_init 6 = .ok (.ifCond .le 7, 3) := by decide +kernel
theorem dX3_init_9 : decode cX3_init 9 = .ok (.iload_n 1, 1) := by decide +kernel
theorem dX3_init_10 : decode cX3_init 10 = .ok (.goto 4, 3) := by decide +kernel
theorem dX3_init_13 : decode cX3_init 13 = .ok (.iconst 0, 1) := by decide +kernel
theorem dX3_init_14 : decode cX3_init 14 = .ok (.newarray .int, 2) := by decide +kernel
theorem dX3_init_16 : decode cX3_init 16 = .ok (.putfield 9, 3) := by decide +kernel
theorem dX3_init_19 : decode cX3_init 19 = .ok (.return_, 1) := by decide +kernel
theorem dX3_at_0 : decode cX3_at 0 = .ok (.iload_n 1, 1) := by decide +kernel
theorem dX3_at_1 : decode cX3_at 1 = .ok (.ifCond .lt 21, 3) := by decide +kernel
theorem dX3_at_4 : decode cX3_at 4 = .ok (.iload_n 1, 1) := by decide +kernel
theorem dX3_at_5 : decode cX3_at 5 = .ok (.aload_n 0, 1) := by decide +kernel
theorem dX3_at_6 : decode cX3_at 6 = .ok (.getfield 9, 3) := by decide +kernel
theorem dX3_at_9 : decode cX3_at 9 = .ok (.arraylength, 1) := by decide +kernel
theorem dX3_at_10 : decode cX3_at 10 = .ok (.if_icmp .ge 12, 3) := by decide +kernel
theorem dX3_at_13 : decode cX3_at 13 = .ok (.aload_n 0, 1) := by decide +kernel
theorem dX3_at_14 : decode cX3_at 14 = .ok (.getfield 9, 3) := by decide +kernel
theorem dX3_at_17 : decode cX3_at 17 = .ok (.iload_n 1, 1) := by decide +kernel
theorem dX3_at_18 : decode cX3_at 18 = .ok (.iaload, 1) := by decide +kernel
theorem dX3_at_19 : decode cX3_at 19 = .ok (.goto 4, 3) := by decide +kernel
theorem dX3_at_22 : decode cX3_at 22 = .ok (.iconst (-1), 1) := by decide +kernel
theorem dX3_at_23 : decode cX3_at 23 = .ok (.ireturn, 1) := by decide +kernel
theorem dX3_put_0 : decode cX3_put 0 = .ok (.iload_n 1, 1) := by decide +kernel
theorem dX3_put_1 : decode cX3_put 1 = .ok (.ifCond .lt 19, 3) := by decide +kernel
theorem dX3_put_4 : decode cX3_put 4 = .ok (.iload_n 1, 1) := by decide +kernel
theorem dX3_put_5 : decode cX3_put 5 = .ok (.aload_n 0, 1) := by decide +kernel
theorem dX3_put_6 : decode cX3_put 6 = .ok (.getfield 9, 3) := by decide +kernel
theorem dX3_put_9 : decode cX3_put 9 = .ok (.arraylength, 1) := by decide +kernel
theorem dX3_put_10 : decode cX3_put 10 = .ok (.if_icmp .ge 10, 3) := by decide +kernel
theorem dX3_put_13 : decode cX3_put 13 = .ok (.aload_n 0, 1) := by decide +kernel
theorem dX3_put_14 : decode cX3_put 14 = .ok (.getfield 9, 3) := by decide +kernel
theorem dX3_put_17 : decode cX3_put 17 = .ok (.iload_n 1, 1) := by decide +kernel
theorem dX3_put_18 : decode cX3_put 18 = .ok (.iload_n 2, 1) := by decide +kernel
theorem dX3_put_19 : decode cX3_put 19 = .ok (.iastore, 1) := by decide +kernel
theorem dX3_put_20 : decode cX3_put 20 = .ok (.return_, 1) := by decide +kernel
theorem dX3_increase_0 : decode cX3_increase 0 = .ok (.iload_n 1, 1) := by decide +kernel
theorem dX3_increase_1 : decode cX3_increase 1 = .ok (.ifCond .lt 22, 3) := by decide +kernel
theorem dX3_increase_4 : decode cX3_increase 4 = .ok (.iload_n 1, 1) := by decide +kernel
theorem dX3_increase_5 : decode cX3_increase 5 = .ok (.aload_n 0, 1) := by decide +kernel
theorem dX3_increase_6 : decode cX3_increase 6 = .ok (.getfield 9, 3) := by decide +kernel
theorem dX3_increase_9 : decode cX3_increase 9 = .ok (.arraylength, 1) := by decide +kernel
theorem dX3_increase_10 : decode cX3_increase 10 = .ok (.if_icmp .ge 13, 3) := by decide +kernel
theorem dX3_increase_13 : decode cX3_increase 13 = .ok (.aload_n 0, 1) := by decide +kernel
theorem dX3_increase_14 : decode cX3_increase 14 = .ok (.getfield 9, 3) := by decide +kernel
theorem dX3_increase_17 : decode cX3_increase 17 = .ok (.iload_n 1, 1) := by decide +kernel
theorem dX3_increase_18 : decode cX3_increase 18 = .ok (.dup2, 1) := by decide +kernel
theorem dX3_increase_19 : decode cX3_increase 19 = .ok (.iaload, 1) := by decide +kernel
theorem dX3_increase_20 : decode cX3_increase 20 = .ok (.iload_n 2, 1) := by decide +kernel
theorem dX3_increase_21 : decode cX3_increase 21 = .ok (.iadd, 1) := by decide +kernel
theorem dX3_increase_22 : decode cX3_increase 22 = .ok (.iastore, 1) := by decide +kernel
theorem dX3_increase_23 : decode cX3_increase 23 = .ok (.return_, 1) := by decide +kernel
theorem dX3_closeGap_0 : decode cX3_closeGap 0 = .ok (.iload_n 1, 1) := by decide +kernel
theorem dX3_closeGap_1 : decode cX3_closeGap 1 = .ok (.ifCond .ge 4, 3) := by decide +kernel
theorem dX3_closeGap_4 : decode cX3_closeGap 4 = .ok (.return_, 1) := by decide +kernel
theorem dX3_closeGap_5 : decode cX3_closeGap 5 = .ok (.iload_n 1, 1) := by decide +kernel
theorem dX3_closeGap_6 : decode cX3_closeGap 6 = .ok (.istore_n 2, 1) := by decide +kernel
theorem dX3_closeGap_7 : decode cX3_closeGap 7 = .ok (.iload_n 2, 1) := by decide +kernel
theorem dX3_closeGap_8 : decode cX3_closeGap 8 = .ok (.aload_n 0, 1) := by decide +kernel
theorem dX3_closeGap_9 : decode cX3_closeGap 9 = .ok (.getfield 9, 3) := by decide +kernel
theorem dX3_closeGap_12 : decode cX3_closeGap 12 = .ok (.arraylength, 1) := by decide +kernel
theorem dX3_closeGap_13 : decode cX3_closeGap 13 = .ok (.iconst 1, 1) := by decide +kernel
theorem dX3_closeGap_14 : decode cX3_closeGap 14 = .ok (.isub, 1) := by decide +kernel
theorem dX3_closeGap_15 : decode cX3_closeGap 15 = .ok (.if_icmp .ge 23, 3) := by decide +kernel
theorem dX3_closeGap_18 : decode cX3_closeGap 18 = .ok (.aload_n 0, 1) := by decide +kernel
theorem dX3_closeGap_19 : decode cX3_closeGap 19 = .ok (.getfield 9, 3) := by decide +kernel
theorem dX3_closeGap_22 : decode cX3_closeGap 22 = .ok (.iload_n 2, 1) := by decide +kernel
theorem dX3_closeGap_23 : decode cX3_closeGap 23 = .ok (.aload_n 0, 1) := by decide +kernel
theorem dX3_closeGap_24 : decode cX3_closeGap 24 = .ok (.getfield 9, 3) := by decide +kernel
theorem dX3_closeGap_27 : decode cX3_closeGap 27 = .ok (.iload_n 2, 1) := by decide +kernel
theorem dX3_closeGap_28 : decode cX3_closeGap 28 = .ok (.iconst 1, 1) := by decide +kernel
theorem dX3_closeGap_29 : decode cX3_closeGap 29 = .ok (.iadd, 1) := by decide +kernel
theorem dX3_closeGap_30 : decode cX3_closeGap 30 = .ok (.iaload, 1) := by decide +kernel
theorem dX3_closeGap_31 : decode cX3_closeGap 31 = .ok (.iastore, 1) := by decide +kernel
theorem dX3_closeGap_32 : decode cX3_closeGap 32 = .ok (.iinc 2 1, 3) := by decide +kernel
theorem dX3_closeGap_35 : decode cX3_closeGap 35 = .ok (.goto (-28), 3) := by decide +kernel
theorem dX3_closeGap_38 : decode cX3_closeGap 38 = .ok (.return_, 1) := by decide +kernel
theorem dX3_fill_0 : decode cX3_fill 0 = .ok (.iconst 0, 1) := by decide +kernel
theorem dX3_fill_1 : decode cX3_fill 1 = .ok (.istore_n 2, 1) := by decide +kernel
theorem dX3_fill_2 : decode cX3_fill 2 = .ok (.iload_n 2, 1) := by decide +kernel
theorem dX3_fill_3 : decode cX3_fill 3 = .ok (.aload_n 0, 1) := by decide +kernel
theorem dX3_fill_4 : decode cX3_fill 4 = .ok (.getfield 9, 3) := by decide +kernel
theorem dX3_fill_7 : decode cX3_fill 7 = .ok (.arraylength, 1) := by decide +kernel
theorem dX3_fill_8 : decode cX3_fill 8 = .ok (.if_icmp .ge 16, 3) := by decide +kernel
theorem dX3_fill_11 : decode cX3_fill 11 = .ok (.aload_n 0, 1) := by decide +kernel
theorem dX3_fill_12 : decode cX3_fill 12 = .ok (.getfield 9, 3) := by decide +kernel
theorem dX3_fill_15 : decode cX3_fill 15 = .ok (.iload_n 2, 1) := by decide +kernel
theorem dX3_fill_16 : decode cX3_fill 16 = .ok (.iload_n 1, 1) := by decide +kernel
theorem dX3_fill_17 : decode cX3_fill 17 = .ok (.iastore, 1) := by decide +kernel
theorem dX3_fill_18 : decode cX3_fill 18 = .ok (.iinc 2 1, 3) := by decide +kernel
theorem dX3_fill_21 : decode cX3_fill 21 = .ok (.goto (-19), 3) := by decide +kernel
theorem dX3_fill_24 : decode cX3_fill 24 = .ok (.return_, 1) := by decide +kernel
set_option maxRecDepth 20000 in
theorem ggX3_copyFrom_X3_at : GoodIn wsX3_copyFrom wsX3_at := goodIn_r _ [6, 1, 7] (by decide +kernel) (by decide +kernel)
set_option maxRecDepth 20000 in
theorem gX3_copyFrom_X3_at : GoodIn wsX3_copyFrom (wsV RX3 15 RX3 yX3_at wsX3_at) := goodIn_app (goodIn_of _ (by decide +kernel)) ggX3_copyFrom_X3_at
theorem dX3_copyFrom_0 : decode cX3_copyFrom 0 = .ok (.iconst 0, 1) := by decide +kernel
theorem dX3_copyFrom_1 : decode cX3_copyFrom 1 = .ok (.istore_n 2, 1) := by decide +kernel
theorem dX3_copyFrom_2 : decode cX3_copyFrom 2 = .ok (.iload_n 2, 1) := by decide +kernel
theorem dX3_copyFrom_3 : decode cX3_copyFrom 3 = .ok (.aload_n 0, 1) := by decide +kernel
theorem dX3_copyFrom_4 : decode cX3_copyFrom 4 = .ok (.getfield 9, 3) := by decide +kernel
theorem dX3_copyFrom_7 : decode cX3_copyFrom 7 = .ok (.arraylength, 1) := by decide +kernel
theorem dX3_copyFrom_8 : decode cX3_copyFrom 8 = .ok (.if_icmp .ge 20, 3) := by decide +kernel
theorem dX3_copyFrom_11 : decode cX3_copyFrom 11 = .ok (.aload_n 0, 1) := by decide +kernel
theorem dX3_copyFrom_12 : decode cX3_copyFrom 12 = .ok (.getfield 9, 3) := by decide +kernel
theorem dX3_copyFrom_15 : decode cX3_copyFrom 15 = .ok (.iload_n 2, 1) := by decide +kernel
theorem dX3_copyFrom_16 : decode cX3_copyFrom 16 = .ok (.aload_n 1, 1) := by decide +kernel
theorem dX3_copyFrom_17 : decode cX3_copyFrom 17 = .ok (.iload_n 2, 1) := by decide +kernel
theorem dX3_copyFrom_18 : decode cX3_copyFrom 18 = .ok (.invokevirtual 15, 3) := by decide +kernel
theorem dX3_copyFrom_21 : decode cX3_copyFrom 21 = .ok (.iastore, 1) := by decide +kernel
theorem dX3_copyFrom_22 : decode cX3_copyFrom 22 = .ok (.iinc 2 1, 3) := by decide +kernel
theorem dX3_copyFrom_25 : decode cX3_copyFrom 25 = .ok (.goto (-23), 3) := by decide +kernel
theorem dX3_copyFrom_28 : decode cX3_copyFrom 28 = .ok (.return_, 1) := by decide +kernel
set_option maxRecDepth 20000 in
theorem ggX4_init_X3_init : GoodIn wsX4_init wsX3_init := goodIn_r _ [15, 16, 2, 3, 17, 18, 19] (by decide +kernel) (by decide +kernel)
set_option maxRecDepth 20000 in
theorem gX4_init_X3_init : GoodIn wsX4_init (wsX3_init) := ggX4_init_X3_init
theorem dX4_init_0 : decode cX4_init 0 = .ok (.aload_n 0, 1) := by decide +kernel
theorem dX4_init_1 : decode cX4_init 1 = .ok (.invokespecial 3, 3) := by decide +kernel
theorem dX4_init_4 : decode cX4_init 4 = .ok (.aload_n 0, 1) := by decide +kernel
theorem dX4_init_5 : decode cX4_init 5 = .ok (.new 9, 3) := by decide +kernel
theorem dX4_init_8 : decode cX4_init 8 = .ok (.dup, 1) := by decide +kernel
theorem dX4_init_9 : decode cX4_init 9 = .ok (.bipush 20, 2) := by decide +kernel
theorem dX4_init_11 : decode cX4_init 11 = .ok (.invokespecial 11, 3) := by decide +kernel
theorem dX4_init_14 : decode cX4_init 14 = .ok (.putfield 14, 3) := by decide +kernel
theorem dX4_init_17 : decode cX4_init 17 = .ok (.aload_n 0, 1) := by decide +kernel
theorem dX4_init_18 : decode cX4_init 18 = .ok (.new 9, 3) := by decide +kernel
theorem dX4_init_21 : decode cX4_init 21 = .ok (.dup, 1) := by decide +kernel
theorem dX4_init_22 : decode cX4_init 22 = .ok (.bipush 20, 2) := by decide +kernel
theorem dX4_init_24 : decode cX4_init 24 = .ok (.invokespecial 11, 3) := by decide +kernel
theorem dX4_init_27 : decode cX4_init 27 = .ok (.putfield 20, 3) := by decide +kernel
theorem dX4_init_30 : decode cX4_init 30 = .ok (.aload_n 0, 1) := by decide +kernel
theorem dX4_init_31 : decode cX4_init 31 = .ok (.new 9, 3) := by decide +kernel
theorem dX4_init_34 : decode cX4_init 34 = .ok (.dup, 1) := by decide +kernel
theorem dX4_init_35 : decode cX4_init 35 = .ok (.bipush 6, 2) := by decide +kernel
theorem dX4_init_37 : decode cX4_init 37 = .ok (.invokespecial 11, 3) := by decide +kernel
theorem dX4_init_40 : decode cX4_init 40 = .ok (.putfield 23, 3) := by decide +kernel
theorem dX4_init_43 : decode cX4_init 43 = .ok (.aload_n 0, 1) := by decide +kernel
theorem dX4_init_44 : decode cX4_init 44 = .ok (.new 9, 3) := by decide +kernel
theorem dX4_init_47 : decode cX4_init 47 = .ok (.dup, 1) := by decide +kernel
theorem dX4_init_48 : decode cX4_init 48 = .ok (.bipush 6, 2) := by decide +kernel
theorem dX4_init_50 : decode cX4_init 50 = .ok (.invokespecial 11, 3) := by decide +kernel
theorem dX4_init_53 : decode cX4_init 53 = .ok (.putfield 26, 3) := by decide +kernel
theorem dX4_init_56 : decode cX4_init 56 = .ok (.aload_n 0, 1) := by decide +kernel
theorem dX4_init_57 : decode cX4_init 57 = .ok (.new 9, 3) := by decide +kernel
theorem dX4_init_60 : decode cX4_init 60 = .ok (.dup, 1) := by decide +kernel
theorem dX4_init_61 : decode cX4_init 61 = .ok (.bipush 6, 2) := by decide +kernel
theorem dX4_init_63 : decode cX4_init 63 = .ok (.invokespecial 11, 3) := by decide +kernel
theorem dX4_init_66 : decode cX4_init 66 = .ok (.putfield 29, 3) := by decide +kernel
theorem dX4_init_69 : decode cX4_init 69 = .ok (.aload_n 0, 1) := by decide +kernel
theorem dX4_init_70 : decode cX4_init 70 = .ok (.new 9, 3) := by decide +kernel
theorem dX4_init_73 : decode cX4_init 73 = .ok (.dup, 1) := by decide +kernel
theorem dX4_init_74 : decode cX4_init 74 = .ok (.bipush 6, 2) := by decide +kernel
theorem dX4_init_76 : decode cX4_init 76 = .ok (.invokespecial 11, 3) := by decide +kernel
theorem dX4_init_79 : decode cX4_init 79 = .ok (.putfield 32, 3) := by decide +kernel
theorem dX4_init_82 : decode cX4_init 82 = .ok (.return_, 1) := by decide +kernel
set_option maxRecDepth 20000 in
theorem ggX4_shareOut_X3_fill : GoodIn wsX4_shareOut wsX3_fill := goodIn_r _ [8, 9, 99] (by decide +kernel) (by decide +kernel)
set_option maxRecDepth 20000 in
theorem gX4_shareOut_X3_fill : GoodIn wsX4_shareOut (wsV RX4 35 RX3 yX3_fill wsX3_fill) := goodIn_app (goodIn_of _ (by decide +kernel)) ggX4_shareOut_X3_fill
set_option maxRecDepth 20000 in
theorem ggX4_shareOut_X1_countAtWork : GoodIn wsX4_shareOut wsX1_countAtWork := goodIn_r _ [14, 15, 16, 17, 13, 18, 19, 20, 21, 22, 7, 23, 9, 100, 101, 102, 103, 104, 105, 106, 107, 108, 109, 99] (by decide +kernel) (by decide +kernel)
set_option maxRecDepth 20000 in
theorem gX4_shareOut_X1_countAtWork : GoodIn wsX4_shareOut (wsV RX4 38 RX1 yX1_countAtWork wsX1_countAtWork) := goodIn_app (goodIn_of _ (by decide +kernel)) ggX4_shareOut_X1_countAtWork
set_option maxRecDepth 20000 in
theorem ggX4_shareOut_X1_countDoorsteps : GoodIn wsX4_shareOut wsX1_countDoorsteps := goodIn_r _ [27, 28, 100, 101, 102, 103, 104, 105, 106, 107, 108, 109] (by decide +kernel) (by decide +kernel)
set_option maxRecDepth 20000 in
theorem gX4_shareOut_X1_countDoorsteps : GoodIn wsX4_shareOut (wsV RX4 44 RX1 yX1_countDoorsteps wsX1_countDoorsteps) := goodIn_app (goodIn_of _ (by decide +kernel)) ggX4_shareOut_X1_countDoorsteps
set_option maxRecDepth 20000 in
theorem ggX4_shareOut_X4_setRounds : GoodIn wsX4_shareOut wsX4_setRounds := goodIn_r _ [33, 34, 35, 16, 17, 13, 18, 19, 20, 21, 22, 7, 23, 9, 36, 37, 38, 39, 28, 40, 41, 42, 43, 44, 93, 94, 95, 96, 97, 98, 100, 101, 102, 103, 104, 105, 106, 107, 108, 109, 99] (by decide +kernel) (by decide +kernel)
set_option maxRecDepth 20000 in
theorem gX4_shareOut_X4_setRounds : GoodIn wsX4_shareOut (wsV RX4 47 RX4 yX4_setRounds wsX4_setRounds) := goodIn_app (goodIn_of _ (by decide +kernel)) ggX4_shareOut_X4_setRounds
set_option maxRecDepth 20000 in
theorem ggX4_shareOut_X4_setQuotas : GoodIn wsX4_shareOut wsX4_setQuotas := goodIn_r _ [48, 34, 49, 50, 21, 22, 7, 23, 9, 41, 42, 43, 44, 51, 52, 53, 32, 54, 93, 94, 95, 96, 97, 98, 99] (by decide +kernel) (by decide +kernel)
set_option maxRecDepth 20000 in
theorem gX4_shareOut_X4_setQuotas : GoodIn wsX4_shareOut (wsV RX4 51 RX4 yX4_setQuotas wsX4_setQuotas) := goodIn_app (goodIn_of _ (by decide +kernel)) ggX4_shareOut_X4_setQuotas
set_option maxRecDepth 20000 in
theorem ggX4_shareOut_X4_setOrder : GoodIn wsX4_shareOut wsX4_setOrder := goodIn_r _ [58, 59, 24, 25, 26, 13, 27, 28, 60, 61, 62, 63, 64, 20, 21, 22, 7, 23, 9, 41, 42, 43, 44, 93, 94, 95, 96, 97, 98, 100, 101, 102, 103, 104, 105, 106, 107, 108, 109, 99] (by decide +kernel) (by decide +kernel)
set_option maxRecDepth 20000 in
theorem gX4_shareOut_X4_setOrder : GoodIn wsX4_shareOut (wsV RX4 55 RX4 yX4_setOrder wsX4_setOrder) := goodIn_app (goodIn_of _ (by decide +kernel)) ggX4_shareOut_X4_setOrder
set_option maxRecDepth 20000 in
theorem ggX4_shareOut_X4_keepRounds : GoodIn wsX4_shareOut wsX4_keepRounds := goodIn_r _ [68, 59, 2, 49, 24, 25, 26, 13, 27, 28, 50, 21, 22, 7, 23, 9, 69, 70, 71, 72, 40, 20, 60, 61, 62, 63, 64, 73, 74, 75, 32, 76, 1, 3, 41, 42, 43, 44, 77, 78, 79, 80, 93, 94, 95, 96, 97, 98, 100, 101, 102, 103, 104, 105, 106, 107, 108, 109, 99] (by decide +kernel) (by decide +kernel)
set_option maxRecDepth 20000 in
theorem gX4_shareOut_X4_keepRounds : GoodIn wsX4_shareOut (wsV RX4 58 RX4 yX4_keepRounds wsX4_keepRounds) := goodIn_app (goodIn_of _ (by decide +kernel)) ggX4_shareOut_X4_keepRounds
set_option maxRecDepth 20000 in
theorem ggX4_shareOut_X4_giveOutOthers : GoodIn wsX4_shareOut wsX4_giveOutOthers := goodIn_r _ [84, 59, 1, 24, 25, 26, 13, 27, 28, 50, 21, 22, 7, 23, 9, 85, 86, 87, 32, 88, 2, 49, 3, 60, 61, 62, 63, 64, 20, 73, 74, 75, 76, 41, 42, 43, 44, 77, 78, 79, 80, 93, 94, 95, 96, 97, 98, 100, 101, 102, 103, 104, 105, 106, 107, 108, 109, 99] (by decide +kernel) (by decide +kernel)
set_option maxRecDepth 20000 in
theorem gX4_shareOut_X4_giveOutOthers : GoodIn wsX4_shareOut (wsV RX4 61 RX4 yX4_giveOutOthers wsX4_giveOutOthers) := goodIn_app (goodIn_of _ (by decide +kernel)) ggX4_shareOut_X4_giveOutOthers
set_option maxRecDepth 20000 in
theorem ggX4_shareOut_X4_countChanges : GoodIn wsX4_shareOut wsX4_countChanges := goodIn_r _ [92, 1, 24, 25, 26, 13, 27, 28, 50, 21, 22, 7, 23, 9, 69, 70, 71, 72, 40, 20, 93, 94, 95, 96, 97, 98, 100, 101, 102, 103, 104, 105, 106, 107, 108, 109, 99] (by decide +kernel) (by decide +kernel)
set_option maxRecDepth 20000 in
theorem gX4_shareOut_X4_countChanges : GoodIn wsX4_shareOut (wsV RX4 64 RX4 yX4_countChanges wsX4_countChanges) := goodIn_app (goodIn_of _ (by decide +kernel)) ggX4_shareOut_X4_countChanges
theorem dX4_shareOut_0 : decode cX4_shareOut 0 = .ok (.aload_n 0, 1) := by decide +kernel
theorem dX4_shareOut_1 : decode cX4_shareOut 1 = .ok (.getfield 14, 3) := by decide +kernel
theorem dX4_shareOut_4 : decode cX4_shareOut 4 = .ok (.iconst (-1), 1) := by decide +kernel
theorem dX4_shareOut_5 : decode cX4_shareOut 5 = .ok (.invokevirtual 35, 3) := by decide +kernel
theorem dX4_shareOut_8 : decode cX4_shareOut 8 = .ok (.aload_n 0, 1) := by decide +kernel
theorem dX4_shareOut_9 : decode cX4_shareOut 9 = .ok (.getfield 29, 3) := by decide +kernel
theorem dX4_shareOut_12 : decode cX4_shareOut 12 = .ok (.iconst 0, 1) := by decide +kernel
theorem dX4_shareOut_13 : decode cX4_shareOut 13 = .ok (.invokevirtual 35, 3) := by decide +kernel
theorem dX4_shareOut_16 : decode cX4_shareOut 16 = .ok (.aload_n 0, 1) := by decide +kernel
theorem dX4_shareOut_17 : decode cX4_shareOut 17 = .ok (.getfield 32, 3) := by decide +kernel
theorem dX4_shareOut_20 : decode cX4_shareOut 20 = .ok (.iconst 0, 1) := by decide +kernel
theorem dX4_shareOut_21 : decode cX4_shareOut 21 = .ok (.invokevirtual 35, 3) := by decide +kernel
theorem dX4_shareOut_24 : decode cX4_shareOut 24 = .ok (.aload_n 1, 1) := by decide +kernel
theorem dX4_shareOut_25 : decode cX4_shareOut 25 = .ok (.invokevirtual 38, 3) := by decide +kernel
theorem dX4_shareOut_28 : decode cX4_shareOut 28 = .ok (.istore_n 2, 1) := by decide +kernel
theorem dX4_shareOut_29 : decode cX4_shareOut 29 = .ok (.iload_n 2, 1) := by decide +kernel
theorem dX4_shareOut_30 : decode cX4_shareOut 30 = .ok (.ifCond .gt 5, 3) := by decide +kernel
theorem dX4_shareOut_33 : decode cX4_shareOut 33 = .ok (.iconst (-1), 1) := by decide +kernel
theorem dX4_shareOut_34 : decode cX4_shareOut 34 = .ok (.ireturn, 1) := by decide +kernel
theorem dX4_shareOut_35 : decode cX4_shareOut 35 = .ok (.aload_n 1, 1) := by decide +kernel
theorem dX4_shareOut_36 : decode cX4_shareOut 36 = .ok (.invokevirtual 44, 3) := by decide +kernel
theorem dX4_shareOut_39 : decode cX4_shareOut 39 = .ok (.istore_n 3, 1) := by decide +kernel
theorem dX4_shareOut_40 : decode cX4_shareOut 40 = .ok (.aload_n 0, 1) := by decide +kernel
theorem dX4_shareOut_41 : decode cX4_shareOut 41 = .ok (.aload_n 1, 1) := by decide +kernel
theorem dX4_shareOut_42 : decode cX4_shareOut 42 = .ok (.invokevirtual 47, 3) := by decide +kernel
theorem dX4_shareOut_45 : decode cX4_shareOut 45 = .ok (.aload_n 0, 1) := by decide +kernel
theorem dX4_shareOut_46 : decode cX4_shareOut 46 = .ok (.iload_n 3, 1) := by decide +kernel
theorem dX4_shareOut_47 : decode cX4_shareOut 47 = .ok (.iload_n 2, 1) := by decide +kernel
theorem dX4_shareOut_48 : decode cX4_shareOut 48 = .ok (.idiv, 1) := by decide +kernel
theorem dX4_shareOut_49 : decode cX4_shareOut 49 = .ok (.iload_n 3, 1) := by decide +kernel
theorem dX4_shareOut_50 : decode cX4_shareOut 50 = .ok (.iload_n 2, 1) := by decide +kernel
theorem dX4_shareOut_51 : decode cX4_shareOut 51 = .ok (.irem, 1) := by decide +kernel
theorem dX4_shareOut_52 : decode cX4_shareOut 52 = .ok (.invokevirtual 51, 3) := by decide +kernel
theorem dX4_shareOut_55 : decode cX4_shareOut 55 = .ok (.aload_n 0, 1) := by decide +kernel
theorem dX4_shareOut_56 : decode cX4_shareOut 56 = .ok (.aload_n 1, 1) := by decide +kernel
theorem dX4_shareOut_57 : decode cX4_shareOut 57 = .ok (.invokevirtual 55, 3) := by decide +kernel
theorem dX4_shareOut_60 : decode cX4_shareOut 60 = .ok (.aload_n 0, 1) := by decide +kernel
theorem dX4_shareOut_61 : decode cX4_shareOut 61 = .ok (.aload_n 1, 1) := by decide +kernel
theorem dX4_shareOut_62 : decode cX4_shareOut 62 = .ok (.invokevirtual 58, 3) := by decide +kernel
theorem dX4_shareOut_65 : decode cX4_shareOut 65 = .ok (.aload_n 0, 1) := by decide +kernel
theorem dX4_shareOut_66 : decode cX4_shareOut 66 = .ok (.aload_n 1, 1) := by decide +kernel
theorem dX4_shareOut_67 : decode cX4_shareOut 67 = .ok (.invokevirtual 61, 3) := by decide +kernel
theorem dX4_shareOut_70 : decode cX4_shareOut 70 = .ok (.aload_n 0, 1) := by decide +kernel
theorem dX4_shareOut_71 : decode cX4_shareOut 71 = .ok (.aload_n 1, 1) := by decide +kernel
theorem dX4_shareOut_72 : decode cX4_shareOut 72 = .ok (.invokevirtual 64, 3) := by decide +kernel
theorem dX4_shareOut_75 : decode cX4_shareOut 75 = .ok (.ireturn, 1) := by decide +kernel
set_option maxRecDepth 20000 in
theorem ggX4_ownerInPlan_X3_at : GoodIn wsX4_ownerInPlan wsX3_at := goodIn_r _ [6, 7, 14] (by decide +kernel) (by decide +kernel)
set_option maxRecDepth 20000 in
theorem gX4_ownerInPlan_X3_at : GoodIn wsX4_ownerInPlan (wsV RX4 68 RX3 yX3_at wsX3_at) := goodIn_app (goodIn_of _ (by decide +kernel)) ggX4_ownerInPlan_X3_at
theorem dX4_ownerInPlan_0 : decode cX4_ownerInPlan 0 = .ok (.aload_n 0, 1) := by decide +kernel
theorem dX4_ownerInPlan_1 : decode cX4_ownerInPlan 1 = .ok (.getfield 14, 3) := by decide +kernel
theorem dX4_ownerInPlan_4 : decode cX4_ownerInPlan 4 = .ok (.iload_n 1, 1) := by decide +kernel
theorem dX4_ownerInPlan_5 : decode cX4_ownerInPlan 5 = .ok (.invokevirtual 68, 3) := by decide +kernel
theorem dX4_ownerInPlan_8 : decode cX4_ownerInPlan 8 = .ok (.ireturn, 1) := by decide +kernel
set_option maxRecDepth 20000 in
theorem ggX4_setRounds_X1_works : GoodIn wsX4_setRounds wsX1_works := goodIn_r _ [6, 7, 8, 9, 10, 11, 12, 13, 30, 31, 32, 33, 34, 35, 36, 37, 38, 39, 40] (by decide +kernel) (by decide +kernel)
set_option maxRecDepth 20000 in
theorem gX4_setRounds_X1_works : GoodIn wsX4_setRounds (wsV RX4 72 RX1 yX1_works wsX1_works) := goodIn_app (goodIn_of _ (by decide +kernel)) ggX4_setRounds_X1_works
set_option maxRecDepth 20000 in
theorem ggX4_setRounds_X1_roundSize : GoodIn wsX4_setRounds wsX1_roundSize := goodIn_r _ [17, 18, 19, 8, 9, 10, 11, 12, 13, 30, 31, 32, 33, 34, 35, 36, 37, 38, 39, 40] (by decide +kernel) (by decide +kernel)
set_option maxRecDepth 20000 in
theorem gX4_setRounds_X1_roundSize : GoodIn wsX4_setRounds (wsV RX4 76 RX1 yX1_roundSize wsX1_roundSize) := goodIn_app (goodIn_of _ (by decide +kernel)) ggX4_setRounds_X1_roundSize
set_option maxRecDepth 20000 in
theorem ggX4_setRounds_X3_put : GoodIn wsX4_setRounds wsX3_put := goodIn_r _ [23, 13, 40] (by decide +kernel) (by decide +kernel)
set_option maxRecDepth 20000 in
theorem gX4_setRounds_X3_put : GoodIn wsX4_setRounds (wsV RX4 79 RX3 yX3_put wsX3_put) := goodIn_app (goodIn_of _ (by decide +kernel)) ggX4_setRounds_X3_put
theorem dX4_setRounds_0 : decode cX4_setRounds 0 = .ok (.iconst 0, 1) := by decide +kernel
theorem dX4_setRounds_1 : decode cX4_setRounds 1 = .ok (.istore_n 2, 1) := by decide +kernel
theorem dX4_setRounds_2 : decode cX4_setRounds 2 = .ok (.iload_n 2, 1) := by decide +kernel
theorem dX4_setRounds_3 : decode cX4_setRounds 3 = .ok (.bipush 6, 2) := by decide +kernel
theorem dX4_setRounds_5 : decode cX4_setRounds 5 = .ok (.if_icmp .ge 34, 3) := by decide +kernel
theorem dX4_setRounds_8 : decode cX4_setRounds 8 = .ok (.aload_n 0, 1) := by decide +kernel
theorem dX4_setRounds_9 : decode cX4_setRounds 9 = .ok (.getfield 23, 3) := by decide +kernel
theorem dX4_setRounds_12 : decode cX4_setRounds 12 = .ok (.iload_n 2, 1) := by decide +kernel
theorem dX4_setRounds_13 : decode cX4_setRounds 13 = .ok (.aload_n 1, 1) := by decide +kernel
theorem dX4_setRounds_14 : decode cX4_setRounds 14 = .ok (.iload_n 2, 1) := by decide +kernel
theorem dX4_setRounds_15 : decode cX4_setRounds 15 = .ok (.invokevirtual 72, 3) := by decide +kernel
theorem dX4_setRounds_18 : decode cX4_setRounds 18 = .ok (.ifCond .eq 11, 3) := by decide +kernel
theorem dX4_setRounds_21 : decode cX4_setRounds 21 = .ok (.aload_n 1, 1) := by decide +kernel
theorem dX4_setRounds_22 : decode cX4_setRounds 22 = .ok (.iload_n 2, 1) := by decide +kernel
theorem dX4_setRounds_23 : decode cX4_setRounds 23 = .ok (.invokevirtual 76, 3) := by decide +kernel
theorem dX4_setRounds_26 : decode cX4_setRounds 26 = .ok (.goto 4, 3) := by decide +kernel
theorem dX4_setRounds_29 : decode cX4_setRounds 29 = .ok (.iconst (-1), 1) := by decide +kernel
theorem dX4_setRounds_30 : decode cX4_setRounds 30 = .ok (.invokevirtual 79, 3) := by decide +kernel
theorem dX4_setRounds_33 : decode cX4_setRounds 33 = .ok (.iinc 2 1, 3) := by decide +kernel
theorem dX4_setRounds_36 : decode cX4_setRounds 36 = .ok (.goto (-34), 3) := by decide +kernel
theorem dX4_setRounds_39 : decode cX4_setRounds 39 = .ok (.return_, 1) := by decide +kernel
set_option maxRecDepth 20000 in
theorem ggX4_setQuotas_X3_at : GoodIn wsX4_setQuotas wsX3_at := goodIn_r _ [7, 8, 24] (by decide +kernel) (by decide +kernel)
set_option maxRecDepth 20000 in
theorem gX4_setQuotas_X3_at : GoodIn wsX4_setQuotas (wsV RX4 68 RX3 yX3_at wsX3_at) := goodIn_app (goodIn_of _ (by decide +kernel)) ggX4_setQuotas_X3_at
set_option maxRecDepth 20000 in
theorem ggX4_setQuotas_X3_put : GoodIn wsX4_setQuotas wsX3_put := goodIn_r _ [12, 8, 24] (by decide +kernel) (by decide +kernel)
set_option maxRecDepth 20000 in
theorem gX4_setQuotas_X3_put : GoodIn wsX4_setQuotas (wsV RX4 79 RX3 yX3_put wsX3_put) := goodIn_app (goodIn_of _ (by decide +kernel)) ggX4_setQuotas_X3_put
set_option maxRecDepth 20000 in
theorem ggX4_setQuotas_X4_countAhead : GoodIn wsX4_setQuotas wsX4_countAhead := goodIn_r _ [17, 1, 3, 4, 5, 6, 7, 8, 18, 19, 20, 21, 22, 23, 24] (by decide +kernel) (by decide +kernel)
set_option maxRecDepth 20000 in
theorem gX4_setQuotas_X4_countAhead : GoodIn wsX4_setQuotas (wsV RX4 82 RX4 yX4_countAhead wsX4_countAhead) := goodIn_app (goodIn_of _ (by decide +kernel)) ggX4_setQuotas_X4_countAhead
theorem dX4_setQuotas_0 : decode cX4_setQuotas 0 = .ok (.iconst 0, 1) := by decide +kernel
theorem dX4_setQuotas_1 : decode cX4_setQuotas 1 = .ok (.istore_n 3, 1) := by decide +kernel
theorem dX4_setQuotas_2 : decode cX4_setQuotas 2 = .ok (.iload_n 3, 1) := by decide +kernel
theorem dX4_setQuotas_3 : decode cX4_setQuotas 3 = .ok (.bipush 6, 2) := by decide +kernel
theorem dX4_setQuotas_5 : decode cX4_setQuotas 5 = .ok (.if_icmp .ge 57, 3) := by decide +kernel
theorem dX4_setQuotas_8 : decode cX4_setQuotas 8 = .ok (.aload_n 0, 1) := by decide +kernel
theorem dX4_setQuotas_9 : decode cX4_setQuotas 9 = .ok (.getfield 23, 3) := by decide +kernel
theorem dX4_setQuotas_12 : decode cX4_setQuotas 12 = .ok (.iload_n 3, 1) := by decide +kernel
theorem dX4_setQuotas_13 : decode cX4_setQuotas 13 = .ok (.invokevirtual 68, 3) := by decide +kernel
theorem dX4_setQuotas_16 : decode cX4_setQuotas 16 = .ok (.iconst (-1), 1) := by decide +kernel
theorem dX4_setQuotas_17 : decode cX4_setQuotas 17 = .ok (.if_icmp .ne 15, 3) := by decide +kernel
theorem dX4_setQuotas_20 : decode cX4_setQuotas 20 = .ok (.aload_n 0, 1) := by decide +kernel
theorem dX4_setQuotas_21 : decode cX4_setQuotas 21 = .ok (.getfield 26, 3) := by decide +kernel
theorem dX4_setQuotas_24 : decode cX4_setQuotas 24 = .ok (.iload_n 3, 1) := by decide +kernel
theorem dX4_setQuotas_25 : decode cX4_setQuotas 25 = .ok (.iconst 0, 1) := by decide +kernel
theorem dX4_setQuotas_26 : decode cX4_setQuotas 26 = .ok (.invokevirtual 79, 3) := by decide +kernel
theorem dX4_setQuotas_29 : decode cX4_setQuotas 29 = .ok (.goto 27, 3) := by decide +kernel
theorem dX4_setQuotas_32 : decode cX4_setQuotas 32 = .ok (.aload_n 0, 1) := by decide +kernel
theorem dX4_setQuotas_33 : decode cX4_setQuotas 33 = .ok (.getfield 26, 3) := by decide +kernel
theorem dX4_setQuotas_36 : decode cX4_setQuotas 36 = .ok (.iload_n 3, 1) := by decide +kernel
theorem dX4_setQuotas_37 : decode cX4_setQuotas 37 = .ok (.aload_n 0, 1) := by decide +kernel
theorem dX4_setQuotas_38 : decode cX4_setQuotas 38 = .ok (.iload_n 3, 1) := by decide +kernel
theorem dX4_setQuotas_39 : decode cX4_setQuotas 39 = .ok (.invokevirtual 82, 3) := by decide +kernel
theorem dX4_setQuotas_42 : decode cX4_setQuotas 42 = .ok (.iload_n 2, 1) := by decide +kernel
theorem dX4_setQuotas_43 : decode cX4_setQuotas 43 = .ok (.if_icmp .ge 9, 3) := by decide +kernel
theorem dX4_setQuotas_46 : decode cX4_setQuotas 46 = .ok (.iload_n 1, 1) := by decide +kernel
theorem dX4_setQuotas_47 : decode cX4_setQuotas 47 = .ok (.iconst 1, 1) := by decide +kernel
theorem dX4_setQuotas_48 : decode cX4_setQuotas 48 = .ok (.iadd, 1) := by decide +kernel
theorem dX4_setQuotas_49 : decode cX4_setQuotas 49 = .ok (.goto 4, 3) := by decide +kernel
theorem dX4_setQuotas_52 : decode cX4_setQuotas 52 = .ok (.iload_n 1, 1) := by decide +kernel
theorem dX4_setQuotas_53 : decode cX4_setQuotas 53 = .ok (.invokevirtual 79, 3) := by decide +kernel
theorem dX4_setQuotas_56 : decode cX4_setQuotas 56 = .ok (.iinc 3 1, 3) := by decide +kernel
theorem dX4_setQuotas_59 : decode cX4_setQuotas 59 = .ok (.goto (-57), 3) := by decide +kernel
theorem dX4_setQuotas_62 : decode cX4_setQuotas 62 = .ok (.return_, 1) := by decide +kernel
set_option maxRecDepth 20000 in
theorem ggX4_countAhead_X3_at : GoodIn wsX4_countAhead wsX3_at := goodIn_r _ [6, 7, 14] (by decide +kernel) (by decide +kernel)
set_option maxRecDepth 20000 in
theorem gX4_countAhead_X3_at : GoodIn wsX4_countAhead (wsV RX4 68 RX3 yX3_at wsX3_at) := goodIn_app (goodIn_of _ (by decide +kernel)) ggX4_countAhead_X3_at
theorem dX4_countAhead_0 : decode cX4_countAhead 0 = .ok (.iconst 0, 1) := by decide +kernel
theorem dX4_countAhead_1 : decode cX4_countAhead 1 = .ok (.istore_n 2, 1) := by decide +kernel
theorem dX4_countAhead_2 : decode cX4_countAhead 2 = .ok (.aload_n 0, 1) := by decide +kernel
theorem dX4_countAhead_3 : decode cX4_countAhead 3 = .ok (.getfield 23, 3) := by decide +kernel
theorem dX4_countAhead_6 : decode cX4_countAhead 6 = .ok (.iload_n 1, 1) := by decide +kernel
theorem dX4_countAhead_7 : decode cX4_countAhead 7 = .ok (.invokevirtual 68, 3) := by decide +kernel
theorem dX4_countAhead_10 : decode cX4_countAhead 10 = .ok (.istore_n 3, 1) := by decide +kernel
theorem dX4_countAhead_11 : decode cX4_countAhead 11 = .ok (.iconst 0, 1) := by decide +kernel
theorem dX4_countAhead_12 : decode cX4_countAhead 12 = .ok (.istore 4, 2) := by decide +kernel
theorem dX4_countAhead_14 : decode cX4_countAhead 14 = .ok (.iload 4, 2) := by decide +kernel
theorem dX4_countAhead_16 : decode cX4_countAhead 16 = .ok (.bipush 6, 2) := by decide +kernel
theorem dX4_countAhead_18 : decode cX4_countAhead 18 = .ok (.if_icmp .ge 41, 3) := by decide +kernel
theorem dX4_countAhead_21 : decode cX4_countAhead 21 = .ok (.aload_n 0, 1) := by decide +kernel
theorem dX4_countAhead_22 : decode cX4_countAhead 22 = .ok (.getfield 23, 3) := by decide +kernel
theorem dX4_countAhead_25 : decode cX4_countAhead 25 = .ok (.iload 4, 2) := by decide +kernel
theorem dX4_countAhead_27 : decode cX4_countAhead 27 = .ok (.invokevirtual 68, 3) := by decide +kernel
theorem dX4_countAhead_30 : decode cX4_countAhead 30 = .ok (.istore 5, 2) := by decide +kernel
theorem dX4_countAhead_32 : decode cX4_countAhead 32 = .ok (.iload 5, 2) := by decide +kernel
theorem dX4_countAhead_34 : decode cX4_countAhead 34 = .ok (.iload_n 3, 1) := by decide +kernel
theorem dX4_countAhead_35 : decode cX4_countAhead 35 = .ok (.if_icmp .gt 15, 3) := by decide +kernel
theorem dX4_countAhead_38 : decode cX4_countAhead 38 = .ok (.iload 5, 2) := by decide +kernel
theorem dX4_countAhead_40 : decode cX4_countAhead 40 = .ok (.iload_n 3, 1) := by decide +kernel
theorem dX4_countAhead_41 : decode cX4_countAhead 41 = .ok (.if_icmp .ne 12, 3) := by decide +kernel
theorem dX4_countAhead_44 : decode cX4_countAhead 44 = .ok (.iload 4, 2) := by decide +kernel
theorem dX4_countAhead_46 : decode cX4_countAhead 46 = .ok (.iload_n 1, 1) := by decide +kernel
theorem dX4_countAhead_47 : decode cX4_countAhead 47 = .ok (.if_icmp .ge 6, 3) := by decide +kernel
theorem dX4_countAhead_50 : decode cX4_countAhead 50 = .ok (.iinc 2 1, 3) := by decide +kernel
theorem dX4_countAhead_53 : decode cX4_countAhead 53 = .ok (.iinc 4 1, 3) := by decide +kernel
theorem dX4_countAhead_56 : decode cX4_countAhead 56 = .ok (.goto (-42), 3) := by decide +kernel
theorem dX4_countAhead_59 : decode cX4_countAhead 59 = .ok (.iload_n 2, 1) := by decide +kernel
theorem dX4_countAhead_60 : decode cX4_countAhead 60 = .ok (.ireturn, 1) := by decide +kernel
set_option maxRecDepth 20000 in
theorem ggX4_setOrder_X1_countDoorsteps : GoodIn wsX4_setOrder wsX1_countDoorsteps := goodIn_r _ [6, 7, 29, 30, 31, 32, 33, 34, 35, 36, 37, 38] (by decide +kernel) (by decide +kernel)
set_option maxRecDepth 20000 in
theorem gX4_setOrder_X1_countDoorsteps : GoodIn wsX4_setOrder (wsV RX4 44 RX1 yX1_countDoorsteps wsX1_countDoorsteps) := goodIn_app (goodIn_of _ (by decide +kernel)) ggX4_setOrder_X1_countDoorsteps
set_option maxRecDepth 20000 in
theorem ggX4_setOrder_X1_pintsOf : GoodIn wsX4_setOrder wsX1_pintsOf := goodIn_r _ [11, 12, 13, 14, 15, 16, 17, 18, 29, 30, 31, 32, 33, 34, 35, 36, 37, 38, 39] (by decide +kernel) (by decide +kernel)
set_option maxRecDepth 20000 in
theorem gX4_setOrder_X1_pintsOf : GoodIn wsX4_setOrder (wsV RX4 85 RX1 yX1_pintsOf wsX1_pintsOf) := goodIn_app (goodIn_of _ (by decide +kernel)) ggX4_setOrder_X1_pintsOf
set_option maxRecDepth 20000 in
theorem ggX4_setOrder_X3_put : GoodIn wsX4_setOrder wsX3_put := goodIn_r _ [22, 18, 39] (by decide +kernel) (by decide +kernel)
set_option maxRecDepth 20000 in
theorem gX4_setOrder_X3_put : GoodIn wsX4_setOrder (wsV RX4 79 RX3 yX3_put wsX3_put) := goodIn_app (goodIn_of _ (by decide +kernel)) ggX4_setOrder_X3_put
theorem dX4_setOrder_0 : decode cX4_setOrder 0 = .ok (.iconst 0, 1) := by decide +kernel
theorem dX4_setOrder_1 : decode cX4_setOrder 1 = .ok (.istore_n 2, 1) := by decide +kernel
theorem dX4_setOrder_2 : decode cX4_setOrder 2 = .ok (.bipush 9, 2) := by decide +kernel
theorem dX4_setOrder_4 : decode cX4_setOrder 4 = .ok (.istore_n 3, 1) := by decide +kernel
theorem dX4_setOrder_5 : decode cX4_setOrder 5 = .ok (.iload_n 3, 1) := by decide +kernel
theorem dX4_setOrder_6 : decode cX4_setOrder 6 = .ok (.ifCond .le 50, 3) := by decide +kernel
theorem dX4_setOrder_9 : decode cX4_setOrder 9 = .ok (.iconst 0, 1) := by decide +kernel
theorem dX4_setOrder_10 : decode cX4_setOrder 10 = .ok (.istore 4, 2) := by decide +kernel
theorem dX4_setOrder_12 : decode cX4_setOrder 12 = .ok (.iload 4, 2) := by decide +kernel
theorem dX4_setOrder_14 : decode cX4_setOrder 14 = .ok (.aload_n 1, 1) := by decide +kernel
theorem dX4_setOrder_15 : decode cX4_setOrder 15 = .ok (.invokevirtual 44, 3) := by decide +kernel
theorem dX4_setOrder_18 : decode cX4_setOrder 18 = .ok (.if_icmp .ge 32, 3) := by decide +kernel
theorem dX4_setOrder_21 : decode cX4_setOrder 21 = .ok (.aload_n 1, 1) := by decide +kernel
theorem dX4_setOrder_22 : decode cX4_setOrder 22 = .ok (.iload 4, 2) := by decide +kernel
theorem dX4_setOrder_24 : decode cX4_setOrder 24 = .ok (.invokevirtual 85, 3) := by decide +kernel
theorem dX4_setOrder_27 : decode cX4_setOrder 27 = .ok (.iload_n 3, 1) := by decide +kernel
theorem dX4_setOrder_28 : decode cX4_setOrder 28 = .ok (.if_icmp .ne 16, 3) := by decide +kernel
theorem dX4_setOrder_31 : decode cX4_setOrder 31 = .ok (.aload_n 0, 1) := by decide +kernel
theorem dX4_setOrder_32 : decode cX4_setOrder 32 = .ok (.getfield 20, 3) := by decide +kernel
theorem dX4_setOrder_35 : decode cX4_setOrder 35 = .ok (.iload_n 2, 1) := by decide +kernel
theorem dX4_setOrder_36 : decode cX4_setOrder 36 = .ok (.iload 4, 2) := by decide +kernel
theorem dX4_setOrder_38 : decode cX4_setOrder 38 = .ok (.invokevirtual 79, 3) := by decide +kernel
theorem dX4_setOrder_41 : decode cX4_setOrder 41 = .ok (.iinc 2 1, 3) := by decide +kernel
theorem dX4_setOrder_44 : decode cX4_setOrder 44 = .ok (.iinc 4 1, 3) := by decide +kernel
theorem dX4_setOrder_47 : decode cX4_setOrder 47 = .ok (.goto (-35), 3) := by decide +kernel
theorem dX4_setOrder_50 : decode cX4_setOrder 50 = .ok (.iinc 3 (-1), 3) := by decide +kernel
theorem dX4_setOrder_53 : decode cX4_setOrder 53 = .ok (.goto (-48), 3) := by decide +kernel
theorem dX4_setOrder_56 : decode cX4_setOrder 56 = .ok (.return_, 1) := by decide +kernel
set_option maxRecDepth 20000 in
theorem ggX4_keepRounds_X1_countDoorsteps : GoodIn wsX4_keepRounds wsX1_countDoorsteps := goodIn_r _ [8, 9, 48, 49, 50, 51, 52, 53, 54, 55, 56, 57] (by decide +kernel) (by decide +kernel)
set_option maxRecDepth 20000 in
theorem gX4_keepRounds_X1_countDoorsteps : GoodIn wsX4_keepRounds (wsV RX4 44 RX1 yX1_countDoorsteps wsX1_countDoorsteps) := goodIn_app (goodIn_of _ (by decide +kernel)) ggX4_keepRounds_X1_countDoorsteps
set_option maxRecDepth 20000 in
theorem ggX4_keepRounds_X3_at : GoodIn wsX4_keepRounds wsX3_at := goodIn_r _ [14, 15, 58] (by decide +kernel) (by decide +kernel)
set_option maxRecDepth 20000 in
theorem gX4_keepRounds_X3_at : GoodIn wsX4_keepRounds (wsV RX4 68 RX3 yX3_at wsX3_at) := goodIn_app (goodIn_of _ (by decide +kernel)) ggX4_keepRounds_X3_at
set_option maxRecDepth 20000 in
theorem ggX4_keepRounds_X1_ownerOf : GoodIn wsX4_keepRounds wsX1_ownerOf := goodIn_r _ [19, 20, 21, 11, 12, 13, 14, 15, 48, 49, 50, 51, 52, 53, 54, 55, 56, 57, 58] (by decide +kernel) (by decide +kernel)
set_option maxRecDepth 20000 in
theorem gX4_keepRounds_X1_ownerOf : GoodIn wsX4_keepRounds (wsV RX4 88 RX1 yX1_ownerOf wsX1_ownerOf) := goodIn_app (goodIn_of _ (by decide +kernel)) ggX4_keepRounds_X1_ownerOf
set_option maxRecDepth 20000 in
theorem ggX4_keepRounds_X1_pintsOf : GoodIn wsX4_keepRounds wsX1_pintsOf := goodIn_r _ [25, 26, 21, 11, 12, 13, 14, 15, 48, 49, 50, 51, 52, 53, 54, 55, 56, 57, 58] (by decide +kernel) (by decide +kernel)
set_option maxRecDepth 20000 in
theorem gX4_keepRounds_X1_pintsOf : GoodIn wsX4_keepRounds (wsV RX4 85 RX1 yX1_pintsOf wsX1_pintsOf) := goodIn_app (goodIn_of _ (by decide +kernel)) ggX4_keepRounds_X1_pintsOf
set_option maxRecDepth 20000 in
theorem ggX4_keepRounds_X4_give : GoodIn wsX4_keepRounds wsX4_give := goodIn_r _ [31, 32, 2, 33, 34, 35, 36, 13, 37, 15, 38, 39, 40, 41, 42, 43, 44, 45, 46, 47, 58] (by decide +kernel) (by decide +kernel)
set_option maxRecDepth 20000 in
theorem gX4_keepRounds_X4_give : GoodIn wsX4_keepRounds (wsV RX4 91 RX4 yX4_give wsX4_give) := goodIn_app (goodIn_of _ (by decide +kernel)) ggX4_keepRounds_X4_give
theorem dX4_keepRounds_0 : decode cX4_keepRounds 0 = .ok (.iconst 0, 1) := by decide +kernel
theorem dX4_keepRounds_1 : decode cX4_keepRounds 1 = .ok (.istore_n 2, 1) := by decide +kernel
theorem dX4_keepRounds_2 : decode cX4_keepRounds 2 = .ok (.iload_n 2, 1) := by decide +kernel
theorem dX4_keepRounds_3 : decode cX4_keepRounds 3 = .ok (.aload_n 1, 1) := by decide +kernel
theorem dX4_keepRounds_4 : decode cX4_keepRounds 4 = .ok (.invokevirtual 44, 3) := by decide +kernel
theorem dX4_keepRounds_7 : decode cX4_keepRounds 7 = .ok (.if_icmp .ge 64, 3) := by decide +kernel
theorem dX4_keepRounds_10 : decode cX4_keepRounds 10 = .ok (.aload_n 0, 1) := by decide +kernel
theorem dX4_keepRounds_11 : decode cX4_keepRounds 11 = .ok (.getfield 20, 3) := by decide +kernel
theorem dX4_keepRounds_14 : decode cX4_keepRounds 14 = .ok (.iload_n 2, 1) := by decide +kernel
theorem dX4_keepRounds_15 : decode cX4_keepRounds 15 = .ok (.invokevirtual 68, 3) := by decide +kernel
theorem dX4_keepRounds_18 : decode cX4_keepRounds 18 = .ok (.istore_n 3, 1) := by decide +kernel
theorem dX4_keepRounds_19 : decode cX4_keepRounds 19 = .ok (.aload_n 1, 1) := by decide +kernel
theorem dX4_keepRounds_20 : decode cX4_keepRounds 20 = .ok (.iload_n 3, 1) := by decide +kernel
theorem dX4_keepRounds_21 : decode cX4_keepRounds 21 = .ok (.invokevirtual 88, 3) := by decide +kernel
theorem dX4_keepRounds_24 : decode cX4_keepRounds 24 = .ok (.istore 4, 2) := by decide +kernel
theorem dX4_keepRounds_26 : decode cX4_keepRounds 26 = .ok (.iload 4, 2) := by decide +kernel
theorem dX4_keepRounds_28 : decode cX4_keepRounds 28 = .ok (.iconst (-1), 1) := by decide +kernel
theorem dX4_keepRounds_29 : decode cX4_keepRounds 29 = .ok (.if_icmp .eq 36, 3) := by decide +kernel
theorem dX4_keepRounds_32 : decode cX4_keepRounds 32 = .ok (.aload_n 0, 1) := by decide +kernel
theorem dX4_keepRounds_33 : decode cX4_keepRounds 33 = .ok (.getfield 29, 3) := by decide +kernel
theorem dX4_keepRounds_36 : decode cX4_keepRounds 36 = .ok (.iload 4, 2) := by decide +kernel
theorem dX4_keepRounds_38 : decode cX4_keepRounds 38 = .ok (.invokevirtual 68, 3) := by decide +kernel
theorem dX4_keepRounds_41 : decode cX4_keepRounds 41 = .ok (.aload_n 0, 1) := by decide +kernel
theorem dX4_keepRounds_42 : decode cX4_keepRounds 42 = .ok (.getfield 26, 3) := by decide +kernel
theorem dX4_keepRounds_45 : decode cX4_keepRounds 45 = .ok (.iload 4, 2) := by decide +kernel
theorem dX4_keepRounds_47 : decode cX4_keepRounds 47 = .ok (.invokevirtual 68, 3) := by decide +kernel
theorem dX4_keepRounds_50 : decode cX4_keepRounds 50 = .ok (.if_icmp .ge 15, 3) := by decide +kernel
theorem dX4_keepRounds_53 : decode cX4_keepRounds 53 = .ok (.aload_n 0, 1) := by decide +kernel
theorem dX4_keepRounds_54 : decode cX4_keepRounds 54 = .ok (.iload_n 3, 1) := by decide +kernel
theorem dX4_keepRounds_55 : decode cX4_keepRounds 55 = .ok (.iload 4, 2) := by decide +kernel
theorem dX4_keepRounds_57 : decode cX4_keepRounds 57 = .ok (.aload_n 1, 1) := by decide +kernel
theorem dX4_keepRounds_58 : decode cX4_keepRounds 58 = .ok (.iload_n 3, 1) := by decide +kernel
theorem dX4_keepRounds_59 : decode cX4_keepRounds 59 = .ok (.invokevirtual 85, 3) := by decide +kernel
theorem dX4_keepRounds_62 : decode cX4_keepRounds 62 = .ok (.invokevirtual 91, 3) := by decide +kernel
theorem dX4_keepRounds_65 : decode cX4_keepRounds 65 = .ok (.iinc 2 1, 3) := by decide +kernel
theorem dX4_keepRounds_68 : decode cX4_keepRounds 68 = .ok (.goto (-66), 3) := by decide +kernel
theorem dX4_keepRounds_71 : decode cX4_keepRounds 71 = .ok (.return_, 1) := by decide +kernel
set_option maxRecDepth 20000 in
theorem ggX4_giveOutOthers_X1_countDoorsteps : GoodIn wsX4_giveOutOthers wsX1_countDoorsteps := goodIn_r _ [7, 8, 47, 48, 49, 50, 51, 52, 53, 54, 55, 56] (by decide +kernel) (by decide +kernel)
set_option maxRecDepth 20000 in
theorem gX4_giveOutOthers_X1_countDoorsteps : GoodIn wsX4_giveOutOthers (wsV RX4 44 RX1 yX1_countDoorsteps wsX1_countDoorsteps) := goodIn_app (goodIn_of _ (by decide +kernel)) ggX4_giveOutOthers_X1_countDoorsteps
set_option maxRecDepth 20000 in
theorem ggX4_giveOutOthers_X3_at : GoodIn wsX4_giveOutOthers wsX3_at := goodIn_r _ [13, 14, 57] (by decide +kernel) (by decide +kernel)
set_option maxRecDepth 20000 in
theorem gX4_giveOutOthers_X3_at : GoodIn wsX4_giveOutOthers (wsV RX4 68 RX3 yX3_at wsX3_at) := goodIn_app (goodIn_of _ (by decide +kernel)) ggX4_giveOutOthers_X3_at
set_option maxRecDepth 20000 in
theorem ggX4_giveOutOthers_X4_findLeastLoaded : GoodIn wsX4_giveOutOthers wsX4_findLeastLoaded := goodIn_r _ [19, 20, 21, 22, 9, 10, 11, 12, 13, 14, 41, 42, 43, 44, 45, 46, 57] (by decide +kernel) (by decide +kernel)
set_option maxRecDepth 20000 in
theorem gX4_giveOutOthers_X4_findLeastLoaded : GoodIn wsX4_giveOutOthers (wsV RX4 95 RX4 yX4_findLeastLoaded wsX4_findLeastLoaded) := goodIn_app (goodIn_of _ (by decide +kernel)) ggX4_giveOutOthers_X4_findLeastLoaded
set_option maxRecDepth 20000 in
theorem ggX4_giveOutOthers_X1_pintsOf : GoodIn wsX4_giveOutOthers wsX1_pintsOf := goodIn_r _ [26, 27, 28, 10, 11, 12, 13, 14, 47, 48, 49, 50, 51, 52, 53, 54, 55, 56, 57] (by decide +kernel) (by decide +kernel)
set_option maxRecDepth 20000 in
theorem gX4_giveOutOthers_X1_pintsOf : GoodIn wsX4_giveOutOthers (wsV RX4 85 RX1 yX1_pintsOf wsX1_pintsOf) := goodIn_app (goodIn_of _ (by decide +kernel)) ggX4_giveOutOthers_X1_pintsOf
set_option maxRecDepth 20000 in
theorem ggX4_giveOutOthers_X4_give : GoodIn wsX4_giveOutOthers wsX4_give := goodIn_r _ [32, 2, 20, 22, 33, 34, 35, 12, 36, 14, 37, 38, 39, 40, 41, 42, 43, 44, 45, 46, 57] (by decide +kernel) (by decide +kernel)
set_option maxRecDepth 20000 in
theorem gX4_giveOutOthers_X4_give : GoodIn wsX4_giveOutOthers (wsV RX4 91 RX4 yX4_give wsX4_give) := goodIn_app (goodIn_of _ (by decide +kernel)) ggX4_giveOutOthers_X4_give
theorem dX4_giveOutOthers_0 : decode cX4_giveOutOthers 0 = .ok (.iconst 0, 1) := by decide +kernel
theorem dX4_giveOutOthers_1 : decode cX4_giveOutOthers 1 = .ok (.istore_n 2, 1) := by decide +kernel
theorem dX4_giveOutOthers_2 : decode cX4_giveOutOthers 2 = .ok (.iload_n 2, 1) := by decide +kernel
theorem dX4_giveOutOthers_3 : decode cX4_giveOutOthers 3 = .ok (.aload_n 1, 1) := by decide +kernel
theorem dX4_giveOutOthers_4 : decode cX4_giveOutOthers 4 = .ok (.invokevirtual 44, 3) := by decide +kernel
theorem dX4_giveOutOthers_7 : decode cX4_giveOutOthers 7 = .ok (.if_icmp .ge 44, 3) := by decide +kernel
theorem dX4_giveOutOthers_10 : decode cX4_giveOutOthers 10 = .ok (.aload_n 0, 1) := by decide +kernel
theorem dX4_giveOutOthers_11 : decode cX4_giveOutOthers 11 = .ok (.getfield 20, 3) := by decide +kernel
theorem dX4_giveOutOthers_14 : decode cX4_giveOutOthers 14 = .ok (.iload_n 2, 1) := by decide +kernel
theorem dX4_giveOutOthers_15 : decode cX4_giveOutOthers 15 = .ok (.invokevirtual 68, 3) := by decide +kernel
theorem dX4_giveOutOthers_18 : decode cX4_giveOutOthers 18 = .ok (.istore_n 3, 1) := by decide +kernel
theorem dX4_giveOutOthers_19 : decode cX4_giveOutOthers 19 = .ok (.aload_n 0, 1) := by decide +kernel
theorem dX4_giveOutOthers_20 : decode cX4_giveOutOthers 20 = .ok (.getfield 14, 3) := by decide +kernel
theorem dX4_giveOutOthers_23 : decode cX4_giveOutOthers 23 = .ok (.iload_n 3, 1) := by decide +kernel
theorem dX4_giveOutOthers_24 : decode cX4_giveOutOthers 24 = .ok (.invokevirtual 68, 3) := by decide +kernel
theorem dX4_giveOutOthers_27 : decode cX4_giveOutOthers 27 = .ok (.iconst (-1), 1) := by decide +kernel
theorem dX4_giveOutOthers_28 : decode cX4_giveOutOthers 28 = .ok (.if_icmp .ne 17, 3) := by decide +kernel
theorem dX4_giveOutOthers_31 : decode cX4_giveOutOthers 31 = .ok (.aload_n 0, 1) := by decide +kernel
theorem dX4_giveOutOthers_32 : decode cX4_giveOutOthers 32 = .ok (.iload_n 3, 1) := by decide +kernel
theorem dX4_giveOutOthers_33 : decode cX4_giveOutOthers 33 = .ok (.aload_n 0, 1) := by decide +kernel
theorem dX4_giveOutOthers_34 : decode cX4_giveOutOthers 34 = .ok (.invokevirtual 95, 3) := by decide +kernel
theorem dX4_giveOutOthers_37 : decode cX4_giveOutOthers 37 = .ok (.aload_n 1, 1) := by decide +kernel
theorem dX4_giveOutOthers_38 : decode cX4_giveOutOthers 38 = .ok (.iload_n 3, 1) := by decide +kernel
theorem dX4_giveOutOthers_39 : decode cX4_giveOutOthers 39 = .ok (.invokevirtual 85, 3) := by decide +kernel
theorem dX4_giveOutOthers_42 : decode cX4_giveOutOthers 42 = .ok (.invokevirtual 91, 3) := by decide +kernel
theorem dX4_giveOutOthers_45 : decode cX4_giveOutOthers 45 = .ok (.iinc 2 1, 3) := by decide +kernel
theorem dX4_giveOutOthers_48 : decode cX4_giveOutOthers 48 = .ok (.goto (-46), 3) := by decide +kernel
theorem dX4_giveOutOthers_51 : decode cX4_giveOutOthers 51 = .ok (.return_, 1) := by decide +kernel
set_option maxRecDepth 20000 in
theorem ggX4_give_X3_put : GoodIn wsX4_give wsX3_put := goodIn_r _ [8, 9, 20] (by decide +kernel) (by decide +kernel)
set_option maxRecDepth 20000 in
theorem gX4_give_X3_put : GoodIn wsX4_give (wsV RX4 79 RX3 yX3_put wsX3_put) := goodIn_app (goodIn_of _ (by decide +kernel)) ggX4_give_X3_put
set_option maxRecDepth 20000 in
theorem ggX4_give_X3_increase : GoodIn wsX4_give wsX3_increase := goodIn_r _ [13, 9, 20] (by decide +kernel) (by decide +kernel)
set_option maxRecDepth 20000 in
theorem gX4_give_X3_increase : GoodIn wsX4_give (wsV RX4 98 RX3 yX3_increase wsX3_increase) := goodIn_app (goodIn_of _ (by decide +kernel)) ggX4_give_X3_increase
theorem dX4_give_0 : decode cX4_give 0 = .ok (.aload_n 0, 1) := by decide +kernel
theorem dX4_give_1 : decode cX4_give 1 = .ok (.getfield 14, 3) := by decide +kernel
theorem dX4_give_4 : decode cX4_give 4 = .ok (.iload_n 1, 1) := by decide +kernel
theorem dX4_give_5 : decode cX4_give 5 = .ok (.iload_n 2, 1) := by decide +kernel
theorem dX4_give_6 : decode cX4_give 6 = .ok (.invokevirtual 79, 3) := by decide +kernel
theorem dX4_give_9 : decode cX4_give 9 = .ok (.aload_n 0, 1) := by decide +kernel
theorem dX4_give_10 : decode cX4_give 10 = .ok (.getfield 29, 3) := by decide +kernel
theorem dX4_give_13 : decode cX4_give 13 = .ok (.iload_n 2, 1) := by decide +kernel
theorem dX4_give_14 : decode cX4_give 14 = .ok (.iconst 1, 1) := by decide +kernel
theorem dX4_give_15 : decode cX4_give 15 = .ok (.invokevirtual 98, 3) := by decide +kernel
theorem dX4_give_18 : decode cX4_give 18 = .ok (.aload_n 0, 1) := by decide +kernel
theorem dX4_give_19 : decode cX4_give 19 = .ok (.getfield 32, 3) := by decide +kernel
theorem dX4_give_22 : decode cX4_give 22 = .ok (.iload_n 2, 1) := by decide +kernel
theorem dX4_give_23 : decode cX4_give 23 = .ok (.iload_n 3, 1) := by decide +kernel
theorem dX4_give_24 : decode cX4_give 24 = .ok (.invokevirtual 98, 3) := by decide +kernel
theorem dX4_give_27 : decode cX4_give 27 = .ok (.return_, 1) := by decide +kernel
set_option maxRecDepth 20000 in
theorem ggX4_findLeastLoaded_X3_at : GoodIn wsX4_findLeastLoaded wsX3_at := goodIn_r _ [8, 9, 16] (by decide +kernel) (by decide +kernel)
set_option maxRecDepth 20000 in
theorem gX4_findLeastLoaded_X3_at : GoodIn wsX4_findLeastLoaded (wsV RX4 68 RX3 yX3_at wsX3_at) := goodIn_app (goodIn_of _ (by decide +kernel)) ggX4_findLeastLoaded_X3_at
theorem dX4_findLeastLoaded_0 : decode cX4_findLeastLoaded 0 = .ok (.iconst (-1), 1) := by decide +kernel
theorem dX4_findLeastLoaded_1 : decode cX4_findLeastLoaded 1 = .ok (.istore_n 1, 1) := by decide +kernel
theorem dX4_findLeastLoaded_2 : decode cX4_findLeastLoaded 2 = .ok (.iconst 0, 1) := by decide +kernel
theorem dX4_findLeastLoaded_3 : decode cX4_findLeastLoaded 3 = .ok (.istore_n 2, 1) := by decide +kernel
theorem dX4_findLeastLoaded_4 : decode cX4_findLeastLoaded 4 = .ok (.iload_n 2, 1) := by decide +kernel
theorem dX4_findLeastLoaded_5 : decode cX4_findLeastLoaded 5 = .ok (.bipush 6, 2) := by decide +kernel
theorem dX4_findLeastLoaded_7 : decode cX4_findLeastLoaded 7 = .ok (.if_icmp .ge 64, 3) := by decide +kernel
theorem dX4_findLeastLoaded_10 : decode cX4_findLeastLoaded 10 = .ok (.aload_n 0, 1) := by decide +kernel
theorem dX4_findLeastLoaded_11 : decode cX4_findLeastLoaded 11 = .ok (.getfield 29, 3) := by decide +kernel
theorem dX4_findLeastLoaded_14 : decode cX4_findLeastLoaded 14 = .ok (.iload_n 2, 1) := by decide +kernel
theorem dX4_findLeastLoaded_15 : decode cX4_findLeastLoaded 15 = .ok (.invokevirtual 68, 3) := by decide +kernel
theorem dX4_findLeastLoaded_18 : decode cX4_findLeastLoaded 18 = .ok (.aload_n 0, 1) := by decide +kernel
theorem dX4_findLeastLoaded_19 : decode cX4_findLeastLoaded 19 = .ok (.getfield 26, 3) := by decide +kernel
theorem dX4_findLeastLoaded_22 : decode cX4_findLeastLoaded 22 = .ok (.iload_n 2, 1) := by decide +kernel
theorem dX4_findLeastLoaded_23 : decode cX4_findLeastLoaded 23 = .ok (.invokevirtual 68, 3) := by decide +kernel
theorem dX4_findLeastLoaded_26 : decode cX4_findLeastLoaded 26 = .ok (.if_icmp .ge 7, 3) := by decide +kernel
theorem dX4_findLeastLoaded_29 : decode cX4_findLeastLoaded 29 = .ok (.iconst 1, 1) := by decide +kernel
theorem dX4_findLeastLoaded_30 : decode cX4_findLeastLoaded 30 = .ok (.goto 4, 3) := by decide +kernel
theorem dX4_findLeastLoaded_33 : decode cX4_findLeastLoaded 33 = .ok (.iconst 0, 1) := by decide +kernel
theorem dX4_findLeastLoaded_34 : decode cX4_findLeastLoaded 34 = .ok (.istore_n 3, 1) := by decide +kernel
theorem dX4_findLeastLoaded_35 : decode cX4_findLeastLoaded 35 = .ok (.iload_n 3, 1) := by decide +kernel
theorem dX4_findLeastLoaded_36 : decode cX4_findLeastLoaded 36 = .ok (.ifCond .eq 29, 3) := by decide +kernel
theorem dX4_findLeastLoaded_39 : decode cX4_findLeastLoaded 39 = .ok (.iload_n 1, 1) := by decide +kernel
theorem dX4_findLeastLoaded_40 : decode cX4_findLeastLoaded 40 = .ok (.iconst (-1), 1) := by decide +kernel
theorem dX4_findLeastLoaded_41 : decode cX4_findLeastLoaded 41 = .ok (.if_icmp .eq 22, 3) := by decide +kernel
theorem dX4_findLeastLoaded_44 : decode cX4_findLeastLoaded 44 = .ok (.aload_n 0, 1) := by decide +kernel
theorem dX4_findLeastLoaded_45 : decode cX4_findLeastLoaded 45 = .ok (.getfield 32, 3) := by decide +kernel
theorem dX4_findLeastLoaded_48 : decode cX4_findLeastLoaded 48 = .ok (.iload_n 2, 1) := by decide +kernel
theorem dX4_findLeastLoaded_49 : decode cX4_findLeastLoaded 49 = .ok (.invokevirtual 68, 3) := by decide +kernel
theorem dX4_findLeastLoaded_52 : decode cX4_findLeastLoaded 52 = .ok (.aload_n 0, 1) := by decide +kernel
theorem dX4_findLeastLoaded_53 : decode cX4_findLeastLoaded 53 = .ok (.getfield 32, 3) := by decide +kernel
theorem dX4_findLeastLoaded_56 : decode cX4_findLeastLoaded 56 = .ok (.iload_n 1, 1) := by decide +kernel
theorem dX4_findLeastLoaded_57 : decode cX4_findLeastLoaded 57 = .ok (.invokevirtual 68, 3) := by decide +kernel
theorem dX4_findLeastLoaded_60 : decode cX4_findLeastLoaded 60 = .ok (.if_icmp .ge 5, 3) := by decide +kernel
theorem dX4_findLeastLoaded_63 : decode cX4_findLeastLoaded 63 = .ok (.iload_n 2, 1) := by decide +kernel
theorem dX4_findLeastLoaded_64 : decode cX4_findLeastLoaded 64 = .ok (.istore_n 1, 1) := by decide +kernel
theorem dX4_findLeastLoaded_65 : decode cX4_findLeastLoaded 65 = .ok (.iinc 2 1, 3) := by decide +kernel
theorem dX4_findLeastLoaded_68 : decode cX4_findLeastLoaded 68 = .ok (.goto (-64), 3) := by decide +kernel
theorem dX4_findLeastLoaded_71 : decode cX4_findLeastLoaded 71 = .ok (.iload_n 1, 1) := by decide +kernel
theorem dX4_findLeastLoaded_72 : decode cX4_findLeastLoaded 72 = .ok (.ireturn, 1) := by decide +kernel
set_option maxRecDepth 20000 in
theorem ggX4_countChanges_X1_countDoorsteps : GoodIn wsX4_countChanges wsX1_countDoorsteps := goodIn_r _ [6, 7, 26, 27, 28, 29, 30, 31, 32, 33, 34, 35] (by decide +kernel) (by decide +kernel)
set_option maxRecDepth 20000 in
theorem gX4_countChanges_X1_countDoorsteps : GoodIn wsX4_countChanges (wsV RX4 44 RX1 yX1_countDoorsteps wsX1_countDoorsteps) := goodIn_app (goodIn_of _ (by decide +kernel)) ggX4_countChanges_X1_countDoorsteps
set_option maxRecDepth 20000 in
theorem ggX4_countChanges_X3_at : GoodIn wsX4_countChanges wsX3_at := goodIn_r _ [12, 13, 36] (by decide +kernel) (by decide +kernel)
set_option maxRecDepth 20000 in
theorem gX4_countChanges_X3_at : GoodIn wsX4_countChanges (wsV RX4 68 RX3 yX3_at wsX3_at) := goodIn_app (goodIn_of _ (by decide +kernel)) ggX4_countChanges_X3_at
set_option maxRecDepth 20000 in
theorem ggX4_countChanges_X1_ownerOf : GoodIn wsX4_countChanges wsX1_ownerOf := goodIn_r _ [17, 18, 19, 9, 10, 11, 12, 13, 26, 27, 28, 29, 30, 31, 32, 33, 34, 35, 36] (by decide +kernel) (by decide +kernel)
set_option maxRecDepth 20000 in
theorem gX4_countChanges_X1_ownerOf : GoodIn wsX4_countChanges (wsV RX4 88 RX1 yX1_ownerOf wsX1_ownerOf) := goodIn_app (goodIn_of _ (by decide +kernel)) ggX4_countChanges_X1_ownerOf
theorem dX4_countChanges_0 : decode cX4_countChanges 0 = .ok (.iconst 0, 1) := by decide +kernel
theorem dX4_countChanges_1 : decode cX4_countChanges 1 = .ok (.istore_n 2, 1) := by decide +kernel
theorem dX4_countChanges_2 : decode cX4_countChanges 2 = .ok (.iconst 0, 1) := by decide +kernel
theorem dX4_countChanges_3 : decode cX4_countChanges 3 = .ok (.istore_n 3, 1) := by decide +kernel
theorem dX4_countChanges_4 : decode cX4_countChanges 4 = .ok (.iload_n 3, 1) := by decide +kernel
theorem dX4_countChanges_5 : decode cX4_countChanges 5 = .ok (.aload_n 1, 1) := by decide +kernel
theorem dX4_countChanges_6 : decode cX4_countChanges 6 = .ok (.invokevirtual 44, 3) := by decide +kernel
theorem dX4_countChanges_9 : decode cX4_countChanges 9 = .ok (.if_icmp .ge 28, 3) := by decide +kernel
theorem dX4_countChanges_12 : decode cX4_countChanges 12 = .ok (.aload_n 0, 1) := by decide +kernel
theorem dX4_countChanges_13 : decode cX4_countChanges 13 = .ok (.getfield 14, 3) := by decide +kernel
theorem dX4_countChanges_16 : decode cX4_countChanges 16 = .ok (.iload_n 3, 1) := by decide +kernel
theorem dX4_countChanges_17 : decode cX4_countChanges 17 = .ok (.invokevirtual 68, 3) := by decide +kernel
theorem dX4_countChanges_20 : decode cX4_countChanges 20 = .ok (.aload_n 1, 1) := by decide +kernel
theorem dX4_countChanges_21 : decode cX4_countChanges 21 = .ok (.iload_n 3, 1) := by decide +kernel
theorem dX4_countChanges_22 : decode cX4_countChanges 22 = .ok (.invokevirtual 88, 3) := by decide +kernel
theorem dX4_countChanges_25 : decode cX4_countChanges 25 = .ok (.if_icmp .eq 6, 3) := by decide +kernel
theorem dX4_countChanges_28 : decode cX4_countChanges 28 = .ok (.iinc 2 1, 3) := by decide +kernel
theorem dX4_countChanges_31 : decode cX4_countChanges 31 = .ok (.iinc 3 1, 3) := by decide +kernel
theorem dX4_countChanges_34 : decode cX4_countChanges 34 = .ok (.goto (-30), 3) := by decide +kernel
theorem dX4_countChanges_37 : decode cX4_countChanges 37 = .ok (.iload_n 2, 1) := by decide +kernel
theorem dX4_countChanges_38 : decode cX4_countChanges 38 = .ok (.ireturn, 1) := by decide +kernel
set_option maxRecDepth 20000 in
theorem ggX5_init_X1_init : GoodIn wsX5_init wsX1_init := goodIn_r _ [22, 23, 2, 3, 24, 25, 26, 27, 28, 29, 30, 31, 32, 33, 34, 35, 36, 37, 38, 39, 40, 41, 42, 93, 68, 69, 70, 71, 72, 73, 74, 75, 76, 77] (by decide +kernel) (by decide +kernel)
set_option maxRecDepth 20000 in
theorem gX5_init_X1_init_n9 : GoodIn wsX5_init (wsX1_init) := ggX5_init_X1_init
set_option maxRecDepth 20000 in
theorem ggX5_init_X4_init : GoodIn wsX5_init wsX4_init := goodIn_r _ [44, 45, 2, 3, 46, 25, 26, 47, 48, 49, 50, 51, 52, 53, 38, 39, 40, 41, 42, 93, 83, 84, 85, 86, 87, 88] (by decide +kernel) (by decide +kernel)
set_option maxRecDepth 20000 in
theorem gX5_init_X4_init_n21 : GoodIn wsX5_init (wsX4_init) := ggX5_init_X4_init
set_option maxRecDepth 20000 in
theorem ggX5_init_X0_init : GoodIn wsX5_init wsX0_init := goodIn_r _ [55, 56, 2, 3, 57, 25, 26, 58, 59, 60, 38, 39, 40, 41, 42, 93, 89, 90] (by decide +kernel) (by decide +kernel)
set_option maxRecDepth 20000 in
theorem gX5_init_X0_init_n28 : GoodIn wsX5_init (wsX0_init) := ggX5_init_X0_init
set_option maxRecDepth 20000 in
theorem ggX5_init_X2_init : GoodIn wsX5_init wsX2_init := goodIn_r _ [63, 64, 2, 3, 65, 66, 67, 5, 6, 21, 22, 23, 24, 25, 26, 27, 28, 29, 30, 31, 32, 33, 34, 35, 36, 37, 38, 39, 40, 41, 42, 91, 92, 68, 69, 70, 71, 72, 73, 74, 75, 76, 77, 93] (by decide +kernel) (by decide +kernel)
set_option maxRecDepth 20000 in
theorem gX5_init_X2_init : GoodIn wsX5_init (wsX2_init) := ggX5_init_X2_init

theorem dX5_init_0 : decode cX5_init 0 = .ok (.aload_n 0, 1) := by decide +kernel
theorem dX5_init_1 : decode cX5_init 1 = .ok (.invokespecial 1, 3) := by decide +kernel
theorem dX5_init_4 : decode cX5_init 4 = .ok (.aload_n 0, 1) := by decide +kernel
theorem dX5_init_5 : decode cX5_init 5 = .ok (.new 7, 3) := by decide +kernel
theorem dX5_init_8 : decode cX5_init 8 = .ok (.dup, 1) := by decide +kernel
theorem dX5_init_9 : decode cX5_init 9 = .ok (.invokespecial 9, 3) := by decide +kernel
theorem dX5_init_12 : decode cX5_init 12 = .ok (.putfield 10, 3) := by decide +kernel
theorem dX5_init_15 : decode cX5_init 15 = .ok (.aload_n 0, 1) := by decide +kernel
theorem dX5_init_16 : decode cX5_init 16 = .ok (.new 7, 3) := by decide +kernel
theorem dX5_init_19 : decode cX5_init 19 = .ok (.dup, 1) := by decide +kernel
theorem dX5_init_20 : decode cX5_init 20 = .ok (.invokespecial 9, 3) := by decide +kernel
theorem dX5_init_23 : decode cX5_init 23 = .ok (.putfield 16, 3) := by decide +kernel
theorem dX5_init_26 : decode cX5_init 26 = .ok (.aload_n 0, 1) := by decide +kernel
theorem dX5_init_27 : decode cX5_init 27 = .ok (.new 19, 3) := by decide +kernel
theorem dX5_init_30 : decode cX5_init 30 = .ok (.dup, 1) := by decide +kernel
theorem dX5_init_31 : decode cX5_init 31 = .ok (.invokespecial 21, 3) := by decide +kernel
theorem dX5_init_34 : decode cX5_init 34 = .ok (.putfield 22, 3) := by decide +kernel
theorem dX5_init_37 : decode cX5_init 37 = .ok (.aload_n 0, 1) := by decide +kernel
theorem dX5_init_38 : decode cX5_init 38 = .ok (.new 26, 3) := by decide +kernel
theorem dX5_init_41 : decode cX5_init 41 = .ok (.dup, 1) := by decide +kernel
theorem dX5_init_42 : decode cX5_init 42 = .ok (.invokespecial 28, 3) := by decide +kernel
theorem dX5_init_45 : decode cX5_init 45 = .ok (.putfield 29, 3) := by decide +kernel
theorem dX5_init_48 : decode cX5_init 48 = .ok (.aload_n 0, 1) := by decide +kernel
theorem dX5_init_49 : decode cX5_init 49 = .ok (.new 33, 3) := by decide +kernel
theorem dX5_init_52 : decode cX5_init 52 = .ok (.dup, 1) := by decide +kernel
theorem dX5_init_53 : decode cX5_init 53 = .ok (.invokespecial 35, 3) := by decide +kernel
theorem dX5_init_56 : decode cX5_init 56 = .ok (.putfield 36, 3) := by decide +kernel
theorem dX5_init_59 : decode cX5_init 59 = .ok (.return_, 1) := by decide +kernel
set_option maxRecDepth 20000 in
theorem ggX5_addDoorstep_X5_checkPints : GoodIn wsX5_addDoorstep wsX5_checkPints := goodIn_ca (goodIn_r _ [8, 9, 10] (by decide +kernel) (by decide +kernel)) (goodIn_sub (fun _ h => List.mem_cons_of_mem _ (List.mem_append_right _ h)) (by decide +kernel))
set_option maxRecDepth 20000 in
theorem gX5_addDoorstep_X5_checkPints : GoodIn wsX5_addDoorstep (va_wsS RX5 40 yX5_checkPints wsX5_checkPints) := goodIn_app (goodIn_of _ (by decide +kernel)) ggX5_addDoorstep_X5_checkPints
set_option maxRecDepth 20000 in
theorem ggX5_addDoorstep_X1_mayAdd : GoodIn wsX5_addDoorstep wsX1_mayAdd := goodIn_r _ [15, 16, 17, 18, 19, 14, 20, 21, 72, 73, 74, 75, 76, 77, 78, 79, 80, 81] (by decide +kernel) (by decide +kernel)
set_option maxRecDepth 20000 in
theorem gX5_addDoorstep_X1_mayAdd : GoodIn wsX5_addDoorstep (wsV RX5 44 RX1 yX1_mayAdd wsX1_mayAdd) := goodIn_app (goodIn_of _ (by decide +kernel)) ggX5_addDoorstep_X1_mayAdd
set_option maxRecDepth 20000 in
theorem ggX5_addDoorstep_X2_save : GoodIn wsX5_addDoorstep wsX2_save := goodIn_r _ [26, 27, 28, 29, 30, 31, 25, 32, 33, 34, 35, 36, 37, 38, 39, 14, 40, 41, 42, 43, 44, 45, 16, 21, 46, 47, 48, 49, 50, 51, 52, 53, 54, 55, 56, 57, 58, 82, 83, 72, 73, 74, 75, 76, 77, 78, 79, 80, 81, 84] (by decide +kernel) (by decide +kernel)
set_option maxRecDepth 20000 in
theorem gX5_addDoorstep_X2_save : GoodIn wsX5_addDoorstep (wsV RX5 55 RX2 yX2_save wsX2_save) := goodIn_app (goodIn_of _ (by decide +kernel)) ggX5_addDoorstep_X2_save
set_option maxRecDepth 20000 in
theorem ggX5_addDoorstep_X1_addOne : GoodIn wsX5_addDoorstep wsX1_addOne := goodIn_r _ [62, 16, 41, 42, 63, 64, 65, 52, 66, 54, 72, 73, 74, 75, 76, 77, 78, 79, 80, 81, 84] (by decide +kernel) (by decide +kernel)
set_option maxRecDepth 20000 in
theorem gX5_addDoorstep_X1_addOne : GoodIn wsX5_addDoorstep (wsV RX5 59 RX1 yX1_addOne wsX1_addOne) := goodIn_app (goodIn_of _ (by decide +kernel)) ggX5_addDoorstep_X1_addOne
theorem dX5_addDoorstep_0 : decode cX5_addDoorstep 0 = .ok (.iload_n 1, 1) := by decide +kernel
theorem dX5_addDoorstep_1 : decode cX5_addDoorstep 1 = .ok (.invokestatic 40, 3) := by decide +kernel
theorem dX5_addDoorstep_4 : decode cX5_addDoorstep 4 = .ok (.aload_n 0, 1) := by decide +kernel
theorem dX5_addDoorstep_5 : decode cX5_addDoorstep 5 = .ok (.getfield 10, 3) := by decide +kernel
theorem dX5_addDoorstep_8 : decode cX5_addDoorstep 8 = .ok (.invokevirtual 44, 3) := by decide +kernel
theorem dX5_addDoorstep_11 : decode cX5_addDoorstep 11 = .ok (.ifCond .ne 13, 3) := by decide +kernel
theorem dX5_addDoorstep_14 : decode cX5_addDoorstep 14 = .ok (.new 48, 3) := by decide +kernel
theorem dX5_addDoorstep_17 : decode cX5_addDoorstep 17 = .ok (.dup, 1) := by decide +kernel
theorem dX5_addDoorstep_18 : decode cX5_addDoorstep 18 = .ok (.ldc 50, 2) := by decide +kernel
theorem dX5_addDoorstep_20 : decode cX5_addDoorstep 20 = .ok (.invokespecial 52, 3) := by decide +kernel
theorem dX5_addDoorstep_23 : decode cX5_addDoorstep 23 = .ok (.athrow, 1) := by decide +kernel
theorem dX5_addDoorstep_24 : decode cX5_addDoorstep 24 = .ok (.aload_n 0, 1) := by decide +kernel
theorem dX5_addDoorstep_25 : decode cX5_addDoorstep 25 = .ok (.getfield 36, 3) := by decide +kernel
theorem dX5_addDoorstep_28 : decode cX5_addDoorstep 28 = .ok (.aload_n 0, 1) := by decide +kernel
theorem dX5_addDoorstep_29 : decode cX5_addDoorstep 29 = .ok (.getfield 10, 3) := by decide +kernel
theorem dX5_addDoorstep_32 : decode cX5_addDoorstep 32 = .ok (.invokevirtual 55, 3) := by decide +kernel
theorem dX5_addDoorstep_35 : decode cX5_addDoorstep 35 = .ok (.aload_n 0, 1) := by decide +kernel
theorem dX5_addDoorstep_36 : decode cX5_addDoorstep 36 = .ok (.getfield 10, 3) := by decide +kernel
theorem dX5_addDoorstep_39 : decode cX5_addDoorstep 39 = .ok (.iload_n 1, 1) := by decide +kernel
theorem dX5_addDoorstep_40 : decode cX5_addDoorstep 40 = .ok (.invokevirtual 59, 3) := by decide +kernel
theorem dX5_addDoorstep_43 : decode cX5_addDoorstep 43 = .ok (.ireturn, 1) := by decide +kernel
set_option maxRecDepth 20000 in
theorem ggX5_removeDoorstep_X5_checkDoorstep : GoodIn wsX5_removeDoorstep wsX5_checkDoorstep := goodIn_ca (goodIn_r _ [9, 10, 11, 3, 12, 13, 14, 15, 16, 17, 74, 75, 76, 77, 78, 79, 80, 81, 82, 83, 84, 85, 86, 87, 88] (by decide +kernel) (by decide +kernel)) (goodIn_sub (fun _ h => List.mem_cons_of_mem _ (List.mem_append_right _ h)) (by decide +kernel))
set_option maxRecDepth 20000 in
theorem gX5_removeDoorstep_X5_checkDoorstep : GoodIn wsX5_removeDoorstep (wsV RX5 63 RX5 yX5_checkDoorstep wsX5_checkDoorstep) := goodIn_app (goodIn_of _ (by decide +kernel)) ggX5_removeDoorstep_X5_checkDoorstep
set_option maxRecDepth 20000 in
theorem ggX5_removeDoorstep_X1_mayRemove : GoodIn wsX5_removeDoorstep wsX1_mayRemove := goodIn_r _ [21, 22, 13, 14, 15, 16, 17, 23, 24, 25, 26, 27, 79, 80, 81, 82, 83, 84, 85, 86, 87, 88] (by decide +kernel) (by decide +kernel)
set_option maxRecDepth 20000 in
theorem gX5_removeDoorstep_X1_mayRemove : GoodIn wsX5_removeDoorstep (wsV RX5 66 RX1 yX1_mayRemove wsX1_mayRemove) := goodIn_app (goodIn_of _ (by decide +kernel)) ggX5_removeDoorstep_X1_mayRemove
set_option maxRecDepth 20000 in
theorem ggX5_removeDoorstep_X2_save : GoodIn wsX5_removeDoorstep wsX2_save := goodIn_r _ [32, 33, 34, 35, 36, 37, 31, 38, 39, 40, 41, 42, 43, 44, 45, 15, 46, 47, 48, 49, 50, 51, 17, 27, 52, 53, 54, 55, 56, 57, 58, 59, 60, 61, 62, 63, 64, 89, 90, 79, 80, 81, 82, 83, 84, 85, 86, 87, 88, 91] (by decide +kernel) (by decide +kernel)
set_option maxRecDepth 20000 in
theorem gX5_removeDoorstep_X2_save : GoodIn wsX5_removeDoorstep (wsV RX5 55 RX2 yX2_save wsX2_save) := goodIn_app (goodIn_of _ (by decide +kernel)) ggX5_removeDoorstep_X2_save
set_option maxRecDepth 20000 in
theorem ggX5_removeDoorstep_X1_removeOne : GoodIn wsX5_removeDoorstep wsX1_removeOne := goodIn_r _ [68, 48, 47, 17, 69, 62, 63, 58, 64, 60, 70, 71, 72, 73, 79, 80, 81, 82, 83, 84, 85, 86, 87, 88, 91] (by decide +kernel) (by decide +kernel)
set_option maxRecDepth 20000 in
theorem gX5_removeDoorstep_X1_removeOne : GoodIn wsX5_removeDoorstep (wsV RX5 72 RX1 yX1_removeOne wsX1_removeOne) := goodIn_app (goodIn_of _ (by decide +kernel)) ggX5_removeDoorstep_X1_removeOne
theorem dX5_removeDoorstep_0 : decode cX5_removeDoorstep 0 = .ok (.aload_n 0, 1) := by decide +kernel
theorem dX5_removeDoorstep_1 : decode cX5_removeDoorstep 1 = .ok (.iload_n 1, 1) := by decide +kernel
theorem dX5_removeDoorstep_2 : decode cX5_removeDoorstep 2 = .ok (.invokevirtual 63, 3) := by decide +kernel
theorem dX5_removeDoorstep_5 : decode cX5_removeDoorstep 5 = .ok (.aload_n 0, 1) := by decide +kernel
theorem dX5_removeDoorstep_6 : decode cX5_removeDoorstep 6 = .ok (.getfield 10, 3) := by decide +kernel
theorem dX5_removeDoorstep_9 : decode cX5_removeDoorstep 9 = .ok (.iload_n 1, 1) := by decide +kernel
theorem dX5_removeDoorstep_10 : decode cX5_removeDoorstep 10 = .ok (.invokevirtual 66, 3) := by decide +kernel
theorem dX5_removeDoorstep_13 : decode cX5_removeDoorstep 13 = .ok (.ifCond .ne 13, 3) := by decide +kernel
theorem dX5_removeDoorstep_16 : decode cX5_removeDoorstep 16 = .ok (.new 48, 3) := by decide +kernel
theorem dX5_removeDoorstep_19 : decode cX5_removeDoorstep 19 = .ok (.dup, 1) := by decide +kernel
theorem dX5_removeDoorstep_20 : decode cX5_removeDoorstep 20 = .ok (.ldc 70, 2) := by decide +kernel
theorem dX5_removeDoorstep_22 : decode cX5_removeDoorstep 22 = .ok (.invokespecial 52, 3) := by decide +kernel
theorem dX5_removeDoorstep_25 : decode cX5_removeDoorstep 25 = .ok (.athrow, 1) := by decide +kernel
theorem dX5_removeDoorstep_26 : decode cX5_removeDoorstep 26 = .ok (.aload_n 0, 1) := by decide +kernel
theorem dX5_removeDoorstep_27 : decode cX5_removeDoorstep 27 = .ok (.getfield 36, 3) := by decide +kernel
theorem dX5_removeDoorstep_30 : decode cX5_removeDoorstep 30 = .ok (.aload_n 0, 1) := by decide +kernel
theorem dX5_removeDoorstep_31 : decode cX5_removeDoorstep 31 = .ok (.getfield 10, 3) := by decide +kernel
theorem dX5_removeDoorstep_34 : decode cX5_removeDoorstep 34 = .ok (.invokevirtual 55, 3) := by decide +kernel
theorem dX5_removeDoorstep_37 : decode cX5_removeDoorstep 37 = .ok (.aload_n 0, 1) := by decide +kernel
theorem dX5_removeDoorstep_38 : decode cX5_removeDoorstep 38 = .ok (.getfield 10, 3) := by decide +kernel
theorem dX5_removeDoorstep_41 : decode cX5_removeDoorstep 41 = .ok (.iload_n 1, 1) := by decide +kernel
theorem dX5_removeDoorstep_42 : decode cX5_removeDoorstep 42 = .ok (.invokevirtual 72, 3) := by decide +kernel
theorem dX5_removeDoorstep_45 : decode cX5_removeDoorstep 45 = .ok (.ireturn, 1) := by decide +kernel
set_option maxRecDepth 20000 in
theorem ggX5_setPints_X5_checkDoorstep : GoodIn wsX5_setPints wsX5_checkDoorstep := goodIn_ca (goodIn_r _ [7, 8, 9, 2, 10, 11, 12, 13, 14, 15, 68, 69, 70, 71, 72, 73, 74, 75, 76, 77, 78, 79, 80, 81, 82] (by decide +kernel) (by decide +kernel)) (goodIn_sub (fun _ h => List.mem_cons_of_mem _ (List.mem_append_left _ (List.mem_append_right _ h))) (by decide +kernel))
set_option maxRecDepth 20000 in
theorem gX5_setPints_X5_checkDoorstep : GoodIn wsX5_setPints (wsV RX5 63 RX5 yX5_checkDoorstep wsX5_checkDoorstep) := goodIn_app (goodIn_of _ (by decide +kernel)) ggX5_setPints_X5_checkDoorstep
set_option maxRecDepth 20000 in
theorem ggX5_setPints_X5_checkPints : GoodIn wsX5_setPints wsX5_checkPints := goodIn_ca (goodIn_r _ [18, 19, 20] (by decide +kernel) (by decide +kernel)) (goodIn_sub (fun _ h => List.mem_cons_of_mem _ (List.mem_append_right _ h)) (by decide +kernel))
set_option maxRecDepth 20000 in
theorem gX5_setPints_X5_checkPints : GoodIn wsX5_setPints (va_wsS RX5 40 yX5_checkPints wsX5_checkPints) := goodIn_app (goodIn_of _ (by decide +kernel)) ggX5_setPints_X5_checkPints
set_option maxRecDepth 20000 in
theorem ggX5_setPints_X2_save : GoodIn wsX5_setPints wsX2_save := goodIn_r _ [25, 26, 27, 28, 29, 30, 24, 31, 32, 33, 34, 35, 36, 37, 38, 13, 39, 40, 41, 42, 43, 44, 15, 45, 46, 47, 48, 49, 50, 51, 52, 53, 54, 55, 56, 57, 58, 83, 84, 73, 74, 75, 76, 77, 78, 79, 80, 81, 82, 85] (by decide +kernel) (by decide +kernel)
set_option maxRecDepth 20000 in
theorem gX5_setPints_X2_save : GoodIn wsX5_setPints (wsV RX5 55 RX2 yX2_save wsX2_save) := goodIn_app (goodIn_of _ (by decide +kernel)) ggX5_setPints_X2_save
set_option maxRecDepth 20000 in
theorem ggX5_setPints_X1_changePints : GoodIn wsX5_setPints wsX1_changePints := goodIn_r _ [62, 40, 63, 56, 57, 52, 58, 54, 64, 65, 66, 67, 73, 74, 75, 76, 77, 78, 79, 80, 81, 82, 85] (by decide +kernel) (by decide +kernel)
set_option maxRecDepth 20000 in
theorem gX5_setPints_X1_changePints : GoodIn wsX5_setPints (wsV RX5 75 RX1 yX1_changePints wsX1_changePints) := goodIn_app (goodIn_of _ (by decide +kernel)) ggX5_setPints_X1_changePints
theorem dX5_setPints_0 : decode cX5_setPints 0 = .ok (.aload_n 0, 1) := by decide +kernel
theorem dX5_setPints_1 : decode cX5_setPints 1 = .ok (.iload_n 1, 1) := by decide +kernel
theorem dX5_setPints_2 : decode cX5_setPints 2 = .ok (.invokevirtual 63, 3) := by decide +kernel
theorem dX5_setPints_5 : decode cX5_setPints 5 = .ok (.iload_n 2, 1) := by decide +kernel
theorem dX5_setPints_6 : decode cX5_setPints 6 = .ok (.invokestatic 40, 3) := by decide +kernel
theorem dX5_setPints_9 : decode cX5_setPints 9 = .ok (.aload_n 0, 1) := by decide +kernel
theorem dX5_setPints_10 : decode cX5_setPints 10 = .ok (.getfield 36, 3) := by decide +kernel
theorem dX5_setPints_13 : decode cX5_setPints 13 = .ok (.aload_n 0, 1) := by decide +kernel
theorem dX5_setPints_14 : decode cX5_setPints 14 = .ok (.getfield 10, 3) := by decide +kernel
theorem dX5_setPints_17 : decode cX5_setPints 17 = .ok (.invokevirtual 55, 3) := by decide +kernel
theorem dX5_setPints_20 : decode cX5_setPints 20 = .ok (.aload_n 0, 1) := by decide +kernel
theorem dX5_setPints_21 : decode cX5_setPints 21 = .ok (.getfield 10, 3) := by decide +kernel
theorem dX5_setPints_24 : decode cX5_setPints 24 = .ok (.iload_n 1, 1) := by decide +kernel
theorem dX5_setPints_25 : decode cX5_setPints 25 = .ok (.iload_n 2, 1) := by decide +kernel
theorem dX5_setPints_26 : decode cX5_setPints 26 = .ok (.invokevirtual 75, 3) := by decide +kernel
theorem dX5_setPints_29 : decode cX5_setPints 29 = .ok (.ireturn, 1) := by decide +kernel
set_option maxRecDepth 20000 in
theorem ggX5_come_X5_checkMilkman : GoodIn wsX5_come wsX5_checkMilkman := goodIn_ca (goodIn_r _ [8, 9, 10] (by decide +kernel) (by decide +kernel)) (goodIn_sub (fun _ h => List.mem_cons_of_mem _ (List.mem_append_right _ h)) (by decide +kernel))
set_option maxRecDepth 20000 in
theorem gX5_come_X5_checkMilkman : GoodIn wsX5_come (va_wsS RX5 79 yX5_checkMilkman wsX5_checkMilkman) := goodIn_app (goodIn_of _ (by decide +kernel)) ggX5_come_X5_checkMilkman
set_option maxRecDepth 20000 in
theorem ggX5_come_X1_mayCome : GoodIn wsX5_come wsX1_mayCome := goodIn_r _ [15, 16, 17, 18, 14, 19, 20, 21, 22, 23, 24, 25, 26, 27, 28, 29, 30, 31, 81, 82, 83, 84, 85, 86, 87, 88, 89, 90, 91] (by decide +kernel) (by decide +kernel)
set_option maxRecDepth 20000 in
theorem gX5_come_X1_mayCome : GoodIn wsX5_come (wsV RX5 82 RX1 yX1_mayCome wsX1_mayCome) := goodIn_app (goodIn_of _ (by decide +kernel)) ggX5_come_X1_mayCome
set_option maxRecDepth 20000 in
theorem ggX5_come_X2_save : GoodIn wsX5_come wsX2_save := goodIn_r _ [36, 37, 38, 39, 40, 41, 35, 42, 43, 44, 45, 46, 47, 48, 49, 14, 50, 51, 52, 25, 53, 54, 55, 20, 56, 57, 58, 59, 60, 61, 29, 62, 31, 63, 27, 28, 30, 92, 93, 81, 82, 83, 84, 85, 86, 87, 88, 89, 90, 91] (by decide +kernel) (by decide +kernel)
set_option maxRecDepth 20000 in
theorem gX5_come_X2_save : GoodIn wsX5_come (wsV RX5 55 RX2 yX2_save wsX2_save) := goodIn_app (goodIn_of _ (by decide +kernel)) ggX5_come_X2_save
set_option maxRecDepth 20000 in
theorem ggX5_come_X1_welcome : GoodIn wsX5_come wsX1_welcome := goodIn_r _ [67, 25, 68, 69, 70, 29, 71, 31, 72, 73, 74, 14, 75, 21, 22, 23, 24, 26, 27, 28, 30, 81, 82, 83, 84, 85, 86, 87, 88, 89, 90, 91] (by decide +kernel) (by decide +kernel)
set_option maxRecDepth 20000 in
theorem gX5_come_X1_welcome : GoodIn wsX5_come (wsV RX5 87 RX1 yX1_welcome wsX1_welcome) := goodIn_app (goodIn_of _ (by decide +kernel)) ggX5_come_X1_welcome
theorem dX5_come_0 : decode cX5_come 0 = .ok (.iload_n 1, 1) := by decide +kernel
theorem dX5_come_1 : decode cX5_come 1 = .ok (.invokestatic 79, 3) := by decide +kernel
theorem dX5_come_4 : decode cX5_come 4 = .ok (.aload_n 0, 1) := by decide +kernel
theorem dX5_come_5 : decode cX5_come 5 = .ok (.getfield 10, 3) := by decide +kernel
theorem dX5_come_8 : decode cX5_come 8 = .ok (.iload_n 1, 1) := by decide +kernel
theorem dX5_come_9 : decode cX5_come 9 = .ok (.invokevirtual 82, 3) := by decide +kernel
theorem dX5_come_12 : decode cX5_come 12 = .ok (.ifCond .ne 13, 3) := by decide +kernel
theorem dX5_come_15 : decode cX5_come 15 = .ok (.new 48, 3) := by decide +kernel
theorem dX5_come_18 : decode cX5_come 18 = .ok (.dup, 1) := by decide +kernel
theorem dX5_come_19 : decode cX5_come 19 = .ok (.ldc 85, 2) := by decide +kernel
theorem dX5_come_21 : decode cX5_come 21 = .ok (.invokespecial 52, 3) := by decide +kernel
theorem dX5_come_24 : decode cX5_come 24 = .ok (.athrow, 1) := by decide +kernel
theorem dX5_come_25 : decode cX5_come 25 = .ok (.aload_n 0, 1) := by decide +kernel
theorem dX5_come_26 : decode cX5_come 26 = .ok (.getfield 36, 3) := by decide +kernel
theorem dX5_come_29 : decode cX5_come 29 = .ok (.aload_n 0, 1) := by decide +kernel
theorem dX5_come_30 : decode cX5_come 30 = .ok (.getfield 10, 3) := by decide +kernel
theorem dX5_come_33 : decode cX5_come 33 = .ok (.invokevirtual 55, 3) := by decide +kernel
theorem dX5_come_36 : decode cX5_come 36 = .ok (.aload_n 0, 1) := by decide +kernel
theorem dX5_come_37 : decode cX5_come 37 = .ok (.getfield 10, 3) := by decide +kernel
theorem dX5_come_40 : decode cX5_come 40 = .ok (.iload_n 1, 1) := by decide +kernel
theorem dX5_come_41 : decode cX5_come 41 = .ok (.invokevirtual 87, 3) := by decide +kernel
theorem dX5_come_44 : decode cX5_come 44 = .ok (.ireturn, 1) := by decide +kernel
set_option maxRecDepth 20000 in
theorem ggX5_leave_X5_checkMilkman : GoodIn wsX5_leave wsX5_checkMilkman := goodIn_ca (goodIn_r _ [8, 9, 10] (by decide +kernel) (by decide +kernel)) (goodIn_sub (fun _ h => List.mem_cons_of_mem _ (List.mem_append_right _ h)) (by decide +kernel))
set_option maxRecDepth 20000 in
theorem gX5_leave_X5_checkMilkman : GoodIn wsX5_leave (va_wsS RX5 79 yX5_checkMilkman wsX5_checkMilkman) := goodIn_app (goodIn_of _ (by decide +kernel)) ggX5_leave_X5_checkMilkman
set_option maxRecDepth 20000 in
theorem ggX5_leave_X1_mayLeave : GoodIn wsX5_leave wsX1_mayLeave := goodIn_r _ [15, 16, 17, 18, 14, 19, 20, 21, 22, 23, 24, 25, 26, 27, 28, 29, 30, 31, 77, 78, 79, 80, 81, 82, 83, 84, 85, 86, 87] (by decide +kernel) (by decide +kernel)
set_option maxRecDepth 20000 in
theorem gX5_leave_X1_mayLeave : GoodIn wsX5_leave (wsV RX5 90 RX1 yX1_mayLeave wsX1_mayLeave) := goodIn_app (goodIn_of _ (by decide +kernel)) ggX5_leave_X1_mayLeave
set_option maxRecDepth 20000 in
theorem ggX5_leave_X2_save : GoodIn wsX5_leave wsX2_save := goodIn_r _ [36, 37, 38, 39, 40, 41, 35, 42, 43, 44, 45, 46, 47, 48, 49, 14, 50, 51, 52, 25, 53, 54, 55, 20, 56, 57, 58, 59, 60, 61, 29, 62, 31, 63, 27, 28, 30, 88, 89, 77, 78, 79, 80, 81, 82, 83, 84, 85, 86, 87] (by decide +kernel) (by decide +kernel)
set_option maxRecDepth 20000 in
theorem gX5_leave_X2_save : GoodIn wsX5_leave (wsV RX5 55 RX2 yX2_save wsX2_save) := goodIn_app (goodIn_of _ (by decide +kernel)) ggX5_leave_X2_save
set_option maxRecDepth 20000 in
theorem ggX5_leave_X1_dismiss : GoodIn wsX5_leave wsX1_dismiss := goodIn_r _ [67, 55, 52, 25, 26, 27, 28, 29, 30, 31, 68, 69, 70, 71, 77, 78, 79, 80, 81, 82, 83, 84, 85, 86, 87] (by decide +kernel) (by decide +kernel)
set_option maxRecDepth 20000 in
theorem gX5_leave_X1_dismiss : GoodIn wsX5_leave (wsV RX5 95 RX1 yX1_dismiss wsX1_dismiss) := goodIn_app (goodIn_of _ (by decide +kernel)) ggX5_leave_X1_dismiss
theorem dX5_leave_0 : decode cX5_leave 0 = .ok (.iload_n 1, 1) := by decide +kernel
theorem dX5_leave_1 : decode cX5_leave 1 = .ok (.invokestatic 79, 3) := by decide +kernel
theorem dX5_leave_4 : decode cX5_leave 4 = .ok (.aload_n 0, 1) := by decide +kernel
theorem dX5_leave_5 : decode cX5_leave 5 = .ok (.getfield 10, 3) := by decide +kernel
theorem dX5_leave_8 : decode cX5_leave 8 = .ok (.iload_n 1, 1) := by decide +kernel
theorem dX5_leave_9 : decode cX5_leave 9 = .ok (.invokevirtual 90, 3) := by decide +kernel
theorem dX5_leave_12 : decode cX5_leave 12 = .ok (.ifCond .ne 13, 3) := by decide +kernel
theorem dX5_leave_15 : decode cX5_leave 15 = .ok (.new 48, 3) := by decide +kernel
theorem dX5_leave_18 : decode cX5_leave 18 = .ok (.dup, 1) := by decide +kernel
theorem dX5_leave_19 : decode cX5_leave 19 = .ok (.ldc 93, 2) := by decide +kernel
theorem dX5_leave_21 : decode cX5_leave 21 = .ok (.invokespecial 52, 3) := by decide +kernel
theorem dX5_leave_24 : decode cX5_leave 24 = .ok (.athrow, 1) := by decide +kernel
theorem dX5_leave_25 : decode cX5_leave 25 = .ok (.aload_n 0, 1) := by decide +kernel
theorem dX5_leave_26 : decode cX5_leave 26 = .ok (.getfield 36, 3) := by decide +kernel
theorem dX5_leave_29 : decode cX5_leave 29 = .ok (.aload_n 0, 1) := by decide +kernel
theorem dX5_leave_30 : decode cX5_leave 30 = .ok (.getfield 10, 3) := by decide +kernel
theorem dX5_leave_33 : decode cX5_leave 33 = .ok (.invokevirtual 55, 3) := by decide +kernel
theorem dX5_leave_36 : decode cX5_leave 36 = .ok (.aload_n 0, 1) := by decide +kernel
theorem dX5_leave_37 : decode cX5_leave 37 = .ok (.getfield 10, 3) := by decide +kernel
theorem dX5_leave_40 : decode cX5_leave 40 = .ok (.iload_n 1, 1) := by decide +kernel
theorem dX5_leave_41 : decode cX5_leave 41 = .ok (.invokevirtual 95, 3) := by decide +kernel
theorem dX5_leave_44 : decode cX5_leave 44 = .ok (.ireturn, 1) := by decide +kernel
set_option maxRecDepth 20000 in
theorem ggX5_doorsteps_X1_countDoorsteps : GoodIn wsX5_doorsteps wsX1_countDoorsteps := goodIn_r _ [6, 7, 13, 14, 15, 16, 17, 18, 19, 20, 21, 22] (by decide +kernel) (by decide +kernel)
set_option maxRecDepth 20000 in
theorem gX5_doorsteps_X1_countDoorsteps : GoodIn wsX5_doorsteps (wsV RX5 98 RX1 yX1_countDoorsteps wsX1_countDoorsteps) := goodIn_app (goodIn_of _ (by decide +kernel)) ggX5_doorsteps_X1_countDoorsteps
theorem dX5_doorsteps_0 : decode cX5_doorsteps 0 = .ok (.aload_n 0, 1) := by decide +kernel
theorem dX5_doorsteps_1 : decode cX5_doorsteps 1 = .ok (.getfield 10, 3) := by decide +kernel
theorem dX5_doorsteps_4 : decode cX5_doorsteps 4 = .ok (.invokevirtual 98, 3) := by decide +kernel
theorem dX5_doorsteps_7 : decode cX5_doorsteps 7 = .ok (.ireturn, 1) := by decide +kernel
set_option maxRecDepth 20000 in
theorem ggX5_pints_X5_checkDoorstep : GoodIn wsX5_pints wsX5_checkDoorstep := goodIn_ca (goodIn_r _ [6, 7, 8, 1, 9, 10, 11, 12, 13, 14, 26, 27, 28, 29, 30, 31, 32, 33, 34, 35, 36, 37, 38, 39, 40] (by decide +kernel) (by decide +kernel)) (goodIn_sub (fun _ h => List.mem_cons_of_mem _ (List.mem_append_right _ h)) (by decide +kernel))
set_option maxRecDepth 20000 in
theorem gX5_pints_X5_checkDoorstep : GoodIn wsX5_pints (wsV RX5 63 RX5 yX5_checkDoorstep wsX5_checkDoorstep) := goodIn_app (goodIn_of _ (by decide +kernel)) ggX5_pints_X5_checkDoorstep
set_option maxRecDepth 20000 in
theorem ggX5_pints_X1_pintsOf : GoodIn wsX5_pints wsX1_pintsOf := goodIn_r _ [18, 19, 20, 21, 22, 23, 24, 25, 31, 32, 33, 34, 35, 36, 37, 38, 39, 40, 41] (by decide +kernel) (by decide +kernel)
set_option maxRecDepth 20000 in
theorem gX5_pints_X1_pintsOf : GoodIn wsX5_pints (wsV RX5 102 RX1 yX1_pintsOf wsX1_pintsOf) := goodIn_app (goodIn_of _ (by decide +kernel)) ggX5_pints_X1_pintsOf
theorem dX5_pints_0 : decode cX5_pints 0 = .ok (.aload_n 0, 1) := by decide +kernel
theorem dX5_pints_1 : decode cX5_pints 1 = .ok (.iload_n 1, 1) := by decide +kernel
theorem dX5_pints_2 : decode cX5_pints 2 = .ok (.invokevirtual 63, 3) := by decide +kernel
theorem dX5_pints_5 : decode cX5_pints 5 = .ok (.aload_n 0, 1) := by decide +kernel
theorem dX5_pints_6 : decode cX5_pints 6 = .ok (.getfield 10, 3) := by decide +kernel
theorem dX5_pints_9 : decode cX5_pints 9 = .ok (.iload_n 1, 1) := by decide +kernel
theorem dX5_pints_10 : decode cX5_pints 10 = .ok (.invokevirtual 102, 3) := by decide +kernel
theorem dX5_pints_13 : decode cX5_pints 13 = .ok (.ireturn, 1) := by decide +kernel
set_option maxRecDepth 20000 in
theorem ggX5_owner_X5_checkDoorstep : GoodIn wsX5_owner wsX5_checkDoorstep := goodIn_ca (goodIn_r _ [6, 7, 8, 1, 9, 10, 11, 12, 13, 14, 26, 27, 28, 29, 30, 31, 32, 33, 34, 35, 36, 37, 38, 39, 40] (by decide +kernel) (by decide +kernel)) (goodIn_sub (fun _ h => List.mem_cons_of_mem _ (List.mem_append_right _ h)) (by decide +kernel))
set_option maxRecDepth 20000 in
theorem gX5_owner_X5_checkDoorstep : GoodIn wsX5_owner (wsV RX5 63 RX5 yX5_checkDoorstep wsX5_checkDoorstep) := goodIn_app (goodIn_of _ (by decide +kernel)) ggX5_owner_X5_checkDoorstep
set_option maxRecDepth 20000 in
theorem ggX5_owner_X1_ownerOf : GoodIn wsX5_owner wsX1_ownerOf := goodIn_r _ [18, 19, 20, 21, 22, 23, 24, 25, 31, 32, 33, 34, 35, 36, 37, 38, 39, 40, 41] (by decide +kernel) (by decide +kernel)
set_option maxRecDepth 20000 in
theorem gX5_owner_X1_ownerOf : GoodIn wsX5_owner (wsV RX5 105 RX1 yX1_ownerOf wsX1_ownerOf) := goodIn_app (goodIn_of _ (by decide +kernel)) ggX5_owner_X1_ownerOf
theorem dX5_owner_0 : decode cX5_owner 0 = .ok (.aload_n 0, 1) := by decide +kernel
theorem dX5_owner_1 : decode cX5_owner 1 = .ok (.iload_n 1, 1) := by decide +kernel
theorem dX5_owner_2 : decode cX5_owner 2 = .ok (.invokevirtual 63, 3) := by decide +kernel
theorem dX5_owner_5 : decode cX5_owner 5 = .ok (.aload_n 0, 1) := by decide +kernel
theorem dX5_owner_6 : decode cX5_owner 6 = .ok (.getfield 10, 3) := by decide +kernel
theorem dX5_owner_9 : decode cX5_owner 9 = .ok (.iload_n 1, 1) := by decide +kernel
theorem dX5_owner_10 : decode cX5_owner 10 = .ok (.invokevirtual 105, 3) := by decide +kernel
theorem dX5_owner_13 : decode cX5_owner 13 = .ok (.ireturn, 1) := by decide +kernel
set_option maxRecDepth 20000 in
theorem ggX5_isAtWork_X5_checkMilkman : GoodIn wsX5_isAtWork wsX5_checkMilkman := goodIn_ca (goodIn_r _ [5, 6, 7] (by decide +kernel) (by decide +kernel)) (goodIn_sub (fun _ h => List.mem_cons_of_mem _ (List.mem_append_right _ h)) (by decide +kernel))
set_option maxRecDepth 20000 in
theorem gX5_isAtWork_X5_checkMilkman : GoodIn wsX5_isAtWork (va_wsS RX5 79 yX5_checkMilkman wsX5_checkMilkman) := goodIn_app (goodIn_of _ (by decide +kernel)) ggX5_isAtWork_X5_checkMilkman
set_option maxRecDepth 20000 in
theorem ggX5_isAtWork_X1_works : GoodIn wsX5_isAtWork wsX1_works := goodIn_r _ [12, 13, 14, 15, 16, 17, 18, 19, 25, 26, 27, 28, 29, 30, 31, 32, 33, 34, 35] (by decide +kernel) (by decide +kernel)
set_option maxRecDepth 20000 in
theorem gX5_isAtWork_X1_works : GoodIn wsX5_isAtWork (wsV RX5 108 RX1 yX1_works wsX1_works) := goodIn_app (goodIn_of _ (by decide +kernel)) ggX5_isAtWork_X1_works
theorem dX5_isAtWork_0 : decode cX5_isAtWork 0 = .ok (.iload_n 1, 1) := by decide +kernel
theorem dX5_isAtWork_1 : decode cX5_isAtWork 1 = .ok (.invokestatic 79, 3) := by decide +kernel
theorem dX5_isAtWork_4 : decode cX5_isAtWork 4 = .ok (.aload_n 0, 1) := by decide +kernel
theorem dX5_isAtWork_5 : decode cX5_isAtWork 5 = .ok (.getfield 10, 3) := by decide +kernel
theorem dX5_isAtWork_8 : decode cX5_isAtWork 8 = .ok (.iload_n 1, 1) := by decide +kernel
theorem dX5_isAtWork_9 : decode cX5_isAtWork 9 = .ok (.invokevirtual 108, 3) := by decide +kernel
theorem dX5_isAtWork_12 : decode cX5_isAtWork 12 = .ok (.ireturn, 1) := by decide +kernel
set_option maxRecDepth 20000 in
theorem ggX5_size_X5_checkMilkman : GoodIn wsX5_size wsX5_checkMilkman := goodIn_ca (goodIn_r _ [5, 6, 7] (by decide +kernel) (by decide +kernel)) (goodIn_sub (fun _ h => List.mem_cons_of_mem _ (List.mem_append_right _ h)) (by decide +kernel))
set_option maxRecDepth 20000 in
theorem gX5_size_X5_checkMilkman : GoodIn wsX5_size (va_wsS RX5 79 yX5_checkMilkman wsX5_checkMilkman) := goodIn_app (goodIn_of _ (by decide +kernel)) ggX5_size_X5_checkMilkman
set_option maxRecDepth 20000 in
theorem ggX5_size_X1_roundSize : GoodIn wsX5_size wsX1_roundSize := goodIn_r _ [12, 13, 14, 15, 16, 17, 18, 19, 20, 26, 27, 28, 29, 30, 31, 32, 33, 34, 35, 36] (by decide +kernel) (by decide +kernel)
set_option maxRecDepth 20000 in
theorem gX5_size_X1_roundSize : GoodIn wsX5_size (wsV RX5 111 RX1 yX1_roundSize wsX1_roundSize) := goodIn_app (goodIn_of _ (by decide +kernel)) ggX5_size_X1_roundSize
theorem dX5_size_0 : decode cX5_size 0 = .ok (.iload_n 1, 1) := by decide +kernel
theorem dX5_size_1 : decode cX5_size 1 = .ok (.invokestatic 79, 3) := by decide +kernel
theorem dX5_size_4 : decode cX5_size 4 = .ok (.aload_n 0, 1) := by decide +kernel
theorem dX5_size_5 : decode cX5_size 5 = .ok (.getfield 10, 3) := by decide +kernel
theorem dX5_size_8 : decode cX5_size 8 = .ok (.iload_n 1, 1) := by decide +kernel
theorem dX5_size_9 : decode cX5_size 9 = .ok (.invokevirtual 111, 3) := by decide +kernel
theorem dX5_size_12 : decode cX5_size 12 = .ok (.ireturn, 1) := by decide +kernel
set_option maxRecDepth 20000 in
theorem ggX5_load_X5_checkMilkman : GoodIn wsX5_load wsX5_checkMilkman := goodIn_ca (goodIn_r _ [5, 6, 7] (by decide +kernel) (by decide +kernel)) (goodIn_sub (fun _ h => List.mem_cons_of_mem _ (List.mem_append_right _ h)) (by decide +kernel))
set_option maxRecDepth 20000 in
theorem gX5_load_X5_checkMilkman : GoodIn wsX5_load (va_wsS RX5 79 yX5_checkMilkman wsX5_checkMilkman) := goodIn_app (goodIn_of _ (by decide +kernel)) ggX5_load_X5_checkMilkman
set_option maxRecDepth 20000 in
theorem ggX5_load_X1_roundLoad : GoodIn wsX5_load wsX1_roundLoad := goodIn_r _ [12, 13, 14, 15, 16, 17, 18, 19, 20, 21, 27, 28, 29, 30, 31, 32, 33, 34, 35, 36, 37] (by decide +kernel) (by decide +kernel)
set_option maxRecDepth 20000 in
theorem gX5_load_X1_roundLoad : GoodIn wsX5_load (wsV RX5 114 RX1 yX1_roundLoad wsX1_roundLoad) := goodIn_app (goodIn_of _ (by decide +kernel)) ggX5_load_X1_roundLoad
theorem dX5_load_0 : decode cX5_load 0 = .ok (.iload_n 1, 1) := by decide +kernel
theorem dX5_load_1 : decode cX5_load 1 = .ok (.invokestatic 79, 3) := by decide +kernel
theorem dX5_load_4 : decode cX5_load 4 = .ok (.aload_n 0, 1) := by decide +kernel
theorem dX5_load_5 : decode cX5_load 5 = .ok (.getfield 10, 3) := by decide +kernel
theorem dX5_load_8 : decode cX5_load 8 = .ok (.iload_n 1, 1) := by decide +kernel
theorem dX5_load_9 : decode cX5_load 9 = .ok (.invokevirtual 114, 3) := by decide +kernel
theorem dX5_load_12 : decode cX5_load 12 = .ok (.ireturn, 1) := by decide +kernel
set_option maxRecDepth 20000 in
theorem ggX5_plan_X1_mayPlan : GoodIn wsX5_plan wsX1_mayPlan := goodIn_r _ [9, 10, 11, 12, 8, 13, 14, 15, 16, 17, 18, 19, 20, 21, 22, 23, 24, 25, 26, 27, 28, 29, 160, 161, 162, 163, 164, 165, 166, 167, 168, 169, 170] (by decide +kernel) (by decide +kernel)
set_option maxRecDepth 20000 in
theorem gX5_plan_X1_mayPlan : GoodIn wsX5_plan (wsV RX5 117 RX1 yX1_mayPlan wsX1_mayPlan) := goodIn_app (goodIn_of _ (by decide +kernel)) ggX5_plan_X1_mayPlan
set_option maxRecDepth 20000 in
theorem ggX5_plan_X2_save : GoodIn wsX5_plan wsX2_save := goodIn_r _ [34, 35, 36, 37, 38, 39, 33, 40, 41, 42, 43, 44, 45, 46, 47, 8, 48, 49, 50, 23, 51, 52, 53, 14, 54, 55, 56, 57, 58, 59, 27, 60, 29, 61, 25, 26, 28, 171, 172, 160, 161, 162, 163, 164, 165, 166, 167, 168, 169, 170] (by decide +kernel) (by decide +kernel)
set_option maxRecDepth 20000 in
theorem gX5_plan_X2_save : GoodIn wsX5_plan (wsV RX5 55 RX2 yX2_save wsX2_save) := goodIn_app (goodIn_of _ (by decide +kernel)) ggX5_plan_X2_save
set_option maxRecDepth 20000 in
theorem ggX5_plan_X5_makePlan : GoodIn wsX5_plan wsX5_makePlan := goodIn_r _ [66, 67, 3, 68, 69, 70, 71, 72, 73, 74, 75, 76, 77, 78, 27, 79, 29, 80, 16, 17, 8, 18, 19, 20, 21, 22, 23, 24, 25, 26, 28, 81, 82, 83, 84, 53, 85, 86, 87, 88, 89, 90, 91, 92, 93, 94, 50, 95, 96, 97, 98, 99, 100, 101, 102, 103, 104, 105, 106, 107, 108, 109, 110, 111, 112, 113, 114, 115, 116, 117, 49, 118, 119, 120, 121, 122, 123, 124, 125, 126, 127, 128, 129, 130, 131, 132, 133, 134, 135, 136, 137, 138, 139, 140, 141, 142, 143, 144, 145, 146, 147, 148, 149, 51, 52, 14, 150, 151, 152, 153, 154, 57, 58, 59, 60, 61, 155, 156, 157, 158, 159, 173, 174, 175, 176, 177, 178, 170, 160, 161, 162, 163, 164, 165, 166, 167, 168, 169] (by decide +kernel) (by decide +kernel)
set_option maxRecDepth 20000 in
theorem gX5_plan_X5_makePlan : GoodIn wsX5_plan (wsV RX5 122 RX5 yX5_makePlan wsX5_makePlan) := goodIn_app (goodIn_of _ (by decide +kernel)) ggX5_plan_X5_makePlan
theorem dX5_plan_0 : decode cX5_plan 0 = .ok (.aload_n 0, 1) := by decide +kernel
theorem dX5_plan_1 : decode cX5_plan 1 = .ok (.getfield 10, 3) := by decide +kernel
theorem dX5_plan_4 : decode cX5_plan 4 = .ok (.invokevirtual 117, 3) := by decide +kernel
theorem dX5_plan_7 : decode cX5_plan 7 = .ok (.ifCond .ne 13, 3) := by decide +kernel
theorem dX5_plan_10 : decode cX5_plan 10 = .ok (.new 48, 3) := by decide +kernel
theorem dX5_plan_13 : decode cX5_plan 13 = .ok (.dup, 1) := by decide +kernel
theorem dX5_plan_14 : decode cX5_plan 14 = .ok (.ldc 120, 2) := by decide +kernel
theorem dX5_plan_16 : decode cX5_plan 16 = .ok (.invokespecial 52, 3) := by decide +kernel
theorem dX5_plan_19 : decode cX5_plan 19 = .ok (.athrow, 1) := by decide +kernel
theorem dX5_plan_20 : decode cX5_plan 20 = .ok (.aload_n 0, 1) := by decide +kernel
theorem dX5_plan_21 : decode cX5_plan 21 = .ok (.getfield 36, 3) := by decide +kernel
theorem dX5_plan_24 : decode cX5_plan 24 = .ok (.aload_n 0, 1) := by decide +kernel
theorem dX5_plan_25 : decode cX5_plan 25 = .ok (.getfield 10, 3) := by decide +kernel
theorem dX5_plan_28 : decode cX5_plan 28 = .ok (.invokevirtual 55, 3) := by decide +kernel
theorem dX5_plan_31 : decode cX5_plan 31 = .ok (.aload_n 0, 1) := by decide +kernel
theorem dX5_plan_32 : decode cX5_plan 32 = .ok (.invokevirtual 122, 3) := by decide +kernel
theorem dX5_plan_35 : decode cX5_plan 35 = .ok (.ireturn, 1) := by decide +kernel
set_option maxRecDepth 20000 in
theorem ggX5_handOver_X1_isHandingOver : GoodIn wsX5_handOver wsX1_isHandingOver := goodIn_r _ [9, 10, 75, 76, 77, 78, 79, 80, 81, 82, 83, 84] (by decide +kernel) (by decide +kernel)
set_option maxRecDepth 20000 in
theorem gX5_handOver_X1_isHandingOver : GoodIn wsX5_handOver (wsV RX5 125 RX1 yX1_isHandingOver wsX1_isHandingOver) := goodIn_app (goodIn_of _ (by decide +kernel)) ggX5_handOver_X1_isHandingOver
set_option maxRecDepth 20000 in
theorem ggX5_handOver_X2_save : GoodIn wsX5_handOver wsX2_save := goodIn_r _ [15, 16, 17, 18, 19, 20, 14, 21, 22, 23, 24, 25, 26, 27, 28, 8, 29, 30, 31, 32, 33, 34, 35, 10, 36, 37, 38, 39, 40, 41, 42, 43, 44, 45, 46, 47, 48, 85, 86, 75, 76, 77, 78, 79, 80, 81, 82, 83, 84, 87] (by decide +kernel) (by decide +kernel)
set_option maxRecDepth 20000 in
theorem gX5_handOver_X2_save : GoodIn wsX5_handOver (wsV RX5 55 RX2 yX2_save wsX2_save) := goodIn_app (goodIn_of _ (by decide +kernel)) ggX5_handOver_X2_save
set_option maxRecDepth 20000 in
theorem ggX5_handOver_X1_doNextStep : GoodIn wsX5_handOver wsX1_doNextStep := goodIn_r _ [52, 10, 53, 54, 55, 8, 56, 35, 31, 33, 57, 46, 47, 42, 48, 44, 58, 59, 60, 61, 62, 63, 64, 65, 36, 66, 67, 68, 69, 75, 76, 77, 78, 79, 80, 81, 82, 83, 84, 87] (by decide +kernel) (by decide +kernel)
set_option maxRecDepth 20000 in
theorem gX5_handOver_X1_doNextStep : GoodIn wsX5_handOver (wsV RX5 130 RX1 yX1_doNextStep wsX1_doNextStep) := goodIn_app (goodIn_of _ (by decide +kernel)) ggX5_handOver_X1_doNextStep
theorem dX5_handOver_0 : decode cX5_handOver 0 = .ok (.aload_n 0, 1) := by decide +kernel
theorem dX5_handOver_1 : decode cX5_handOver 1 = .ok (.getfield 10, 3) := by decide +kernel
theorem dX5_handOver_4 : decode cX5_handOver 4 = .ok (.invokevirtual 125, 3) := by decide +kernel
theorem dX5_handOver_7 : decode cX5_handOver 7 = .ok (.ifCond .ne 13, 3) := by decide +kernel
theorem dX5_handOver_10 : decode cX5_handOver 10 = .ok (.new 48, 3) := by decide +kernel
theorem dX5_handOver_13 : decode cX5_handOver 13 = .ok (.dup, 1) := by decide +kernel
theorem dX5_handOver_14 : decode cX5_handOver 14 = .ok (.ldc 128, 2) := by decide +kernel
theorem dX5_handOver_16 : decode cX5_handOver 16 = .ok (.invokespecial 52, 3) := by decide +kernel
theorem dX5_handOver_19 : decode cX5_handOver 19 = .ok (.athrow, 1) := by decide +kernel
theorem dX5_handOver_20 : decode cX5_handOver 20 = .ok (.aload_n 0, 1) := by decide +kernel
theorem dX5_handOver_21 : decode cX5_handOver 21 = .ok (.getfield 36, 3) := by decide +kernel
theorem dX5_handOver_24 : decode cX5_handOver 24 = .ok (.aload_n 0, 1) := by decide +kernel
theorem dX5_handOver_25 : decode cX5_handOver 25 = .ok (.getfield 10, 3) := by decide +kernel
theorem dX5_handOver_28 : decode cX5_handOver 28 = .ok (.invokevirtual 55, 3) := by decide +kernel
theorem dX5_handOver_31 : decode cX5_handOver 31 = .ok (.aload_n 0, 1) := by decide +kernel
theorem dX5_handOver_32 : decode cX5_handOver 32 = .ok (.getfield 10, 3) := by decide +kernel
theorem dX5_handOver_35 : decode cX5_handOver 35 = .ok (.invokevirtual 130, 3) := by decide +kernel
theorem dX5_handOver_38 : decode cX5_handOver 38 = .ok (.ireturn, 1) := by decide +kernel
set_option maxRecDepth 20000 in
theorem ggX5_callOff_X1_isHandingOver : GoodIn wsX5_callOff wsX1_isHandingOver := goodIn_r _ [9, 10, 67, 68, 69, 70, 71, 72, 73, 74, 75, 76] (by decide +kernel) (by decide +kernel)
set_option maxRecDepth 20000 in
theorem gX5_callOff_X1_isHandingOver : GoodIn wsX5_callOff (wsV RX5 125 RX1 yX1_isHandingOver wsX1_isHandingOver) := goodIn_app (goodIn_of _ (by decide +kernel)) ggX5_callOff_X1_isHandingOver
set_option maxRecDepth 20000 in
theorem ggX5_callOff_X2_save : GoodIn wsX5_callOff wsX2_save := goodIn_r _ [15, 16, 17, 18, 19, 20, 14, 21, 22, 23, 24, 25, 26, 27, 28, 8, 29, 30, 31, 32, 33, 34, 35, 10, 36, 37, 38, 39, 40, 41, 42, 43, 44, 45, 46, 47, 48, 77, 78, 67, 68, 69, 70, 71, 72, 73, 74, 75, 76, 79] (by decide +kernel) (by decide +kernel)
set_option maxRecDepth 20000 in
theorem gX5_callOff_X2_save : GoodIn wsX5_callOff (wsV RX5 55 RX2 yX2_save wsX2_save) := goodIn_app (goodIn_of _ (by decide +kernel)) ggX5_callOff_X2_save
set_option maxRecDepth 20000 in
theorem ggX5_callOff_X1_giveBack : GoodIn wsX5_callOff wsX1_giveBack := goodIn_r _ [52, 34, 10, 53, 54, 55, 8, 56, 35, 31, 57, 46, 47, 42, 48, 44, 58, 59, 60, 61, 67, 68, 69, 70, 71, 72, 73, 74, 75, 76, 79] (by decide +kernel) (by decide +kernel)
set_option maxRecDepth 20000 in
theorem gX5_callOff_X1_giveBack : GoodIn wsX5_callOff (wsV RX5 133 RX1 yX1_giveBack wsX1_giveBack) := goodIn_app (goodIn_of _ (by decide +kernel)) ggX5_callOff_X1_giveBack
theorem dX5_callOff_0 : decode cX5_callOff 0 = .ok (.aload_n 0, 1) := by decide +kernel
theorem dX5_callOff_1 : decode cX5_callOff 1 = .ok (.getfield 10, 3) := by decide +kernel
theorem dX5_callOff_4 : decode cX5_callOff 4 = .ok (.invokevirtual 125, 3) := by decide +kernel
theorem dX5_callOff_7 : decode cX5_callOff 7 = .ok (.ifCond .ne 13, 3) := by decide +kernel
theorem dX5_callOff_10 : decode cX5_callOff 10 = .ok (.new 48, 3) := by decide +kernel
theorem dX5_callOff_13 : decode cX5_callOff 13 = .ok (.dup, 1) := by decide +kernel
theorem dX5_callOff_14 : decode cX5_callOff 14 = .ok (.ldc 128, 2) := by decide +kernel
theorem dX5_callOff_16 : decode cX5_callOff 16 = .ok (.invokespecial 52, 3) := by decide +kernel
theorem dX5_callOff_19 : decode cX5_callOff 19 = .ok (.athrow, 1) := by decide +kernel
theorem dX5_callOff_20 : decode cX5_callOff 20 = .ok (.aload_n 0, 1) := by decide +kernel
theorem dX5_callOff_21 : decode cX5_callOff 21 = .ok (.getfield 36, 3) := by decide +kernel
theorem dX5_callOff_24 : decode cX5_callOff 24 = .ok (.aload_n 0, 1) := by decide +kernel
theorem dX5_callOff_25 : decode cX5_callOff 25 = .ok (.getfield 10, 3) := by decide +kernel
theorem dX5_callOff_28 : decode cX5_callOff 28 = .ok (.invokevirtual 55, 3) := by decide +kernel
theorem dX5_callOff_31 : decode cX5_callOff 31 = .ok (.aload_n 0, 1) := by decide +kernel
theorem dX5_callOff_32 : decode cX5_callOff 32 = .ok (.getfield 10, 3) := by decide +kernel
theorem dX5_callOff_35 : decode cX5_callOff 35 = .ok (.invokevirtual 133, 3) := by decide +kernel
theorem dX5_callOff_38 : decode cX5_callOff 38 = .ok (.ireturn, 1) := by decide +kernel
set_option maxRecDepth 20000 in
theorem ggX5_handover_X1_nextStep : GoodIn wsX5_handover wsX1_nextStep := goodIn_r _ [6, 7, 13, 14, 15, 16, 17, 18, 19, 20, 21, 22] (by decide +kernel) (by decide +kernel)
set_option maxRecDepth 20000 in
theorem gX5_handover_X1_nextStep : GoodIn wsX5_handover (wsV RX5 136 RX1 yX1_nextStep wsX1_nextStep) := goodIn_app (goodIn_of _ (by decide +kernel)) ggX5_handover_X1_nextStep
theorem dX5_handover_0 : decode cX5_handover 0 = .ok (.aload_n 0, 1) := by decide +kernel
theorem dX5_handover_1 : decode cX5_handover 1 = .ok (.getfield 10, 3) := by decide +kernel
theorem dX5_handover_4 : decode cX5_handover 4 = .ok (.invokevirtual 136, 3) := by decide +kernel
theorem dX5_handover_7 : decode cX5_handover 7 = .ok (.ireturn, 1) := by decide +kernel
set_option maxRecDepth 20000 in
theorem ggX5_planned_X5_checkDoorstep : GoodIn wsX5_planned wsX5_checkDoorstep := goodIn_ca (goodIn_r _ [6, 7, 8, 1, 9, 10, 11, 12, 13, 14, 32, 33, 34, 35, 36, 37, 38, 39, 40, 41, 42, 43, 44, 45, 46] (by decide +kernel) (by decide +kernel)) (goodIn_sub (fun _ h => List.mem_cons_of_mem _ (List.mem_append_right _ h)) (by decide +kernel))
set_option maxRecDepth 20000 in
theorem gX5_planned_X5_checkDoorstep : GoodIn wsX5_planned (wsV RX5 63 RX5 yX5_checkDoorstep wsX5_checkDoorstep) := goodIn_app (goodIn_of _ (by decide +kernel)) ggX5_planned_X5_checkDoorstep
set_option maxRecDepth 20000 in
theorem ggX5_planned_X1_plannedOwner : GoodIn wsX5_planned wsX1_plannedOwner := goodIn_r _ [18, 19, 20, 21, 22, 23, 12, 24, 25, 26, 27, 28, 29, 30, 31, 37, 38, 39, 40, 41, 42, 43, 44, 45, 46, 47] (by decide +kernel) (by decide +kernel)
set_option maxRecDepth 20000 in
theorem gX5_planned_X1_plannedOwner : GoodIn wsX5_planned (wsV RX5 139 RX1 yX1_plannedOwner wsX1_plannedOwner) := goodIn_app (goodIn_of _ (by decide +kernel)) ggX5_planned_X1_plannedOwner
theorem dX5_planned_0 : decode cX5_planned 0 = .ok (.aload_n 0, 1) := by decide +kernel
theorem dX5_planned_1 : decode cX5_planned 1 = .ok (.iload_n 1, 1) := by decide +kernel
theorem dX5_planned_2 : decode cX5_planned 2 = .ok (.invokevirtual 63, 3) := by decide +kernel
theorem dX5_planned_5 : decode cX5_planned 5 = .ok (.aload_n 0, 1) := by decide +kernel
theorem dX5_planned_6 : decode cX5_planned 6 = .ok (.getfield 10, 3) := by decide +kernel
theorem dX5_planned_9 : decode cX5_planned 9 = .ok (.iload_n 1, 1) := by decide +kernel
theorem dX5_planned_10 : decode cX5_planned 10 = .ok (.invokevirtual 139, 3) := by decide +kernel
theorem dX5_planned_13 : decode cX5_planned 13 = .ok (.ireturn, 1) := by decide +kernel
set_option maxRecDepth 20000 in
theorem ggX5_changed_X1_countTakenOver : GoodIn wsX5_changed wsX1_countTakenOver := goodIn_r _ [6, 7, 13, 14, 15, 16, 17, 18, 19, 20, 21, 22] (by decide +kernel) (by decide +kernel)
set_option maxRecDepth 20000 in
theorem gX5_changed_X1_countTakenOver : GoodIn wsX5_changed (wsV RX5 142 RX1 yX1_countTakenOver wsX1_countTakenOver) := goodIn_app (goodIn_of _ (by decide +kernel)) ggX5_changed_X1_countTakenOver
theorem dX5_changed_0 : decode cX5_changed 0 = .ok (.aload_n 0, 1) := by decide +kernel
theorem dX5_changed_1 : decode cX5_changed 1 = .ok (.getfield 10, 3) := by decide +kernel
theorem dX5_changed_4 : decode cX5_changed 4 = .ok (.invokevirtual 142, 3) := by decide +kernel
theorem dX5_changed_7 : decode cX5_changed 7 = .ok (.ireturn, 1) := by decide +kernel
set_option maxRecDepth 20000 in
theorem ggX5_deliver_X2_save : GoodIn wsX5_deliver wsX2_save := goodIn_r _ [7, 8, 9, 10, 11, 12, 6, 13, 14, 15, 16, 17, 18, 19, 20, 21, 22, 23, 24, 25, 26, 27, 28, 29, 30, 31, 32, 33, 34, 35, 36, 37, 38, 39, 40, 41, 42, 53, 54, 55, 56, 57, 58, 59, 60, 61, 62, 63, 64, 65] (by decide +kernel) (by decide +kernel)
set_option maxRecDepth 20000 in
theorem gX5_deliver_X2_save : GoodIn wsX5_deliver (wsV RX5 55 RX2 yX2_save wsX2_save) := goodIn_app (goodIn_of _ (by decide +kernel)) ggX5_deliver_X2_save
set_option maxRecDepth 20000 in
theorem ggX5_deliver_X1_bringMilk : GoodIn wsX5_deliver wsX1_bringMilk := goodIn_r _ [46, 28, 24, 32, 23, 31, 47, 40, 41, 36, 42, 38, 55, 56, 57, 58, 59, 60, 61, 62, 63, 64, 65] (by decide +kernel) (by decide +kernel)
set_option maxRecDepth 20000 in
theorem gX5_deliver_X1_bringMilk : GoodIn wsX5_deliver (wsV RX5 145 RX1 yX1_bringMilk wsX1_bringMilk) := goodIn_app (goodIn_of _ (by decide +kernel)) ggX5_deliver_X1_bringMilk
theorem dX5_deliver_0 : decode cX5_deliver 0 = .ok (.aload_n 0, 1) := by decide +kernel
theorem dX5_deliver_1 : decode cX5_deliver 1 = .ok (.getfield 36, 3) := by decide +kernel
theorem dX5_deliver_4 : decode cX5_deliver 4 = .ok (.aload_n 0, 1) := by decide +kernel
theorem dX5_deliver_5 : decode cX5_deliver 5 = .ok (.getfield 10, 3) := by decide +kernel
theorem dX5_deliver_8 : decode cX5_deliver 8 = .ok (.invokevirtual 55, 3) := by decide +kernel
theorem dX5_deliver_11 : decode cX5_deliver 11 = .ok (.aload_n 0, 1) := by decide +kernel
theorem dX5_deliver_12 : decode cX5_deliver 12 = .ok (.getfield 10, 3) := by decide +kernel
theorem dX5_deliver_15 : decode cX5_deliver 15 = .ok (.invokevirtual 145, 3) := by decide +kernel
theorem dX5_deliver_18 : decode cX5_deliver 18 = .ok (.ireturn, 1) := by decide +kernel
set_option maxRecDepth 20000 in
theorem ggX5_delivered_X1_countPintsBrought : GoodIn wsX5_delivered wsX1_countPintsBrought := goodIn_r _ [6, 7, 13, 14, 15, 16, 17, 18, 19, 20, 21, 22] (by decide +kernel) (by decide +kernel)
set_option maxRecDepth 20000 in
theorem gX5_delivered_X1_countPintsBrought : GoodIn wsX5_delivered (wsV RX5 148 RX1 yX1_countPintsBrought wsX1_countPintsBrought) := goodIn_app (goodIn_of _ (by decide +kernel)) ggX5_delivered_X1_countPintsBrought
theorem dX5_delivered_0 : decode cX5_delivered 0 = .ok (.aload_n 0, 1) := by decide +kernel
theorem dX5_delivered_1 : decode cX5_delivered 1 = .ok (.getfield 10, 3) := by decide +kernel
theorem dX5_delivered_4 : decode cX5_delivered 4 = .ok (.invokevirtual 148, 3) := by decide +kernel
theorem dX5_delivered_7 : decode cX5_delivered 7 = .ok (.ireturn, 1) := by decide +kernel
set_option maxRecDepth 20000 in
theorem ggX5_misses_X1_countMisses : GoodIn wsX5_misses wsX1_countMisses := goodIn_r _ [6, 7, 13, 14, 15, 16, 17, 18, 19, 20, 21, 22] (by decide +kernel) (by decide +kernel)
set_option maxRecDepth 20000 in
theorem gX5_misses_X1_countMisses : GoodIn wsX5_misses (wsV RX5 151 RX1 yX1_countMisses wsX1_countMisses) := goodIn_app (goodIn_of _ (by decide +kernel)) ggX5_misses_X1_countMisses
theorem dX5_misses_0 : decode cX5_misses 0 = .ok (.aload_n 0, 1) := by decide +kernel
theorem dX5_misses_1 : decode cX5_misses 1 = .ok (.getfield 10, 3) := by decide +kernel
theorem dX5_misses_4 : decode cX5_misses 4 = .ok (.invokevirtual 151, 3) := by decide +kernel
theorem dX5_misses_7 : decode cX5_misses 7 = .ok (.ireturn, 1) := by decide +kernel
set_option maxRecDepth 20000 in
theorem ggX5_ifPlanned_X5_checkDoorstep : GoodIn wsX5_ifPlanned wsX5_checkDoorstep := goodIn_ca (goodIn_r _ [7, 8, 9, 2, 10, 11, 12, 13, 14, 15, 114, 115, 116, 117, 118, 119, 120, 121, 122, 123, 124, 125, 126, 127, 128] (by decide +kernel) (by decide +kernel)) (goodIn_sub (fun _ h => List.mem_cons_of_mem _ (List.mem_append_right _ h)) (by decide +kernel))
set_option maxRecDepth 20000 in
theorem gX5_ifPlanned_X5_checkDoorstep : GoodIn wsX5_ifPlanned (wsV RX5 63 RX5 yX5_checkDoorstep wsX5_checkDoorstep) := goodIn_app (goodIn_of _ (by decide +kernel)) ggX5_ifPlanned_X5_checkDoorstep
set_option maxRecDepth 20000 in
theorem ggX5_ifPlanned_X4_shareOut : GoodIn wsX5_ifPlanned wsX4_shareOut := goodIn_r _ [20, 21, 22, 23, 24, 25, 26, 27, 28, 29, 30, 31, 32, 13, 33, 34, 35, 36, 37, 38, 39, 40, 41, 42, 43, 44, 45, 46, 15, 47, 48, 49, 19, 50, 51, 52, 53, 54, 55, 56, 57, 58, 59, 60, 61, 62, 63, 64, 65, 66, 67, 68, 69, 70, 71, 72, 73, 74, 75, 76, 77, 78, 79, 80, 81, 82, 83, 84, 85, 86, 87, 88, 89, 90, 91, 92, 93, 94, 95, 96, 97, 98, 99, 100, 101, 102, 103, 104, 105, 106, 107, 108, 109, 129, 130, 131, 132, 133, 134, 135, 119, 120, 121, 122, 123, 124, 125, 126, 127, 128] (by decide +kernel) (by decide +kernel)
set_option maxRecDepth 20000 in
theorem gX5_ifPlanned_X4_shareOut : GoodIn wsX5_ifPlanned (wsV RX5 154 RX4 yX4_shareOut wsX4_shareOut) := goodIn_app (goodIn_of _ (by decide +kernel)) ggX5_ifPlanned_X4_shareOut
set_option maxRecDepth 20000 in
theorem ggX5_ifPlanned_X4_ownerInPlan : GoodIn wsX5_ifPlanned wsX4_ownerInPlan := goodIn_r _ [113, 21, 67, 40, 41, 27, 42, 29, 129, 130, 131, 132, 133, 134, 135] (by decide +kernel) (by decide +kernel)
set_option maxRecDepth 20000 in
theorem gX5_ifPlanned_X4_ownerInPlan : GoodIn wsX5_ifPlanned (wsV RX5 158 RX4 yX4_ownerInPlan wsX4_ownerInPlan) := goodIn_app (goodIn_of _ (by decide +kernel)) ggX5_ifPlanned_X4_ownerInPlan
theorem dX5_ifPlanned_0 : decode cX5_ifPlanned 0 = .ok (.aload_n 0, 1) := by decide +kernel
theorem dX5_ifPlanned_1 : decode cX5_ifPlanned 1 = .ok (.iload_n 1, 1) := by decide +kernel
theorem dX5_ifPlanned_2 : decode cX5_ifPlanned 2 = .ok (.invokevirtual 63, 3) := by decide +kernel
theorem dX5_ifPlanned_5 : decode cX5_ifPlanned 5 = .ok (.aload_n 0, 1) := by decide +kernel
theorem dX5_ifPlanned_6 : decode cX5_ifPlanned 6 = .ok (.getfield 22, 3) := by decide +kernel
theorem dX5_ifPlanned_9 : decode cX5_ifPlanned 9 = .ok (.aload_n 0, 1) := by decide +kernel
theorem dX5_ifPlanned_10 : decode cX5_ifPlanned 10 = .ok (.getfield 10, 3) := by decide +kernel
theorem dX5_ifPlanned_13 : decode cX5_ifPlanned 13 = .ok (.invokevirtual 154, 3) := by decide +kernel
theorem dX5_ifPlanned_16 : decode cX5_ifPlanned 16 = .ok (.pop, 1) := by decide +kernel
theorem dX5_ifPlanned_17 : decode cX5_ifPlanned 17 = .ok (.aload_n 0, 1) := by decide +kernel
theorem dX5_ifPlanned_18 : decode cX5_ifPlanned 18 = .ok (.getfield 22, 3) := by decide +kernel
theorem dX5_ifPlanned_21 : decode cX5_ifPlanned 21 = .ok (.iload_n 1, 1) := by decide +kernel
theorem dX5_ifPlanned_22 : decode cX5_ifPlanned 22 = .ok (.invokevirtual 158, 3) := by decide +kernel
theorem dX5_ifPlanned_25 : decode cX5_ifPlanned 25 = .ok (.ireturn, 1) := by decide +kernel
set_option maxRecDepth 20000 in
theorem ggX5_reason_X5_checkDoorstep : GoodIn wsX5_reason wsX5_checkDoorstep := goodIn_ca (goodIn_r _ [7, 8, 9, 2, 10, 11, 12, 13, 14, 15, 120, 121, 122, 123, 124, 125, 126, 127, 128, 129, 130, 131, 132, 133, 134] (by decide +kernel) (by decide +kernel)) (goodIn_sub (fun _ h => List.mem_cons_of_mem _ (List.mem_append_right _ h)) (by decide +kernel))
set_option maxRecDepth 20000 in
theorem gX5_reason_X5_checkDoorstep : GoodIn wsX5_reason (wsV RX5 63 RX5 yX5_checkDoorstep wsX5_checkDoorstep) := goodIn_app (goodIn_of _ (by decide +kernel)) ggX5_reason_X5_checkDoorstep
set_option maxRecDepth 20000 in
theorem ggX5_reason_X4_shareOut : GoodIn wsX5_reason wsX4_shareOut := goodIn_r _ [20, 21, 22, 23, 24, 25, 26, 27, 28, 29, 30, 31, 32, 13, 33, 34, 35, 36, 37, 38, 39, 40, 41, 42, 43, 44, 45, 46, 15, 47, 48, 49, 19, 50, 51, 52, 53, 54, 55, 56, 57, 58, 59, 60, 61, 62, 63, 64, 65, 66, 67, 68, 69, 70, 71, 72, 73, 74, 75, 76, 77, 78, 79, 80, 81, 82, 83, 84, 85, 86, 87, 88, 89, 90, 91, 92, 93, 94, 95, 96, 97, 98, 99, 100, 101, 102, 103, 104, 105, 106, 107, 108, 109, 135, 136, 137, 138, 139, 140, 141, 125, 126, 127, 128, 129, 130, 131, 132, 133, 134] (by decide +kernel) (by decide +kernel)
set_option maxRecDepth 20000 in
theorem gX5_reason_X4_shareOut : GoodIn wsX5_reason (wsV RX5 154 RX4 yX4_shareOut wsX4_shareOut) := goodIn_app (goodIn_of _ (by decide +kernel)) ggX5_reason_X4_shareOut
set_option maxRecDepth 20000 in
theorem ggX5_reason_X5_reasonInPlan : GoodIn wsX5_reason wsX5_reasonInPlan := goodIn_r _ [113, 2, 1, 114, 31, 32, 13, 33, 34, 35, 36, 37, 38, 39, 40, 41, 27, 42, 29, 115, 87, 88, 89, 57, 116, 117, 118, 19, 119, 21, 67, 120, 121, 122, 123, 124, 125, 126, 127, 128, 129, 130, 131, 132, 133, 134, 141, 135, 136, 137, 138, 139, 140] (by decide +kernel) (by decide +kernel)
set_option maxRecDepth 20000 in
theorem gX5_reason_X5_reasonInPlan : GoodIn wsX5_reason (wsV RX5 161 RX5 yX5_reasonInPlan wsX5_reasonInPlan) := goodIn_app (goodIn_of _ (by decide +kernel)) ggX5_reason_X5_reasonInPlan
theorem dX5_reason_0 : decode cX5_reason 0 = .ok (.aload_n 0, 1) := by decide +kernel
theorem dX5_reason_1 : decode cX5_reason 1 = .ok (.iload_n 1, 1) := by decide +kernel
theorem dX5_reason_2 : decode cX5_reason 2 = .ok (.invokevirtual 63, 3) := by decide +kernel
theorem dX5_reason_5 : decode cX5_reason 5 = .ok (.aload_n 0, 1) := by decide +kernel
theorem dX5_reason_6 : decode cX5_reason 6 = .ok (.getfield 22, 3) := by decide +kernel
theorem dX5_reason_9 : decode cX5_reason 9 = .ok (.aload_n 0, 1) := by decide +kernel
theorem dX5_reason_10 : decode cX5_reason 10 = .ok (.getfield 10, 3) := by decide +kernel
theorem dX5_reason_13 : decode cX5_reason 13 = .ok (.invokevirtual 154, 3) := by decide +kernel
theorem dX5_reason_16 : decode cX5_reason 16 = .ok (.pop, 1) := by decide +kernel
theorem dX5_reason_17 : decode cX5_reason 17 = .ok (.aload_n 0, 1) := by decide +kernel
theorem dX5_reason_18 : decode cX5_reason 18 = .ok (.iload_n 1, 1) := by decide +kernel
theorem dX5_reason_19 : decode cX5_reason 19 = .ok (.invokevirtual 161, 3) := by decide +kernel
theorem dX5_reason_22 : decode cX5_reason 22 = .ok (.ireturn, 1) := by decide +kernel
set_option maxRecDepth 20000 in
theorem ggX5_changesToCome_X4_shareOut : GoodIn wsX5_changesToCome wsX4_shareOut := goodIn_r _ [7, 8, 9, 10, 11, 12, 13, 14, 15, 16, 17, 18, 19, 20, 21, 22, 23, 24, 25, 26, 27, 28, 29, 30, 31, 32, 33, 34, 35, 36, 37, 38, 6, 39, 40, 41, 42, 43, 44, 45, 46, 47, 48, 49, 50, 51, 52, 53, 54, 55, 56, 57, 58, 59, 60, 61, 62, 63, 64, 65, 66, 67, 68, 69, 70, 71, 72, 73, 74, 75, 76, 77, 78, 79, 80, 81, 82, 83, 84, 85, 86, 87, 88, 89, 90, 91, 92, 93, 94, 95, 96, 97, 98, 104, 105, 106, 107, 108, 109, 110, 111, 112, 113, 114, 115, 116, 117, 118, 119, 120] (by decide +kernel) (by decide +kernel)
set_option maxRecDepth 20000 in
theorem gX5_changesToCome_X4_shareOut : GoodIn wsX5_changesToCome (wsV RX5 154 RX4 yX4_shareOut wsX4_shareOut) := goodIn_app (goodIn_of _ (by decide +kernel)) ggX5_changesToCome_X4_shareOut
theorem dX5_changesToCome_0 : decode cX5_changesToCome 0 = .ok (.aload_n 0, 1) := by decide +kernel
theorem dX5_changesToCome_1 : decode cX5_changesToCome 1 = .ok (.getfield 22, 3) := by decide +kernel
theorem dX5_changesToCome_4 : decode cX5_changesToCome 4 = .ok (.aload_n 0, 1) := by decide +kernel
theorem dX5_changesToCome_5 : decode cX5_changesToCome 5 = .ok (.getfield 10, 3) := by decide +kernel
theorem dX5_changesToCome_8 : decode cX5_changesToCome 8 = .ok (.invokevirtual 154, 3) := by decide +kernel
theorem dX5_changesToCome_11 : decode cX5_changesToCome 11 = .ok (.ireturn, 1) := by decide +kernel
set_option maxRecDepth 20000 in
theorem ggX5_changesIf_X5_checkMilkman : GoodIn wsX5_changesIf wsX5_checkMilkman := goodIn_ca (goodIn_r _ [4, 5, 6] (by decide +kernel) (by decide +kernel)) (goodIn_sub (fun _ h => List.mem_cons_of_mem _ (List.mem_append_right _ h)) (by decide +kernel))
set_option maxRecDepth 20000 in
theorem gX5_changesIf_X5_checkMilkman : GoodIn wsX5_changesIf (va_wsS RX5 79 yX5_checkMilkman wsX5_checkMilkman) := goodIn_app (goodIn_of _ (by decide +kernel)) ggX5_changesIf_X5_checkMilkman
set_option maxRecDepth 20000 in
theorem ggX5_changesIf_X5_changesIfSwitched : GoodIn wsX5_changesIf wsX5_changesIfSwitched := goodIn_r _ [10, 11, 12, 13, 14, 15, 16, 17, 18, 19, 20, 21, 22, 23, 24, 25, 26, 27, 28, 29, 30, 31, 32, 33, 34, 35, 36, 37, 38, 39, 40, 41, 42, 43, 44, 45, 46, 47, 48, 49, 50, 51, 52, 53, 54, 55, 56, 57, 58, 59, 60, 61, 62, 63, 64, 65, 66, 67, 68, 69, 70, 71, 72, 73, 74, 75, 76, 77, 78, 79, 80, 81, 82, 83, 84, 85, 86, 87, 88, 89, 90, 91, 92, 93, 94, 95, 96, 97, 98, 99, 100, 101, 102, 103, 104, 105, 106, 107, 108, 109, 110, 111, 112, 113, 114, 115, 116, 117, 118, 119, 120, 121, 122, 123, 124, 125, 126, 127, 128, 129, 130, 131, 132, 133, 134, 135, 136, 137, 138, 139, 140, 141, 142, 143, 144, 145, 146, 147, 148, 149, 150, 151, 152, 153, 154, 155, 156, 157] (by decide +kernel) (by decide +kernel)
set_option maxRecDepth 20000 in
theorem gX5_changesIf_X5_changesIfSwitched : GoodIn wsX5_changesIf (wsV RX5 164 RX5 yX5_changesIfSwitched wsX5_changesIfSwitched) := goodIn_app (goodIn_of _ (by decide +kernel)) ggX5_changesIf_X5_changesIfSwitched
theorem dX5_changesIf_0 : decode cX5_changesIf 0 = .ok (.iload_n 1, 1) := by decide +kernel
theorem dX5_changesIf_1 : decode cX5_changesIf 1 = .ok (.invokestatic 79, 3) := by decide +kernel
theorem dX5_changesIf_4 : decode cX5_changesIf 4 = .ok (.aload_n 0, 1) := by decide +kernel
theorem dX5_changesIf_5 : decode cX5_changesIf 5 = .ok (.iload_n 1, 1) := by decide +kernel
theorem dX5_changesIf_6 : decode cX5_changesIf 6 = .ok (.invokevirtual 164, 3) := by decide +kernel
theorem dX5_changesIf_9 : decode cX5_changesIf 9 = .ok (.ireturn, 1) := by decide +kernel
set_option maxRecDepth 20000 in
theorem ggX5_unevenness_X1_countDoorsteps : GoodIn wsX5_unevenness wsX1_countDoorsteps := goodIn_r _ [6, 7, 33, 34, 35, 36, 37, 38, 39, 40, 41, 42] (by decide +kernel) (by decide +kernel)
set_option maxRecDepth 20000 in
theorem gX5_unevenness_X1_countDoorsteps : GoodIn wsX5_unevenness (wsV RX5 98 RX1 yX1_countDoorsteps wsX1_countDoorsteps) := goodIn_app (goodIn_of _ (by decide +kernel)) ggX5_unevenness_X1_countDoorsteps
set_option maxRecDepth 20000 in
theorem ggX5_unevenness_X1_roundDifference : GoodIn wsX5_unevenness wsX1_roundDifference := goodIn_r _ [11, 12, 13, 14, 5, 15, 16, 17, 18, 19, 20, 21, 22, 23, 24, 25, 26, 7, 27, 33, 34, 35, 36, 37, 38, 39, 40, 41, 42, 43] (by decide +kernel) (by decide +kernel)
set_option maxRecDepth 20000 in
theorem gX5_unevenness_X1_roundDifference : GoodIn wsX5_unevenness (wsV RX5 167 RX1 yX1_roundDifference wsX1_roundDifference) := goodIn_app (goodIn_of _ (by decide +kernel)) ggX5_unevenness_X1_roundDifference
theorem dX5_unevenness_0 : decode cX5_unevenness 0 = .ok (.aload_n 0, 1) := by decide +kernel
theorem dX5_unevenness_1 : decode cX5_unevenness 1 = .ok (.getfield 10, 3) := by decide +kernel
theorem dX5_unevenness_4 : decode cX5_unevenness 4 = .ok (.invokevirtual 98, 3) := by decide +kernel
theorem dX5_unevenness_7 : decode cX5_unevenness 7 = .ok (.istore_n 1, 1) := by decide +kernel
theorem dX5_unevenness_8 : decode cX5_unevenness 8 = .ok (.iload_n 1, 1) := by decide +kernel
theorem dX5_unevenness_9 : decode cX5_unevenness 9 = .ok (.ifCond .gt 5, 3) := by decide +kernel
theorem dX5_unevenness_12 : decode cX5_unevenness 12 = .ok (.dconst 0, 1) := by decide +kernel
theorem dX5_unevenness_13 : decode cX5_unevenness 13 = .ok (.dreturn, 1) := by decide +kernel
theorem dX5_unevenness_14 : decode cX5_unevenness 14 = .ok (.aload_n 0, 1) := by decide +kernel
theorem dX5_unevenness_15 : decode cX5_unevenness 15 = .ok (.getfield 10, 3) := by decide +kernel
theorem dX5_unevenness_18 : decode cX5_unevenness 18 = .ok (.invokevirtual 167, 3) := by decide +kernel
theorem dX5_unevenness_21 : decode cX5_unevenness 21 = .ok (.i2d, 1) := by decide +kernel
theorem dX5_unevenness_22 : decode cX5_unevenness 22 = .ok (.iload_n 1, 1) := by decide +kernel
theorem dX5_unevenness_23 : decode cX5_unevenness 23 = .ok (.i2d, 1) := by decide +kernel
theorem dX5_unevenness_24 : decode cX5_unevenness 24 = .ok (.ddiv, 1) := by decide +kernel
theorem dX5_unevenness_25 : decode cX5_unevenness 25 = .ok (.dreturn, 1) := by decide +kernel
set_option maxRecDepth 20000 in
theorem ggX5_undo_X2_isEmpty : GoodIn wsX5_undo wsX2_isEmpty := goodIn_r _ [9, 10, 50, 51] (by decide +kernel) (by decide +kernel)
set_option maxRecDepth 20000 in
theorem gX5_undo_X2_isEmpty : GoodIn wsX5_undo (wsV RX5 204 RX2 yX2_isEmpty wsX2_isEmpty) := goodIn_app (goodIn_of _ (by decide +kernel)) ggX5_undo_X2_isEmpty
set_option maxRecDepth 20000 in
theorem ggX5_undo_X2_restore : GoodIn wsX5_undo wsX2_restore := goodIn_r _ [14, 10, 15, 16, 17, 8, 18, 19, 20, 21, 22, 23, 24, 25, 26, 27, 28, 29, 30, 31, 32, 33, 34, 35, 36, 37, 38, 39, 40, 41, 42, 43, 44, 50, 51, 52, 53, 54, 55, 56, 57, 58, 59, 60, 61, 62] (by decide +kernel) (by decide +kernel)
set_option maxRecDepth 20000 in
theorem gX5_undo_X2_restore : GoodIn wsX5_undo (wsV RX5 209 RX2 yX2_restore wsX2_restore) := goodIn_app (goodIn_of _ (by decide +kernel)) ggX5_undo_X2_restore
theorem dX5_undo_0 : decode cX5_undo 0 = .ok (.aload_n 0, 1) := by decide +kernel
theorem dX5_undo_1 : decode cX5_undo 1 = .ok (.getfield 36, 3) := by decide +kernel
theorem dX5_undo_4 : decode cX5_undo 4 = .ok (.invokevirtual 204, 3) := by decide +kernel
theorem dX5_undo_7 : decode cX5_undo 7 = .ok (.ifCond .eq 13, 3) := by decide +kernel
theorem dX5_undo_10 : decode cX5_undo 10 = .ok (.new 48, 3) := by decide +kernel
theorem dX5_undo_13 : decode cX5_undo 13 = .ok (.dup, 1) := by decide +kernel
theorem dX5_undo_14 : decode cX5_undo 14 = .ok (.ldc 207, 2) := by decide +kernel
theorem dX5_undo_16 : decode cX5_undo 16 = .ok (.invokespecial 52, 3) := by decide +kernel
theorem dX5_undo_19 : decode cX5_undo 19 = .ok (.athrow, 1) := by decide +kernel
theorem dX5_undo_20 : decode cX5_undo 20 = .ok (.aload_n 0, 1) := by decide +kernel
theorem dX5_undo_21 : decode cX5_undo 21 = .ok (.getfield 36, 3) := by decide +kernel
theorem dX5_undo_24 : decode cX5_undo 24 = .ok (.aload_n 0, 1) := by decide +kernel
theorem dX5_undo_25 : decode cX5_undo 25 = .ok (.getfield 10, 3) := by decide +kernel
theorem dX5_undo_28 : decode cX5_undo 28 = .ok (.invokevirtual 209, 3) := by decide +kernel
theorem dX5_undo_31 : decode cX5_undo 31 = .ok (.ireturn, 1) := by decide +kernel
set_option maxRecDepth 20000 in
theorem ggX5_checkDoorstep_X1_hasDoorstep : GoodIn wsX5_checkDoorstep wsX1_hasDoorstep := goodIn_r _ [8, 9, 15, 16, 17, 18, 19, 20, 21, 22, 23, 24] (by decide +kernel) (by decide +kernel)
set_option maxRecDepth 20000 in
theorem gX5_checkDoorstep_X1_hasDoorstep : GoodIn wsX5_checkDoorstep (wsV RX5 228 RX1 yX1_hasDoorstep wsX1_hasDoorstep) := goodIn_app (goodIn_of _ (by decide +kernel)) ggX5_checkDoorstep_X1_hasDoorstep
theorem dX5_checkDoorstep_0 : decode cX5_checkDoorstep 0 = .ok (.aload_n 0, 1) := by decide +kernel
theorem dX5_checkDoorstep_1 : decode cX5_checkDoorstep 1 = .ok (.getfield 10, 3) := by decide +kernel
theorem dX5_checkDoorstep_4 : decode cX5_checkDoorstep 4 = .ok (.iload_n 1, 1) := by decide +kernel
theorem dX5_checkDoorstep_5 : decode cX5_checkDoorstep 5 = .ok (.invokevirtual 228, 3) := by decide +kernel
theorem dX5_checkDoorstep_8 : decode cX5_checkDoorstep 8 = .ok (.ifCond .ne 13, 3) := by decide +kernel
theorem dX5_checkDoorstep_11 : decode cX5_checkDoorstep 11 = .ok (.new 231, 3) := by decide +kernel
theorem dX5_checkDoorstep_14 : decode cX5_checkDoorstep 14 = .ok (.dup, 1) := by decide +kernel
theorem dX5_checkDoorstep_15 : decode cX5_checkDoorstep 15 = .ok (.ldc 233, 2) := by decide +kernel
theorem dX5_checkDoorstep_17 : decode cX5_checkDoorstep 17 = .ok (.invokespecial 235, 3) := by decide +kernel
theorem dX5_checkDoorstep_20 : decode cX5_checkDoorstep 20 = .ok (.athrow, 1) := by decide +kernel
theorem dX5_checkDoorstep_21 : decode cX5_checkDoorstep 21 = .ok (.return_, 1) := by decide +kernel
theorem dX5_checkMilkman_0 : decode cX5_checkMilkman 0 = .ok (.iload_n 0, 1) := by decide +kernel
theorem dX5_checkMilkman_1 : decode cX5_checkMilkman 1 = .ok (.ifCond .lt 9, 3) := by decide +kernel
theorem dX5_checkMilkman_4 : decode cX5_checkMilkman 4 = .ok (.iload_n 0, 1) := by decide +kernel
theorem dX5_checkMilkman_5 : decode cX5_checkMilkman 5 = .ok (.bipush 6, 2) := by decide +kernel
theorem dX5_checkMilkman_7 : decode cX5_checkMilkman 7 = .ok (.if_icmp .lt 13, 3) := by decide +kernel
theorem dX5_checkMilkman_10 : decode cX5_checkMilkman 10 = .ok (.new 231, 3) := by decide +kernel
theorem dX5_checkMilkman_13 : decode cX5_checkMilkman 13 = .ok (.dup, 1) := by decide +kernel
theorem dX5_checkMilkman_14 : decode cX5_checkMilkman 14 = .ok (.ldc 236, 2) := by decide +kernel
theorem dX5_checkMilkman_16 : decode cX5_checkMilkman 16 = .ok (.invokespecial 235, 3) := by decide +kernel
theorem dX5_checkMilkman_19 : decode cX5_checkMilkman 19 = .ok (.athrow, 1) := by decide +kernel
theorem dX5_checkMilkman_20 : decode cX5_checkMilkman 20 = .ok (.return_, 1) := by decide +kernel
theorem dX5_checkPints_0 : decode cX5_checkPints 0 = .ok (.iload_n 0, 1) := by decide +kernel
theorem dX5_checkPints_1 : decode cX5_checkPints 1 = .ok (.iconst 1, 1) := by decide +kernel
theorem dX5_checkPints_2 : decode cX5_checkPints 2 = .ok (.if_icmp .lt 9, 3) := by decide +kernel
theorem dX5_checkPints_5 : decode cX5_checkPints 5 = .ok (.iload_n 0, 1) := by decide +kernel
theorem dX5_checkPints_6 : decode cX5_checkPints 6 = .ok (.bipush 9, 2) := by decide +kernel
theorem dX5_checkPints_8 : decode cX5_checkPints 8 = .ok (.if_icmp .le 13, 3) := by decide +kernel
theorem dX5_checkPints_11 : decode cX5_checkPints 11 = .ok (.new 170, 3) := by decide +kernel
theorem dX5_checkPints_14 : decode cX5_checkPints 14 = .ok (.dup, 1) := by decide +kernel
theorem dX5_checkPints_15 : decode cX5_checkPints 15 = .ok (.ldc 238, 2) := by decide +kernel
theorem dX5_checkPints_17 : decode cX5_checkPints 17 = .ok (.invokespecial 174, 3) := by decide +kernel
theorem dX5_checkPints_20 : decode cX5_checkPints 20 = .ok (.athrow, 1) := by decide +kernel
theorem dX5_checkPints_21 : decode cX5_checkPints 21 = .ok (.return_, 1) := by decide +kernel
set_option maxRecDepth 20000 in
theorem ggX5_makePlan_X4_shareOut : GoodIn wsX5_makePlan wsX4_shareOut := goodIn_r _ [7, 8, 9, 10, 11, 12, 13, 14, 15, 16, 17, 18, 19, 20, 21, 22, 23, 24, 25, 26, 27, 28, 29, 30, 31, 32, 33, 34, 35, 36, 37, 38, 6, 39, 40, 41, 42, 43, 44, 45, 46, 47, 48, 49, 50, 51, 52, 53, 54, 55, 56, 57, 58, 59, 60, 61, 62, 63, 64, 65, 66, 67, 68, 69, 70, 71, 72, 73, 74, 75, 76, 77, 78, 79, 80, 81, 82, 83, 84, 85, 86, 87, 88, 89, 90, 91, 92, 93, 94, 95, 96, 97, 98, 121, 122, 123, 124, 125, 126, 127, 128, 129, 130, 131, 132, 133, 134, 135, 136, 137] (by decide +kernel) (by decide +kernel)
set_option maxRecDepth 20000 in
theorem gX5_makePlan_X4_shareOut : GoodIn wsX5_makePlan (wsV RX5 154 RX4 yX4_shareOut wsX4_shareOut) := goodIn_app (goodIn_of _ (by decide +kernel)) ggX5_makePlan_X4_shareOut
set_option maxRecDepth 20000 in
theorem ggX5_makePlan_X1_beginHandover : GoodIn wsX5_makePlan wsX1_beginHandover := goodIn_r _ [102, 35, 103, 104, 46, 105, 106, 107, 108, 6, 109, 8, 56, 28, 29, 14, 30, 16, 110, 48, 49, 50, 111, 112, 113, 114, 115, 128, 129, 130, 131, 132, 133, 134, 135, 136, 137, 121, 122, 123, 124, 125, 126, 127] (by decide +kernel) (by decide +kernel)
set_option maxRecDepth 20000 in
theorem gX5_makePlan_X1_beginHandover : GoodIn wsX5_makePlan (wsV RX5 240 RX1 yX1_beginHandover wsX1_beginHandover) := goodIn_app (goodIn_of _ (by decide +kernel)) ggX5_makePlan_X1_beginHandover
theorem dX5_makePlan_0 : decode cX5_makePlan 0 = .ok (.aload_n 0, 1) := by decide +kernel
theorem dX5_makePlan_1 : decode cX5_makePlan 1 = .ok (.getfield 22, 3) := by decide +kernel
theorem dX5_makePlan_4 : decode cX5_makePlan 4 = .ok (.aload_n 0, 1) := by decide +kernel
theorem dX5_makePlan_5 : decode cX5_makePlan 5 = .ok (.getfield 10, 3) := by decide +kernel
theorem dX5_makePlan_8 : decode cX5_makePlan 8 = .ok (.invokevirtual 154, 3) := by decide +kernel
theorem dX5_makePlan_11 : decode cX5_makePlan 11 = .ok (.istore_n 1, 1) := by decide +kernel
theorem dX5_makePlan_12 : decode cX5_makePlan 12 = .ok (.iload_n 1, 1) := by decide +kernel
theorem dX5_makePlan_13 : decode cX5_makePlan 13 = .ok (.ifCond .le 14, 3) := by decide +kernel
theorem dX5_makePlan_16 : decode cX5_makePlan 16 = .ok (.aload_n 0, 1) := by decide +kernel
theorem dX5_makePlan_17 : decode cX5_makePlan 17 = .ok (.getfield 10, 3) := by decide +kernel
theorem dX5_makePlan_20 : decode cX5_makePlan 20 = .ok (.aload_n 0, 1) := by decide +kernel
theorem dX5_makePlan_21 : decode cX5_makePlan 21 = .ok (.getfield 22, 3) := by decide +kernel
theorem dX5_makePlan_24 : decode cX5_makePlan 24 = .ok (.invokevirtual 240, 3) := by decide +kernel
theorem dX5_makePlan_27 : decode cX5_makePlan 27 = .ok (.iload_n 1, 1) := by decide +kernel
theorem dX5_makePlan_28 : decode cX5_makePlan 28 = .ok (.ireturn, 1) := by decide +kernel
set_option maxRecDepth 20000 in
theorem ggX5_reasonInPlan_X1_countAtWork : GoodIn wsX5_reasonInPlan wsX1_countAtWork := goodIn_r _ [7, 8, 9, 10, 6, 11, 12, 13, 14, 15, 16, 17, 18, 36, 37, 38, 39, 40, 41, 42, 43, 44, 45, 46] (by decide +kernel) (by decide +kernel)
set_option maxRecDepth 20000 in
theorem gX5_reasonInPlan_X1_countAtWork : GoodIn wsX5_reasonInPlan (wsV RX5 244 RX1 yX1_countAtWork wsX1_countAtWork) := goodIn_app (goodIn_of _ (by decide +kernel)) ggX5_reasonInPlan_X1_countAtWork
set_option maxRecDepth 20000 in
theorem ggX5_reasonInPlan_X1_ownerOf : GoodIn wsX5_reasonInPlan wsX1_ownerOf := goodIn_r _ [22, 23, 13, 14, 15, 16, 17, 18, 36, 37, 38, 39, 40, 41, 42, 43, 44, 45, 46] (by decide +kernel) (by decide +kernel)
set_option maxRecDepth 20000 in
theorem gX5_reasonInPlan_X1_ownerOf : GoodIn wsX5_reasonInPlan (wsV RX5 105 RX1 yX1_ownerOf wsX1_ownerOf) := goodIn_app (goodIn_of _ (by decide +kernel)) ggX5_reasonInPlan_X1_ownerOf
set_option maxRecDepth 20000 in
theorem ggX5_reasonInPlan_X4_ownerInPlan : GoodIn wsX5_reasonInPlan wsX4_ownerInPlan := goodIn_r _ [28, 29, 30, 14, 15, 16, 17, 18, 47, 48, 49, 50, 51, 52, 46] (by decide +kernel) (by decide +kernel)
set_option maxRecDepth 20000 in
theorem gX5_reasonInPlan_X4_ownerInPlan : GoodIn wsX5_reasonInPlan (wsV RX5 158 RX4 yX4_ownerInPlan wsX4_ownerInPlan) := goodIn_app (goodIn_of _ (by decide +kernel)) ggX5_reasonInPlan_X4_ownerInPlan
theorem dX5_reasonInPlan_0 : decode cX5_reasonInPlan 0 = .ok (.aload_n 0, 1) := by decide +kernel
theorem dX5_reasonInPlan_1 : decode cX5_reasonInPlan 1 = .ok (.getfield 10, 3) := by decide +kernel
theorem dX5_reasonInPlan_4 : decode cX5_reasonInPlan 4 = .ok (.invokevirtual 244, 3) := by decide +kernel
theorem dX5_reasonInPlan_7 : decode cX5_reasonInPlan 7 = .ok (.ifCond .ne 5, 3) := by decide +kernel
theorem dX5_reasonInPlan_10 : decode cX5_reasonInPlan 10 = .ok (.iconst 1, 1) := by decide +kernel
theorem dX5_reasonInPlan_11 : decode cX5_reasonInPlan 11 = .ok (.ireturn, 1) := by decide +kernel
theorem dX5_reasonInPlan_12 : decode cX5_reasonInPlan 12 = .ok (.aload_n 0, 1) := by decide +kernel
theorem dX5_reasonInPlan_13 : decode cX5_reasonInPlan 13 = .ok (.getfield 10, 3) := by decide +kernel
theorem dX5_reasonInPlan_16 : decode cX5_reasonInPlan 16 = .ok (.iload_n 1, 1) := by decide +kernel
theorem dX5_reasonInPlan_17 : decode cX5_reasonInPlan 17 = .ok (.invokevirtual 105, 3) := by decide +kernel
theorem dX5_reasonInPlan_20 : decode cX5_reasonInPlan 20 = .ok (.istore_n 2, 1) := by decide +kernel
theorem dX5_reasonInPlan_21 : decode cX5_reasonInPlan 21 = .ok (.iload_n 2, 1) := by decide +kernel
theorem dX5_reasonInPlan_22 : decode cX5_reasonInPlan 22 = .ok (.aload_n 0, 1) := by decide +kernel
theorem dX5_reasonInPlan_23 : decode cX5_reasonInPlan 23 = .ok (.getfield 22, 3) := by decide +kernel
theorem dX5_reasonInPlan_26 : decode cX5_reasonInPlan 26 = .ok (.iload_n 1, 1) := by decide +kernel
theorem dX5_reasonInPlan_27 : decode cX5_reasonInPlan 27 = .ok (.invokevirtual 158, 3) := by decide +kernel
theorem dX5_reasonInPlan_30 : decode cX5_reasonInPlan 30 = .ok (.if_icmp .ne 5, 3) := by decide +kernel
theorem dX5_reasonInPlan_33 : decode cX5_reasonInPlan 33 = .ok (.iconst 0, 1) := by decide +kernel
theorem dX5_reasonInPlan_34 : decode cX5_reasonInPlan 34 = .ok (.ireturn, 1) := by decide +kernel
theorem dX5_reasonInPlan_35 : decode cX5_reasonInPlan 35 = .ok (.iload_n 2, 1) := by decide +kernel
theorem dX5_reasonInPlan_36 : decode cX5_reasonInPlan 36 = .ok (.iconst (-1), 1) := by decide +kernel
theorem dX5_reasonInPlan_37 : decode cX5_reasonInPlan 37 = .ok (.if_icmp .ne 7, 3) := by decide +kernel
theorem dX5_reasonInPlan_40 : decode cX5_reasonInPlan 40 = .ok (.iconst 2, 1) := by decide +kernel
theorem dX5_reasonInPlan_41 : decode cX5_reasonInPlan 41 = .ok (.goto 4, 3) := by decide +kernel
theorem dX5_reasonInPlan_44 : decode cX5_reasonInPlan 44 = .ok (.iconst 3, 1) := by decide +kernel
theorem dX5_reasonInPlan_45 : decode cX5_reasonInPlan 45 = .ok (.ireturn, 1) := by decide +kernel
set_option maxRecDepth 20000 in
theorem ggX5_changesIfSwitched_X1_copyFrom : GoodIn wsX5_changesIfSwitched wsX1_copyFrom := goodIn_r _ [8, 9, 10, 11, 12, 13, 14, 15, 16, 17, 18, 19, 20, 21, 22, 23, 24, 25, 26, 27, 28, 131, 132, 133, 134, 135, 136, 137, 138, 139, 140, 141] (by decide +kernel) (by decide +kernel)
set_option maxRecDepth 20000 in
theorem gX5_changesIfSwitched_X1_copyFrom : GoodIn wsX5_changesIfSwitched (wsV RX5 247 RX1 yX1_copyFrom wsX1_copyFrom) := goodIn_app (goodIn_of _ (by decide +kernel)) ggX5_changesIfSwitched_X1_copyFrom
set_option maxRecDepth 20000 in
theorem ggX5_changesIfSwitched_X1_works : GoodIn wsX5_changesIfSwitched wsX1_works := goodIn_r _ [32, 11, 33, 26, 27, 22, 28, 24, 131, 132, 133, 134, 135, 136, 137, 138, 139, 140, 141] (by decide +kernel) (by decide +kernel)
set_option maxRecDepth 20000 in
theorem gX5_changesIfSwitched_X1_works : GoodIn wsX5_changesIfSwitched (wsV RX5 108 RX1 yX1_works wsX1_works) := goodIn_app (goodIn_of _ (by decide +kernel)) ggX5_changesIfSwitched_X1_works
set_option maxRecDepth 20000 in
theorem ggX5_changesIfSwitched_X1_dismiss : GoodIn wsX5_changesIfSwitched wsX1_dismiss := goodIn_r _ [37, 14, 10, 11, 33, 26, 27, 22, 28, 24, 38, 39, 40, 41, 131, 132, 133, 134, 135, 136, 137, 138, 139, 140, 141] (by decide +kernel) (by decide +kernel)
set_option maxRecDepth 20000 in
theorem gX5_changesIfSwitched_X1_dismiss : GoodIn wsX5_changesIfSwitched (wsV RX5 95 RX1 yX1_dismiss wsX1_dismiss) := goodIn_app (goodIn_of _ (by decide +kernel)) ggX5_changesIfSwitched_X1_dismiss
set_option maxRecDepth 20000 in
theorem ggX5_changesIfSwitched_X1_welcome : GoodIn wsX5_changesIfSwitched wsX1_welcome := goodIn_r _ [45, 11, 38, 39, 40, 22, 41, 24, 46, 47, 48, 7, 49, 50, 30, 31, 32, 33, 26, 27, 28, 131, 132, 133, 134, 135, 136, 137, 138, 139, 140, 141] (by decide +kernel) (by decide +kernel)
set_option maxRecDepth 20000 in
theorem gX5_changesIfSwitched_X1_welcome : GoodIn wsX5_changesIfSwitched (wsV RX5 87 RX1 yX1_welcome wsX1_welcome) := goodIn_app (goodIn_of _ (by decide +kernel)) ggX5_changesIfSwitched_X1_welcome
set_option maxRecDepth 20000 in
theorem ggX5_changesIfSwitched_X4_shareOut : GoodIn wsX5_changesIfSwitched wsX4_shareOut := goodIn_r _ [55, 56, 57, 58, 59, 60, 61, 22, 62, 24, 63, 47, 48, 7, 49, 50, 30, 31, 32, 11, 33, 26, 27, 28, 64, 65, 66, 67, 14, 68, 69, 70, 54, 71, 72, 73, 74, 75, 76, 77, 10, 78, 39, 40, 41, 79, 80, 81, 82, 83, 84, 85, 86, 87, 88, 89, 90, 91, 92, 93, 94, 95, 96, 97, 9, 98, 99, 100, 101, 102, 103, 104, 105, 106, 107, 108, 109, 110, 111, 112, 113, 114, 115, 116, 117, 118, 119, 120, 121, 122, 123, 124, 125, 142, 143, 144, 145, 146, 147, 141, 131, 132, 133, 134, 135, 136, 137, 138, 139, 140] (by decide +kernel) (by decide +kernel)
set_option maxRecDepth 20000 in
theorem gX5_changesIfSwitched_X4_shareOut : GoodIn wsX5_changesIfSwitched (wsV RX5 154 RX4 yX4_shareOut wsX4_shareOut) := goodIn_app (goodIn_of _ (by decide +kernel)) ggX5_changesIfSwitched_X4_shareOut
theorem dX5_changesIfSwitched_0 : decode cX5_changesIfSwitched 0 = .ok (.aload_n 0, 1) := by decide +kernel
theorem dX5_changesIfSwitched_1 : decode cX5_changesIfSwitched 1 = .ok (.getfield 16, 3) := by decide +kernel
theorem dX5_changesIfSwitched_4 : decode cX5_changesIfSwitched 4 = .ok (.aload_n 0, 1) := by decide +kernel
theorem dX5_changesIfSwitched_5 : decode cX5_changesIfSwitched 5 = .ok (.getfield 10, 3) := by decide +kernel
theorem dX5_changesIfSwitched_8 : decode cX5_changesIfSwitched 8 = .ok (.invokevirtual 247, 3) := by decide +kernel
theorem dX5_changesIfSwitched_11 : decode cX5_changesIfSwitched 11 = .ok (.aload_n 0, 1) := by decide +kernel
theorem dX5_changesIfSwitched_12 : decode cX5_changesIfSwitched 12 = .ok (.getfield 16, 3) := by decide +kernel
theorem dX5_changesIfSwitched_15 : decode cX5_changesIfSwitched 15 = .ok (.iload_n 1, 1) := by decide +kernel
theorem dX5_changesIfSwitched_16 : decode cX5_changesIfSwitched 16 = .ok (.invokevirtual 108, 3) := by decide +kernel
theorem dX5_changesIfSwitched_19 : decode cX5_changesIfSwitched 19 = .ok (.ifCond .eq 15, 3) := by decide +kernel
theorem dX5_changesIfSwitched_22 : decode cX5_changesIfSwitched 22 = .ok (.aload_n 0, 1) := by decide +kernel
theorem dX5_changesIfSwitched_23 : decode cX5_changesIfSwitched 23 = .ok (.getfield 16, 3) := by decide +kernel
theorem dX5_changesIfSwitched_26 : decode cX5_changesIfSwitched 26 = .ok (.iload_n 1, 1) := by decide +kernel
theorem dX5_changesIfSwitched_27 : decode cX5_changesIfSwitched 27 = .ok (.invokevirtual 95, 3) := by decide +kernel
theorem dX5_changesIfSwitched_30 : decode cX5_changesIfSwitched 30 = .ok (.pop, 1) := by decide +kernel
theorem dX5_changesIfSwitched_31 : decode cX5_changesIfSwitched 31 = .ok (.goto 12, 3) := by decide +kernel
theorem dX5_changesIfSwitched_34 : decode cX5_changesIfSwitched 34 = .ok (.aload_n 0, 1) := by decide +kernel
theorem dX5_changesIfSwitched_35 : decode cX5_changesIfSwitched 35 = .ok (.getfield 16, 3) := by decide +kernel
theorem dX5_changesIfSwitched_38 : decode cX5_changesIfSwitched 38 = .ok (.iload_n 1, 1) := by decide +kernel
theorem dX5_changesIfSwitched_39 : decode cX5_changesIfSwitched 39 = .ok (.invokevirtual 87, 3) := by decide +kernel
theorem dX5_changesIfSwitched_42 : decode cX5_changesIfSwitched 42 = .ok (.pop, 1) := by decide +kernel
theorem dX5_changesIfSwitched_43 : decode cX5_changesIfSwitched 43 = .ok (.aload_n 0, 1) := by decide +kernel
theorem dX5_changesIfSwitched_44 : decode cX5_changesIfSwitched 44 = .ok (.getfield 22, 3) := by decide +kernel
theorem dX5_changesIfSwitched_47 : decode cX5_changesIfSwitched 47 = .ok (.aload_n 0, 1) := by decide +kernel
theorem dX5_changesIfSwitched_48 : decode cX5_changesIfSwitched 48 = .ok (.getfield 16, 3) := by decide +kernel
theorem dX5_changesIfSwitched_51 : decode cX5_changesIfSwitched 51 = .ok (.invokevirtual 154, 3) := by decide +kernel
theorem dX5_changesIfSwitched_54 : decode cX5_changesIfSwitched 54 = .ok (.ireturn, 1) := by decide +kernel

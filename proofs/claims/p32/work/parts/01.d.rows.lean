set_option maxRecDepth 20000 in
theorem ggX3_init_X1_init : GoodIn wsX3_init wsX1_init := goodIn_r _ [17, 18, 2, 3, 19, 20, 21, 22, 23, 24, 25, 26, 27, 28, 29, 30, 31, 46, 47, 48, 49, 50, 51, 52, 53, 54, 55, 56, 57] (by decide +kernel) (by decide +kernel)
set_option maxRecDepth 20000 in
theorem gX3_init_X1_init_n11 : GoodIn wsX3_init (wsX1_init) := ggX3_init_X1_init
set_option maxRecDepth 20000 in
theorem ggX3_init_X2_init : GoodIn wsX3_init wsX2_init := goodIn_r _ [34, 35, 2, 3, 36, 37, 38, 39, 5, 6, 16, 17, 18, 19, 20, 21, 22, 23, 24, 25, 26, 27, 28, 29, 30, 31, 61, 62, 63, 46, 47, 48, 49, 50, 51, 52, 53, 54, 55, 56, 57] (by decide +kernel) (by decide +kernel)
set_option maxRecDepth 20000 in
theorem gX3_init_X2_init : GoodIn wsX3_init (wsX2_init) := ggX3_init_X2_init
set_option maxRecDepth 20000 in
theorem ggX3_init_X0_init : GoodIn wsX3_init wsX0_init := goodIn_r _ [41, 42, 2, 3, 43, 44, 45, 64, 65] (by decide +kernel) (by decide +kernel)
set_option maxRecDepth 20000 in
theorem gX3_init_X0_init_n25 : GoodIn wsX3_init (wsX0_init) := ggX3_init_X0_init
theorem dX3_init_0 : decode cX3_init 0 = .ok (.aload_n 0, 1) := by decide +kernel
theorem dX3_init_1 : decode cX3_init 1 = .ok (.invokespecial 3, 3) := by decide +kernel
theorem dX3_init_4 : decode cX3_init 4 = .ok (.aload_n 0, 1) := by decide +kernel
theorem dX3_init_5 : decode cX3_init 5 = .ok (.new 9, 3) := by decide +kernel
theorem dX3_init_8 : decode cX3_init 8 = .ok (.dup, 1) := by decide +kernel
theorem dX3_init_9 : decode cX3_init 9 = .ok (.invokespecial 11, 3) := by decide +kernel
theorem dX3_init_12 : decode cX3_init 12 = .ok (.putfield 12, 3) := by decide +kernel
theorem dX3_init_15 : decode cX3_init 15 = .ok (.aload_n 0, 1) := by decide +kernel
theorem dX3_init_16 : decode cX3_init 16 = .ok (.new 16, 3) := by decide +kernel
theorem dX3_init_19 : decode cX3_init 19 = .ok (.dup, 1) := by decide +kernel
theorem dX3_init_20 : decode cX3_init 20 = .ok (.invokespecial 18, 3) := by decide +kernel
theorem dX3_init_23 : decode cX3_init 23 = .ok (.putfield 19, 3) := by decide +kernel
theorem dX3_init_26 : decode cX3_init 26 = .ok (.aload_n 0, 1) := by decide +kernel
theorem dX3_init_27 : decode cX3_init 27 = .ok (.new 23, 3) := by decide +kernel
theorem dX3_init_30 : decode cX3_init 30 = .ok (.dup, 1) := by decide +kernel
theorem dX3_init_31 : decode cX3_init 31 = .ok (.invokespecial 25, 3) := by decide +kernel
theorem dX3_init_34 : decode cX3_init 34 = .ok (.putfield 26, 3) := by decide +kernel
theorem dX3_init_37 : decode cX3_init 37 = .ok (.return_, 1) := by decide +kernel
set_option maxRecDepth 20000 in
theorem ggX3_come_X3_checkRow : GoodIn wsX3_come wsX3_checkRow := goodIn_ca (goodIn_r _ [9, 10, 11, 12, 13, 8, 14] (by decide +kernel) (by decide +kernel)) (goodIn_sub (fun _ h => List.mem_cons_of_mem _ (List.mem_append_right _ h)) (by decide +kernel))
set_option maxRecDepth 20000 in
theorem gX3_come_X3_checkRow : GoodIn wsX3_come (va_wsS RX3 30 yX3_checkRow wsX3_checkRow) := goodIn_app (goodIn_of _ (by decide +kernel)) ggX3_come_X3_checkRow
set_option maxRecDepth 20000 in
theorem ggX3_come_X3_checkConcert : GoodIn wsX3_come wsX3_checkConcert := goodIn_ca (goodIn_r _ [17, 10, 11, 18, 19, 8, 20] (by decide +kernel) (by decide +kernel)) (goodIn_sub (fun _ h => List.mem_cons_of_mem _ (List.mem_append_right _ h)) (by decide +kernel))
set_option maxRecDepth 20000 in
theorem gX3_come_X3_checkConcert : GoodIn wsX3_come (va_wsS RX3 34 yX3_checkConcert wsX3_checkConcert) := goodIn_app (goodIn_of _ (by decide +kernel)) ggX3_come_X3_checkConcert
set_option maxRecDepth 20000 in
theorem ggX3_come_X3_placeOf : GoodIn wsX3_come wsX3_placeOf := goodIn_r _ [23] (by decide +kernel) (by decide +kernel)
set_option maxRecDepth 20000 in
theorem gX3_come_X3_placeOf : GoodIn wsX3_come (va_wsS RX3 37 yX3_placeOf wsX3_placeOf) := goodIn_app (goodIn_of _ (by decide +kernel)) ggX3_come_X3_placeOf
set_option maxRecDepth 20000 in
theorem ggX3_come_X1_hasRoom : GoodIn wsX3_come wsX1_hasRoom := goodIn_r _ [28, 29, 68, 69, 70, 71, 72, 73, 74, 75, 76, 77, 78, 79] (by decide +kernel) (by decide +kernel)
set_option maxRecDepth 20000 in
theorem gX3_come_X1_hasRoom : GoodIn wsX3_come (wsV RX3 41 RX1 yX1_hasRoom wsX1_hasRoom) := goodIn_app (goodIn_of _ (by decide +kernel)) ggX3_come_X1_hasRoom
set_option maxRecDepth 20000 in
theorem ggX3_come_X2_keep : GoodIn wsX3_come wsX2_keep := goodIn_r _ [34, 35, 36, 37, 38, 39, 40, 27, 41, 29, 42, 43, 44, 45, 46, 47, 48, 49, 50, 51, 52, 53, 54, 55, 56, 80, 81, 82, 68, 69, 70, 71, 72, 73, 74, 75, 76, 77, 78, 79] (by decide +kernel) (by decide +kernel)
set_option maxRecDepth 20000 in
theorem gX3_come_X2_keep : GoodIn wsX3_come (wsV RX3 52 RX2 yX2_keep wsX2_keep) := goodIn_app (goodIn_of _ (by decide +kernel)) ggX3_come_X2_keep
set_option maxRecDepth 20000 in
theorem ggX3_come_X1_seat : GoodIn wsX3_come wsX1_seat := goodIn_r _ [60, 29, 61, 62, 63, 27, 64, 46, 52, 47, 68, 69, 70, 71, 72, 73, 74, 75, 76, 77, 78, 79] (by decide +kernel) (by decide +kernel)
set_option maxRecDepth 20000 in
theorem gX3_come_X1_seat : GoodIn wsX3_come (wsV RX3 56 RX1 yX1_seat wsX1_seat) := goodIn_app (goodIn_of _ (by decide +kernel)) ggX3_come_X1_seat
theorem dX3_come_0 : decode cX3_come 0 = .ok (.iload_n 1, 1) := by decide +kernel
theorem dX3_come_1 : decode cX3_come 1 = .ok (.invokestatic 30, 3) := by decide +kernel
theorem dX3_come_4 : decode cX3_come 4 = .ok (.iload_n 2, 1) := by decide +kernel
theorem dX3_come_5 : decode cX3_come 5 = .ok (.invokestatic 34, 3) := by decide +kernel
theorem dX3_come_8 : decode cX3_come 8 = .ok (.iload_n 1, 1) := by decide +kernel
theorem dX3_come_9 : decode cX3_come 9 = .ok (.iload_n 2, 1) := by decide +kernel
theorem dX3_come_10 : decode cX3_come 10 = .ok (.invokestatic 37, 3) := by decide +kernel
theorem dX3_come_13 : decode cX3_come 13 = .ok (.istore_n 3, 1) := by decide +kernel
theorem dX3_come_14 : decode cX3_come 14 = .ok (.aload_n 0, 1) := by decide +kernel
theorem dX3_come_15 : decode cX3_come 15 = .ok (.getfield 12, 3) := by decide +kernel
theorem dX3_come_18 : decode cX3_come 18 = .ok (.iload_n 3, 1) := by decide +kernel
theorem dX3_come_19 : decode cX3_come 19 = .ok (.invokevirtual 41, 3) := by decide +kernel
theorem dX3_come_22 : decode cX3_come 22 = .ok (.ifCond .ne 13, 3) := by decide +kernel
theorem dX3_come_25 : decode cX3_come 25 = .ok (.new 45, 3) := by decide +kernel
theorem dX3_come_28 : decode cX3_come 28 = .ok (.dup, 1) := by decide +kernel
theorem dX3_come_29 : decode cX3_come 29 = .ok (.ldc 47, 2) := by decide +kernel
theorem dX3_come_31 : decode cX3_come 31 = .ok (.invokespecial 49, 3) := by decide +kernel
theorem dX3_come_34 : decode cX3_come 34 = .ok (.athrow, 1) := by decide +kernel
theorem dX3_come_35 : decode cX3_come 35 = .ok (.aload_n 0, 1) := by decide +kernel
theorem dX3_come_36 : decode cX3_come 36 = .ok (.getfield 19, 3) := by decide +kernel
theorem dX3_come_39 : decode cX3_come 39 = .ok (.aload_n 0, 1) := by decide +kernel
theorem dX3_come_40 : decode cX3_come 40 = .ok (.getfield 12, 3) := by decide +kernel
theorem dX3_come_43 : decode cX3_come 43 = .ok (.invokevirtual 52, 3) := by decide +kernel
theorem dX3_come_46 : decode cX3_come 46 = .ok (.aload_n 0, 1) := by decide +kernel
theorem dX3_come_47 : decode cX3_come 47 = .ok (.getfield 12, 3) := by decide +kernel
theorem dX3_come_50 : decode cX3_come 50 = .ok (.iload_n 3, 1) := by decide +kernel
theorem dX3_come_51 : decode cX3_come 51 = .ok (.invokevirtual 56, 3) := by decide +kernel
theorem dX3_come_54 : decode cX3_come 54 = .ok (.aload_n 0, 1) := by decide +kernel
theorem dX3_come_55 : decode cX3_come 55 = .ok (.getfield 12, 3) := by decide +kernel
theorem dX3_come_58 : decode cX3_come 58 = .ok (.getfield 59, 3) := by decide +kernel
theorem dX3_come_61 : decode cX3_come 61 = .ok (.iload_n 3, 1) := by decide +kernel
theorem dX3_come_62 : decode cX3_come 62 = .ok (.iaload, 1) := by decide +kernel
theorem dX3_come_63 : decode cX3_come 63 = .ok (.ireturn, 1) := by decide +kernel
set_option maxRecDepth 20000 in
theorem ggX3_leave_X3_checkRow : GoodIn wsX3_leave wsX3_checkRow := goodIn_ca (goodIn_r _ [9, 10, 11, 12, 13, 8, 14] (by decide +kernel) (by decide +kernel)) (goodIn_sub (fun _ h => List.mem_cons_of_mem _ (List.mem_append_right _ h)) (by decide +kernel))
set_option maxRecDepth 20000 in
theorem gX3_leave_X3_checkRow : GoodIn wsX3_leave (va_wsS RX3 30 yX3_checkRow wsX3_checkRow) := goodIn_app (goodIn_of _ (by decide +kernel)) ggX3_leave_X3_checkRow
set_option maxRecDepth 20000 in
theorem ggX3_leave_X3_checkConcert : GoodIn wsX3_leave wsX3_checkConcert := goodIn_ca (goodIn_r _ [17, 10, 11, 18, 19, 8, 20] (by decide +kernel) (by decide +kernel)) (goodIn_sub (fun _ h => List.mem_cons_of_mem _ (List.mem_append_right _ h)) (by decide +kernel))
set_option maxRecDepth 20000 in
theorem gX3_leave_X3_checkConcert : GoodIn wsX3_leave (va_wsS RX3 34 yX3_checkConcert wsX3_checkConcert) := goodIn_app (goodIn_of _ (by decide +kernel)) ggX3_leave_X3_checkConcert
set_option maxRecDepth 20000 in
theorem ggX3_leave_X3_placeOf : GoodIn wsX3_leave wsX3_placeOf := goodIn_r _ [23] (by decide +kernel) (by decide +kernel)
set_option maxRecDepth 20000 in
theorem gX3_leave_X3_placeOf : GoodIn wsX3_leave (va_wsS RX3 37 yX3_placeOf wsX3_placeOf) := goodIn_app (goodIn_of _ (by decide +kernel)) ggX3_leave_X3_placeOf
set_option maxRecDepth 20000 in
theorem ggX3_leave_X1_isWantedAt : GoodIn wsX3_leave wsX1_isWantedAt := goodIn_r _ [28, 29, 73, 74, 75, 76, 77, 78, 79, 80, 81, 82, 83, 84] (by decide +kernel) (by decide +kernel)
set_option maxRecDepth 20000 in
theorem gX3_leave_X1_isWantedAt : GoodIn wsX3_leave (wsV RX3 63 RX1 yX1_isWantedAt wsX1_isWantedAt) := goodIn_app (goodIn_of _ (by decide +kernel)) ggX3_leave_X1_isWantedAt
set_option maxRecDepth 20000 in
theorem ggX3_leave_X2_keep : GoodIn wsX3_leave wsX2_keep := goodIn_r _ [34, 35, 36, 37, 38, 39, 40, 27, 41, 29, 42, 43, 44, 45, 46, 47, 48, 49, 50, 51, 52, 53, 54, 55, 56, 85, 86, 87, 73, 74, 75, 76, 77, 78, 79, 80, 81, 82, 83, 84] (by decide +kernel) (by decide +kernel)
set_option maxRecDepth 20000 in
theorem gX3_leave_X2_keep : GoodIn wsX3_leave (wsV RX3 52 RX2 yX2_keep wsX2_keep) := goodIn_app (goodIn_of _ (by decide +kernel)) ggX3_leave_X2_keep
set_option maxRecDepth 20000 in
theorem ggX3_leave_X1_unseat : GoodIn wsX3_leave wsX1_unseat := goodIn_r _ [60, 29, 61, 62, 63, 27, 64, 49, 46, 53, 47, 65, 25, 26, 28, 66, 67, 68, 69, 52, 73, 74, 75, 76, 77, 78, 79, 80, 81, 82, 83, 84] (by decide +kernel) (by decide +kernel)
set_option maxRecDepth 20000 in
theorem gX3_leave_X1_unseat : GoodIn wsX3_leave (wsV RX3 68 RX1 yX1_unseat wsX1_unseat) := goodIn_app (goodIn_of _ (by decide +kernel)) ggX3_leave_X1_unseat
theorem dX3_leave_0 : decode cX3_leave 0 = .ok (.iload_n 1, 1) := by decide +kernel
theorem dX3_leave_1 : decode cX3_leave 1 = .ok (.invokestatic 30, 3) := by decide +kernel
theorem dX3_leave_4 : decode cX3_leave 4 = .ok (.iload_n 2, 1) := by decide +kernel
theorem dX3_leave_5 : decode cX3_leave 5 = .ok (.invokestatic 34, 3) := by decide +kernel
theorem dX3_leave_8 : decode cX3_leave 8 = .ok (.iload_n 1, 1) := by decide +kernel
theorem dX3_leave_9 : decode cX3_leave 9 = .ok (.iload_n 2, 1) := by decide +kernel
theorem dX3_leave_10 : decode cX3_leave 10 = .ok (.invokestatic 37, 3) := by decide +kernel
theorem dX3_leave_13 : decode cX3_leave 13 = .ok (.istore 4, 2) := by decide +kernel
theorem dX3_leave_15 : decode cX3_leave 15 = .ok (.aload_n 0, 1) := by decide +kernel
theorem dX3_leave_16 : decode cX3_leave 16 = .ok (.getfield 12, 3) := by decide +kernel
theorem dX3_leave_19 : decode cX3_leave 19 = .ok (.iload 4, 2) := by decide +kernel
theorem dX3_leave_21 : decode cX3_leave 21 = .ok (.invokevirtual 63, 3) := by decide +kernel
theorem dX3_leave_24 : decode cX3_leave 24 = .ok (.ifCond .ne 13, 3) := by decide +kernel
theorem dX3_leave_27 : decode cX3_leave 27 = .ok (.new 45, 3) := by decide +kernel
theorem dX3_leave_30 : decode cX3_leave 30 = .ok (.dup, 1) := by decide +kernel
theorem dX3_leave_31 : decode cX3_leave 31 = .ok (.ldc 66, 2) := by decide +kernel
theorem dX3_leave_33 : decode cX3_leave 33 = .ok (.invokespecial 49, 3) := by decide +kernel
theorem dX3_leave_36 : decode cX3_leave 36 = .ok (.athrow, 1) := by decide +kernel
theorem dX3_leave_37 : decode cX3_leave 37 = .ok (.aload_n 0, 1) := by decide +kernel
theorem dX3_leave_38 : decode cX3_leave 38 = .ok (.getfield 19, 3) := by decide +kernel
theorem dX3_leave_41 : decode cX3_leave 41 = .ok (.aload_n 0, 1) := by decide +kernel
theorem dX3_leave_42 : decode cX3_leave 42 = .ok (.getfield 12, 3) := by decide +kernel
theorem dX3_leave_45 : decode cX3_leave 45 = .ok (.invokevirtual 52, 3) := by decide +kernel
theorem dX3_leave_48 : decode cX3_leave 48 = .ok (.aload_n 0, 1) := by decide +kernel
theorem dX3_leave_49 : decode cX3_leave 49 = .ok (.getfield 12, 3) := by decide +kernel
theorem dX3_leave_52 : decode cX3_leave 52 = .ok (.iload 4, 2) := by decide +kernel
theorem dX3_leave_54 : decode cX3_leave 54 = .ok (.iload_n 3, 1) := by decide +kernel
theorem dX3_leave_55 : decode cX3_leave 55 = .ok (.invokevirtual 68, 3) := by decide +kernel
theorem dX3_leave_58 : decode cX3_leave 58 = .ok (.aload_n 0, 1) := by decide +kernel
theorem dX3_leave_59 : decode cX3_leave 59 = .ok (.getfield 12, 3) := by decide +kernel
theorem dX3_leave_62 : decode cX3_leave 62 = .ok (.getfield 59, 3) := by decide +kernel
theorem dX3_leave_65 : decode cX3_leave 65 = .ok (.iload 4, 2) := by decide +kernel
theorem dX3_leave_67 : decode cX3_leave 67 = .ok (.iaload, 1) := by decide +kernel
theorem dX3_leave_68 : decode cX3_leave 68 = .ok (.ireturn, 1) := by decide +kernel
set_option maxRecDepth 20000 in
theorem ggX3_listeners_X3_checkRow : GoodIn wsX3_listeners wsX3_checkRow := goodIn_ca (goodIn_r _ [6, 7, 8, 9, 10, 5, 11] (by decide +kernel) (by decide +kernel)) (goodIn_sub (fun _ h => List.mem_cons_of_mem _ (List.mem_append_right _ h)) (by decide +kernel))
set_option maxRecDepth 20000 in
theorem gX3_listeners_X3_checkRow : GoodIn wsX3_listeners (va_wsS RX3 30 yX3_checkRow wsX3_checkRow) := goodIn_app (goodIn_of _ (by decide +kernel)) ggX3_listeners_X3_checkRow
set_option maxRecDepth 20000 in
theorem ggX3_listeners_X3_checkConcert : GoodIn wsX3_listeners wsX3_checkConcert := goodIn_ca (goodIn_r _ [14, 7, 8, 15, 16, 5, 17] (by decide +kernel) (by decide +kernel)) (goodIn_sub (fun _ h => List.mem_cons_of_mem _ (List.mem_append_right _ h)) (by decide +kernel))
set_option maxRecDepth 20000 in
theorem gX3_listeners_X3_checkConcert : GoodIn wsX3_listeners (va_wsS RX3 34 yX3_checkConcert wsX3_checkConcert) := goodIn_app (goodIn_of _ (by decide +kernel)) ggX3_listeners_X3_checkConcert
set_option maxRecDepth 20000 in
theorem ggX3_listeners_X3_placeOf : GoodIn wsX3_listeners wsX3_placeOf := goodIn_r _ [20] (by decide +kernel) (by decide +kernel)
set_option maxRecDepth 20000 in
theorem gX3_listeners_X3_placeOf : GoodIn wsX3_listeners (va_wsS RX3 37 yX3_placeOf wsX3_placeOf) := goodIn_app (goodIn_of _ (by decide +kernel)) ggX3_listeners_X3_placeOf
theorem dX3_listeners_0 : decode cX3_listeners 0 = .ok (.iload_n 1, 1) := by decide +kernel
theorem dX3_listeners_1 : decode cX3_listeners 1 = .ok (.invokestatic 30, 3) := by decide +kernel
theorem dX3_listeners_4 : decode cX3_listeners 4 = .ok (.iload_n 2, 1) := by decide +kernel
theorem dX3_listeners_5 : decode cX3_listeners 5 = .ok (.invokestatic 34, 3) := by decide +kernel
theorem dX3_listeners_8 : decode cX3_listeners 8 = .ok (.aload_n 0, 1) := by decide +kernel
theorem dX3_listeners_9 : decode cX3_listeners 9 = .ok (.getfield 12, 3) := by decide +kernel
theorem dX3_listeners_12 : decode cX3_listeners 12 = .ok (.getfield 59, 3) := by decide +kernel
theorem dX3_listeners_15 : decode cX3_listeners 15 = .ok (.iload_n 1, 1) := by decide +kernel
theorem dX3_listeners_16 : decode cX3_listeners 16 = .ok (.iload_n 2, 1) := by decide +kernel
theorem dX3_listeners_17 : decode cX3_listeners 17 = .ok (.invokestatic 37, 3) := by decide +kernel
theorem dX3_listeners_20 : decode cX3_listeners 20 = .ok (.iaload, 1) := by decide +kernel
theorem dX3_listeners_21 : decode cX3_listeners 21 = .ok (.ireturn, 1) := by decide +kernel
set_option maxRecDepth 20000 in
theorem ggX3_setOpen_X3_checkRow : GoodIn wsX3_setOpen wsX3_checkRow := goodIn_ca (goodIn_r _ [6, 7, 8, 9, 10, 5, 11] (by decide +kernel) (by decide +kernel)) (goodIn_sub (fun _ h => List.mem_cons_of_mem _ (List.mem_append_right _ h)) (by decide +kernel))
set_option maxRecDepth 20000 in
theorem gX3_setOpen_X3_checkRow : GoodIn wsX3_setOpen (va_wsS RX3 30 yX3_checkRow wsX3_checkRow) := goodIn_app (goodIn_of _ (by decide +kernel)) ggX3_setOpen_X3_checkRow
set_option maxRecDepth 20000 in
theorem ggX3_setOpen_X2_keep : GoodIn wsX3_setOpen wsX2_keep := goodIn_r _ [16, 17, 18, 19, 20, 21, 22, 23, 24, 25, 26, 27, 28, 29, 30, 31, 32, 33, 34, 35, 36, 37, 38, 39, 40, 52, 53, 54, 55, 56, 57, 58, 59, 60, 61, 62, 63, 64, 65, 66] (by decide +kernel) (by decide +kernel)
set_option maxRecDepth 20000 in
theorem gX3_setOpen_X2_keep : GoodIn wsX3_setOpen (wsV RX3 52 RX2 yX2_keep wsX2_keep) := goodIn_app (goodIn_of _ (by decide +kernel)) ggX3_setOpen_X2_keep
set_option maxRecDepth 20000 in
theorem ggX3_setOpen_X1_isRowOpen : GoodIn wsX3_setOpen wsX1_isRowOpen := goodIn_r _ [44, 32, 55, 56, 57, 58, 59, 60, 61, 62, 63, 64, 65, 66] (by decide +kernel) (by decide +kernel)
set_option maxRecDepth 20000 in
theorem gX3_setOpen_X1_isRowOpen : GoodIn wsX3_setOpen (wsV RX3 72 RX1 yX1_isRowOpen wsX1_isRowOpen) := goodIn_app (goodIn_of _ (by decide +kernel)) ggX3_setOpen_X1_isRowOpen
set_option maxRecDepth 20000 in
theorem ggX3_setOpen_X1_turnRow : GoodIn wsX3_setOpen wsX1_turnRow := goodIn_r _ [48, 32, 55, 56, 57, 58, 59, 60, 61, 62, 63, 64, 65, 66] (by decide +kernel) (by decide +kernel)
set_option maxRecDepth 20000 in
theorem gX3_setOpen_X1_turnRow : GoodIn wsX3_setOpen (wsV RX3 75 RX1 yX1_turnRow wsX1_turnRow) := goodIn_app (goodIn_of _ (by decide +kernel)) ggX3_setOpen_X1_turnRow
theorem dX3_setOpen_0 : decode cX3_setOpen 0 = .ok (.iload_n 1, 1) := by decide +kernel
theorem dX3_setOpen_1 : decode cX3_setOpen 1 = .ok (.invokestatic 30, 3) := by decide +kernel
theorem dX3_setOpen_4 : decode cX3_setOpen 4 = .ok (.aload_n 0, 1) := by decide +kernel
theorem dX3_setOpen_5 : decode cX3_setOpen 5 = .ok (.getfield 19, 3) := by decide +kernel
theorem dX3_setOpen_8 : decode cX3_setOpen 8 = .ok (.aload_n 0, 1) := by decide +kernel
theorem dX3_setOpen_9 : decode cX3_setOpen 9 = .ok (.getfield 12, 3) := by decide +kernel
theorem dX3_setOpen_12 : decode cX3_setOpen 12 = .ok (.invokevirtual 52, 3) := by decide +kernel
theorem dX3_setOpen_15 : decode cX3_setOpen 15 = .ok (.aload_n 0, 1) := by decide +kernel
theorem dX3_setOpen_16 : decode cX3_setOpen 16 = .ok (.getfield 12, 3) := by decide +kernel
theorem dX3_setOpen_19 : decode cX3_setOpen 19 = .ok (.iload_n 1, 1) := by decide +kernel
theorem dX3_setOpen_20 : decode cX3_setOpen 20 = .ok (.invokevirtual 72, 3) := by decide +kernel
theorem dX3_setOpen_23 : decode cX3_setOpen 23 = .ok (.istore_n 3, 1) := by decide +kernel
theorem dX3_setOpen_24 : decode cX3_setOpen 24 = .ok (.iload_n 3, 1) := by decide +kernel
theorem dX3_setOpen_25 : decode cX3_setOpen 25 = .ok (.iload_n 2, 1) := by decide +kernel
theorem dX3_setOpen_26 : decode cX3_setOpen 26 = .ok (.if_icmp .eq 11, 3) := by decide +kernel
theorem dX3_setOpen_29 : decode cX3_setOpen 29 = .ok (.aload_n 0, 1) := by decide +kernel
theorem dX3_setOpen_30 : decode cX3_setOpen 30 = .ok (.getfield 12, 3) := by decide +kernel
theorem dX3_setOpen_33 : decode cX3_setOpen 33 = .ok (.iload_n 1, 1) := by decide +kernel
theorem dX3_setOpen_34 : decode cX3_setOpen 34 = .ok (.invokevirtual 75, 3) := by decide +kernel
theorem dX3_setOpen_37 : decode cX3_setOpen 37 = .ok (.iload_n 3, 1) := by decide +kernel
theorem dX3_setOpen_38 : decode cX3_setOpen 38 = .ok (.ireturn, 1) := by decide +kernel
set_option maxRecDepth 20000 in
theorem ggX3_setQuick_X2_keep : GoodIn wsX3_setQuick wsX2_keep := goodIn_r _ [8, 9, 10, 11, 12, 13, 14, 15, 16, 17, 18, 19, 20, 21, 22, 23, 24, 25, 26, 27, 28, 29, 30, 31, 32, 48, 49, 50, 36, 37, 38, 39, 40, 41, 42, 43, 44, 45, 46, 47] (by decide +kernel) (by decide +kernel)
set_option maxRecDepth 20000 in
theorem gX3_setQuick_X2_keep : GoodIn wsX3_setQuick (wsV RX3 52 RX2 yX2_keep wsX2_keep) := goodIn_app (goodIn_of _ (by decide +kernel)) ggX3_setQuick_X2_keep
theorem dX3_setQuick_0 : decode cX3_setQuick 0 = .ok (.aload_n 0, 1) := by decide +kernel
theorem dX3_setQuick_1 : decode cX3_setQuick 1 = .ok (.getfield 19, 3) := by decide +kernel
theorem dX3_setQuick_4 : decode cX3_setQuick 4 = .ok (.aload_n 0, 1) := by decide +kernel
theorem dX3_setQuick_5 : decode cX3_setQuick 5 = .ok (.getfield 12, 3) := by decide +kernel
theorem dX3_setQuick_8 : decode cX3_setQuick 8 = .ok (.invokevirtual 52, 3) := by decide +kernel
theorem dX3_setQuick_11 : decode cX3_setQuick 11 = .ok (.aload_n 0, 1) := by decide +kernel
theorem dX3_setQuick_12 : decode cX3_setQuick 12 = .ok (.getfield 12, 3) := by decide +kernel
theorem dX3_setQuick_15 : decode cX3_setQuick 15 = .ok (.getfield 78, 3) := by decide +kernel
theorem dX3_setQuick_18 : decode cX3_setQuick 18 = .ok (.istore_n 2, 1) := by decide +kernel
theorem dX3_setQuick_19 : decode cX3_setQuick 19 = .ok (.aload_n 0, 1) := by decide +kernel
theorem dX3_setQuick_20 : decode cX3_setQuick 20 = .ok (.getfield 12, 3) := by decide +kernel
theorem dX3_setQuick_23 : decode cX3_setQuick 23 = .ok (.iload_n 1, 1) := by decide +kernel
theorem dX3_setQuick_24 : decode cX3_setQuick 24 = .ok (.putfield 78, 3) := by decide +kernel
theorem dX3_setQuick_27 : decode cX3_setQuick 27 = .ok (.iload_n 2, 1) := by decide +kernel
theorem dX3_setQuick_28 : decode cX3_setQuick 28 = .ok (.ireturn, 1) := by decide +kernel
set_option maxRecDepth 20000 in
theorem ggX3_setTimes_X2_keep : GoodIn wsX3_setTimes wsX2_keep := goodIn_r _ [12, 13, 14, 15, 16, 17, 18, 19, 20, 21, 22, 23, 24, 25, 26, 27, 28, 29, 30, 31, 32, 33, 34, 35, 36, 52, 53, 54, 40, 41, 42, 43, 44, 45, 46, 47, 48, 49, 50, 51] (by decide +kernel) (by decide +kernel)
set_option maxRecDepth 20000 in
theorem gX3_setTimes_X2_keep : GoodIn wsX3_setTimes (wsV RX3 52 RX2 yX2_keep wsX2_keep) := goodIn_app (goodIn_of _ (by decide +kernel)) ggX3_setTimes_X2_keep
theorem dX3_setTimes_0 : decode cX3_setTimes 0 = .ok (.iload_n 1, 1) := by decide +kernel
theorem dX3_setTimes_1 : decode cX3_setTimes 1 = .ok (.iconst 2, 1) := by decide +kernel
theorem dX3_setTimes_2 : decode cX3_setTimes 2 = .ok (.if_icmp .lt 9, 3) := by decide +kernel
theorem dX3_setTimes_5 : decode cX3_setTimes 5 = .ok (.iload_n 1, 1) := by decide +kernel
theorem dX3_setTimes_6 : decode cX3_setTimes 6 = .ok (.bipush 60, 2) := by decide +kernel
theorem dX3_setTimes_8 : decode cX3_setTimes 8 = .ok (.if_icmp .le 13, 3) := by decide +kernel
theorem dX3_setTimes_11 : decode cX3_setTimes 11 = .ok (.new 82, 3) := by decide +kernel
theorem dX3_setTimes_14 : decode cX3_setTimes 14 = .ok (.dup, 1) := by decide +kernel
theorem dX3_setTimes_15 : decode cX3_setTimes 15 = .ok (.ldc 84, 2) := by decide +kernel
theorem dX3_setTimes_17 : decode cX3_setTimes 17 = .ok (.invokespecial 86, 3) := by decide +kernel
theorem dX3_setTimes_20 : decode cX3_setTimes 20 = .ok (.athrow, 1) := by decide +kernel
theorem dX3_setTimes_21 : decode cX3_setTimes 21 = .ok (.iload_n 2, 1) := by decide +kernel
theorem dX3_setTimes_22 : decode cX3_setTimes 22 = .ok (.iconst 1, 1) := by decide +kernel
theorem dX3_setTimes_23 : decode cX3_setTimes 23 = .ok (.if_icmp .lt 9, 3) := by decide +kernel
theorem dX3_setTimes_26 : decode cX3_setTimes 26 = .ok (.iload_n 2, 1) := by decide +kernel
theorem dX3_setTimes_27 : decode cX3_setTimes 27 = .ok (.bipush 10, 2) := by decide +kernel
theorem dX3_setTimes_29 : decode cX3_setTimes 29 = .ok (.if_icmp .le 13, 3) := by decide +kernel
theorem dX3_setTimes_32 : decode cX3_setTimes 32 = .ok (.new 82, 3) := by decide +kernel
theorem dX3_setTimes_35 : decode cX3_setTimes 35 = .ok (.dup, 1) := by decide +kernel
theorem dX3_setTimes_36 : decode cX3_setTimes 36 = .ok (.ldc 87, 2) := by decide +kernel
theorem dX3_setTimes_38 : decode cX3_setTimes 38 = .ok (.invokespecial 86, 3) := by decide +kernel
theorem dX3_setTimes_41 : decode cX3_setTimes 41 = .ok (.athrow, 1) := by decide +kernel
theorem dX3_setTimes_42 : decode cX3_setTimes 42 = .ok (.iload_n 3, 1) := by decide +kernel
theorem dX3_setTimes_43 : decode cX3_setTimes 43 = .ok (.iconst 1, 1) := by decide +kernel
theorem dX3_setTimes_44 : decode cX3_setTimes 44 = .ok (.if_icmp .lt 9, 3) := by decide +kernel
theorem dX3_setTimes_47 : decode cX3_setTimes 47 = .ok (.iload_n 3, 1) := by decide +kernel
theorem dX3_setTimes_48 : decode cX3_setTimes 48 = .ok (.bipush 30, 2) := by decide +kernel
theorem dX3_setTimes_50 : decode cX3_setTimes 50 = .ok (.if_icmp .le 13, 3) := by decide +kernel
theorem dX3_setTimes_53 : decode cX3_setTimes 53 = .ok (.new 82, 3) := by decide +kernel
theorem dX3_setTimes_56 : decode cX3_setTimes 56 = .ok (.dup, 1) := by decide +kernel
theorem dX3_setTimes_57 : decode cX3_setTimes 57 = .ok (.ldc 89, 2) := by decide +kernel
theorem dX3_setTimes_59 : decode cX3_setTimes 59 = .ok (.invokespecial 86, 3) := by decide +kernel
theorem dX3_setTimes_62 : decode cX3_setTimes 62 = .ok (.athrow, 1) := by decide +kernel
theorem dX3_setTimes_63 : decode cX3_setTimes 63 = .ok (.aload_n 0, 1) := by decide +kernel
theorem dX3_setTimes_64 : decode cX3_setTimes 64 = .ok (.getfield 19, 3) := by decide +kernel
theorem dX3_setTimes_67 : decode cX3_setTimes 67 = .ok (.aload_n 0, 1) := by decide +kernel
theorem dX3_setTimes_68 : decode cX3_setTimes 68 = .ok (.getfield 12, 3) := by decide +kernel
theorem dX3_setTimes_71 : decode cX3_setTimes 71 = .ok (.invokevirtual 52, 3) := by decide +kernel
theorem dX3_setTimes_74 : decode cX3_setTimes 74 = .ok (.aload_n 0, 1) := by decide +kernel
theorem dX3_setTimes_75 : decode cX3_setTimes 75 = .ok (.getfield 12, 3) := by decide +kernel
theorem dX3_setTimes_78 : decode cX3_setTimes 78 = .ok (.getfield 91, 3) := by decide +kernel
theorem dX3_setTimes_81 : decode cX3_setTimes 81 = .ok (.istore 4, 2) := by decide +kernel
theorem dX3_setTimes_83 : decode cX3_setTimes 83 = .ok (.aload_n 0, 1) := by decide +kernel
theorem dX3_setTimes_84 : decode cX3_setTimes 84 = .ok (.getfield 12, 3) := by decide +kernel
theorem dX3_setTimes_87 : decode cX3_setTimes 87 = .ok (.iload_n 1, 1) := by decide +kernel
theorem dX3_setTimes_88 : decode cX3_setTimes 88 = .ok (.putfield 91, 3) := by decide +kernel
theorem dX3_setTimes_91 : decode cX3_setTimes 91 = .ok (.aload_n 0, 1) := by decide +kernel
theorem dX3_setTimes_92 : decode cX3_setTimes 92 = .ok (.getfield 12, 3) := by decide +kernel
theorem dX3_setTimes_95 : decode cX3_setTimes 95 = .ok (.iload_n 2, 1) := by decide +kernel
theorem dX3_setTimes_96 : decode cX3_setTimes 96 = .ok (.putfield 95, 3) := by decide +kernel
theorem dX3_setTimes_99 : decode cX3_setTimes 99 = .ok (.aload_n 0, 1) := by decide +kernel
theorem dX3_setTimes_100 : decode cX3_setTimes 100 = .ok (.getfield 12, 3) := by decide +kernel
theorem dX3_setTimes_103 : decode cX3_setTimes 103 = .ok (.iload_n 3, 1) := by decide +kernel
theorem dX3_setTimes_104 : decode cX3_setTimes 104 = .ok (.putfield 98, 3) := by decide +kernel
theorem dX3_setTimes_107 : decode cX3_setTimes 107 = .ok (.iload 4, 2) := by decide +kernel
theorem dX3_setTimes_109 : decode cX3_setTimes 109 = .ok (.ireturn, 1) := by decide +kernel
set_option maxRecDepth 20000 in
theorem ggX3_setPresent_X2_keep : GoodIn wsX3_setPresent wsX2_keep := goodIn_r _ [11, 12, 13, 14, 15, 16, 17, 18, 19, 20, 21, 22, 23, 24, 25, 26, 27, 28, 29, 30, 31, 32, 33, 34, 35, 55, 56, 57, 43, 44, 45, 46, 47, 48, 49, 50, 51, 52, 53, 54] (by decide +kernel) (by decide +kernel)
set_option maxRecDepth 20000 in
theorem gX3_setPresent_X2_keep : GoodIn wsX3_setPresent (wsV RX3 52 RX2 yX2_keep wsX2_keep) := goodIn_app (goodIn_of _ (by decide +kernel)) ggX3_setPresent_X2_keep
set_option maxRecDepth 20000 in
theorem ggX3_setPresent_X1_chiefAsker : GoodIn wsX3_setPresent wsX1_chiefAsker := goodIn_r _ [39, 30, 29, 43, 44, 45, 46, 47, 48, 49, 50, 51, 52, 53, 54] (by decide +kernel) (by decide +kernel)
set_option maxRecDepth 20000 in
theorem gX3_setPresent_X1_chiefAsker : GoodIn wsX3_setPresent (wsV RX3 112 RX1 yX1_chiefAsker wsX1_chiefAsker) := goodIn_app (goodIn_of _ (by decide +kernel)) ggX3_setPresent_X1_chiefAsker
theorem dX3_setPresent_0 : decode cX3_setPresent 0 = .ok (.iload_n 1, 1) := by decide +kernel
theorem dX3_setPresent_1 : decode cX3_setPresent 1 = .ok (.iconst 1, 1) := by decide +kernel
theorem dX3_setPresent_2 : decode cX3_setPresent 2 = .ok (.if_icmp .eq 18, 3) := by decide +kernel
theorem dX3_setPresent_5 : decode cX3_setPresent 5 = .ok (.iload_n 1, 1) := by decide +kernel
theorem dX3_setPresent_6 : decode cX3_setPresent 6 = .ok (.iconst 2, 1) := by decide +kernel
theorem dX3_setPresent_7 : decode cX3_setPresent 7 = .ok (.if_icmp .eq 13, 3) := by decide +kernel
theorem dX3_setPresent_10 : decode cX3_setPresent 10 = .ok (.new 101, 3) := by decide +kernel
theorem dX3_setPresent_13 : decode cX3_setPresent 13 = .ok (.dup, 1) := by decide +kernel
theorem dX3_setPresent_14 : decode cX3_setPresent 14 = .ok (.ldc 103, 2) := by decide +kernel
theorem dX3_setPresent_16 : decode cX3_setPresent 16 = .ok (.invokespecial 105, 3) := by decide +kernel
theorem dX3_setPresent_19 : decode cX3_setPresent 19 = .ok (.athrow, 1) := by decide +kernel
theorem dX3_setPresent_20 : decode cX3_setPresent 20 = .ok (.aload_n 0, 1) := by decide +kernel
theorem dX3_setPresent_21 : decode cX3_setPresent 21 = .ok (.getfield 19, 3) := by decide +kernel
theorem dX3_setPresent_24 : decode cX3_setPresent 24 = .ok (.aload_n 0, 1) := by decide +kernel
theorem dX3_setPresent_25 : decode cX3_setPresent 25 = .ok (.getfield 12, 3) := by decide +kernel
theorem dX3_setPresent_28 : decode cX3_setPresent 28 = .ok (.invokevirtual 52, 3) := by decide +kernel
theorem dX3_setPresent_31 : decode cX3_setPresent 31 = .ok (.iload_n 1, 1) := by decide +kernel
theorem dX3_setPresent_32 : decode cX3_setPresent 32 = .ok (.iconst 1, 1) := by decide +kernel
theorem dX3_setPresent_33 : decode cX3_setPresent 33 = .ok (.if_icmp .ne 14, 3) := by decide +kernel
theorem dX3_setPresent_36 : decode cX3_setPresent 36 = .ok (.aload_n 0, 1) := by decide +kernel
theorem dX3_setPresent_37 : decode cX3_setPresent 37 = .ok (.getfield 12, 3) := by decide +kernel
theorem dX3_setPresent_40 : decode cX3_setPresent 40 = .ok (.iload_n 2, 1) := by decide +kernel
theorem dX3_setPresent_41 : decode cX3_setPresent 41 = .ok (.putfield 106, 3) := by decide +kernel
theorem dX3_setPresent_44 : decode cX3_setPresent 44 = .ok (.goto 11, 3) := by decide +kernel
theorem dX3_setPresent_47 : decode cX3_setPresent 47 = .ok (.aload_n 0, 1) := by decide +kernel
theorem dX3_setPresent_48 : decode cX3_setPresent 48 = .ok (.getfield 12, 3) := by decide +kernel
theorem dX3_setPresent_51 : decode cX3_setPresent 51 = .ok (.iload_n 2, 1) := by decide +kernel
theorem dX3_setPresent_52 : decode cX3_setPresent 52 = .ok (.putfield 109, 3) := by decide +kernel
theorem dX3_setPresent_55 : decode cX3_setPresent 55 = .ok (.aload_n 0, 1) := by decide +kernel
theorem dX3_setPresent_56 : decode cX3_setPresent 56 = .ok (.getfield 12, 3) := by decide +kernel
theorem dX3_setPresent_59 : decode cX3_setPresent 59 = .ok (.invokevirtual 112, 3) := by decide +kernel
theorem dX3_setPresent_62 : decode cX3_setPresent 62 = .ok (.ireturn, 1) := by decide +kernel
set_option maxRecDepth 20000 in
theorem ggX3_chief_X1_chiefAsker : GoodIn wsX3_chief wsX1_chiefAsker := goodIn_r _ [6, 7, 8, 12, 13, 14, 15, 16, 17, 18, 19, 20, 21, 22, 23] (by decide +kernel) (by decide +kernel)
set_option maxRecDepth 20000 in
theorem gX3_chief_X1_chiefAsker : GoodIn wsX3_chief (wsV RX3 112 RX1 yX1_chiefAsker wsX1_chiefAsker) := goodIn_app (goodIn_of _ (by decide +kernel)) ggX3_chief_X1_chiefAsker
theorem dX3_chief_0 : decode cX3_chief 0 = .ok (.aload_n 0, 1) := by decide +kernel
theorem dX3_chief_1 : decode cX3_chief 1 = .ok (.getfield 12, 3) := by decide +kernel
theorem dX3_chief_4 : decode cX3_chief 4 = .ok (.invokevirtual 112, 3) := by decide +kernel
theorem dX3_chief_7 : decode cX3_chief 7 = .ok (.ireturn, 1) := by decide +kernel
set_option maxRecDepth 20000 in
theorem ggX3_rest_X3_checkRow : GoodIn wsX3_rest wsX3_checkRow := goodIn_ca (goodIn_r _ [6, 7, 8, 9, 10, 5, 11] (by decide +kernel) (by decide +kernel)) (goodIn_sub (fun _ h => List.mem_cons_of_mem _ (List.mem_append_right _ h)) (by decide +kernel))
set_option maxRecDepth 20000 in
theorem gX3_rest_X3_checkRow : GoodIn wsX3_rest (va_wsS RX3 30 yX3_checkRow wsX3_checkRow) := goodIn_app (goodIn_of _ (by decide +kernel)) ggX3_rest_X3_checkRow
set_option maxRecDepth 20000 in
theorem ggX3_rest_X3_checkConcert : GoodIn wsX3_rest wsX3_checkConcert := goodIn_ca (goodIn_r _ [14, 7, 8, 15, 16, 5, 17] (by decide +kernel) (by decide +kernel)) (goodIn_sub (fun _ h => List.mem_cons_of_mem _ (List.mem_append_right _ h)) (by decide +kernel))
set_option maxRecDepth 20000 in
theorem gX3_rest_X3_checkConcert : GoodIn wsX3_rest (va_wsS RX3 34 yX3_checkConcert wsX3_checkConcert) := goodIn_app (goodIn_of _ (by decide +kernel)) ggX3_rest_X3_checkConcert
set_option maxRecDepth 20000 in
theorem ggX3_rest_X3_placeOf : GoodIn wsX3_rest wsX3_placeOf := goodIn_r _ [20] (by decide +kernel) (by decide +kernel)
set_option maxRecDepth 20000 in
theorem gX3_rest_X3_placeOf : GoodIn wsX3_rest (va_wsS RX3 37 yX3_placeOf wsX3_placeOf) := goodIn_app (goodIn_of _ (by decide +kernel)) ggX3_rest_X3_placeOf
theorem dX3_rest_0 : decode cX3_rest 0 = .ok (.iload_n 1, 1) := by decide +kernel
theorem dX3_rest_1 : decode cX3_rest 1 = .ok (.invokestatic 30, 3) := by decide +kernel
theorem dX3_rest_4 : decode cX3_rest 4 = .ok (.iload_n 2, 1) := by decide +kernel
theorem dX3_rest_5 : decode cX3_rest 5 = .ok (.invokestatic 34, 3) := by decide +kernel
theorem dX3_rest_8 : decode cX3_rest 8 = .ok (.aload_n 0, 1) := by decide +kernel
theorem dX3_rest_9 : decode cX3_rest 9 = .ok (.getfield 12, 3) := by decide +kernel
theorem dX3_rest_12 : decode cX3_rest 12 = .ok (.getfield 116, 3) := by decide +kernel
theorem dX3_rest_15 : decode cX3_rest 15 = .ok (.iload_n 1, 1) := by decide +kernel
theorem dX3_rest_16 : decode cX3_rest 16 = .ok (.iload_n 2, 1) := by decide +kernel
theorem dX3_rest_17 : decode cX3_rest 17 = .ok (.invokestatic 37, 3) := by decide +kernel
theorem dX3_rest_20 : decode cX3_rest 20 = .ok (.iaload, 1) := by decide +kernel
theorem dX3_rest_21 : decode cX3_rest 21 = .ok (.ireturn, 1) := by decide +kernel
set_option maxRecDepth 20000 in
theorem ggX3_entries_X1_entriesInAll : GoodIn wsX3_entries wsX1_entriesInAll := goodIn_r _ [6, 7, 11, 12, 13, 14, 15, 16, 17, 18, 19, 20, 21, 22] (by decide +kernel) (by decide +kernel)
set_option maxRecDepth 20000 in
theorem gX3_entries_X1_entriesInAll : GoodIn wsX3_entries (wsV RX3 119 RX1 yX1_entriesInAll wsX1_entriesInAll) := goodIn_app (goodIn_of _ (by decide +kernel)) ggX3_entries_X1_entriesInAll
theorem dX3_entries_0 : decode cX3_entries 0 = .ok (.aload_n 0, 1) := by decide +kernel
theorem dX3_entries_1 : decode cX3_entries 1 = .ok (.getfield 12, 3) := by decide +kernel
theorem dX3_entries_4 : decode cX3_entries 4 = .ok (.invokevirtual 119, 3) := by decide +kernel
theorem dX3_entries_7 : decode cX3_entries 7 = .ok (.ireturn, 1) := by decide +kernel
set_option maxRecDepth 20000 in
theorem ggX3_isOpen_X3_checkRow : GoodIn wsX3_isOpen wsX3_checkRow := goodIn_ca (goodIn_r _ [5, 6, 7, 8, 9, 4, 10] (by decide +kernel) (by decide +kernel)) (goodIn_sub (fun _ h => List.mem_cons_of_mem _ (List.mem_append_right _ h)) (by decide +kernel))
set_option maxRecDepth 20000 in
theorem gX3_isOpen_X3_checkRow : GoodIn wsX3_isOpen (va_wsS RX3 30 yX3_checkRow wsX3_checkRow) := goodIn_app (goodIn_of _ (by decide +kernel)) ggX3_isOpen_X3_checkRow
set_option maxRecDepth 20000 in
theorem ggX3_isOpen_X1_isRowOpen : GoodIn wsX3_isOpen wsX1_isRowOpen := goodIn_r _ [15, 16, 20, 21, 22, 23, 24, 25, 26, 27, 28, 29, 30, 31] (by decide +kernel) (by decide +kernel)
set_option maxRecDepth 20000 in
theorem gX3_isOpen_X1_isRowOpen : GoodIn wsX3_isOpen (wsV RX3 72 RX1 yX1_isRowOpen wsX1_isRowOpen) := goodIn_app (goodIn_of _ (by decide +kernel)) ggX3_isOpen_X1_isRowOpen
theorem dX3_isOpen_0 : decode cX3_isOpen 0 = .ok (.iload_n 1, 1) := by decide +kernel
theorem dX3_isOpen_1 : decode cX3_isOpen 1 = .ok (.invokestatic 30, 3) := by decide +kernel
theorem dX3_isOpen_4 : decode cX3_isOpen 4 = .ok (.aload_n 0, 1) := by decide +kernel
theorem dX3_isOpen_5 : decode cX3_isOpen 5 = .ok (.getfield 12, 3) := by decide +kernel
theorem dX3_isOpen_8 : decode cX3_isOpen 8 = .ok (.iload_n 1, 1) := by decide +kernel
theorem dX3_isOpen_9 : decode cX3_isOpen 9 = .ok (.invokevirtual 72, 3) := by decide +kernel
theorem dX3_isOpen_12 : decode cX3_isOpen 12 = .ok (.ireturn, 1) := by decide +kernel
set_option maxRecDepth 20000 in
theorem ggX3_rows_X3_checkConcert : GoodIn wsX3_rows wsX3_checkConcert := goodIn_ca (goodIn_r _ [5, 6, 7, 8, 9, 4, 10] (by decide +kernel) (by decide +kernel)) (goodIn_sub (fun _ h => List.mem_cons_of_mem _ (List.mem_append_right _ h)) (by decide +kernel))
set_option maxRecDepth 20000 in
theorem gX3_rows_X3_checkConcert : GoodIn wsX3_rows (va_wsS RX3 34 yX3_checkConcert wsX3_checkConcert) := goodIn_app (goodIn_of _ (by decide +kernel)) ggX3_rows_X3_checkConcert
set_option maxRecDepth 20000 in
theorem ggX3_rows_X1_rowsThatGet : GoodIn wsX3_rows wsX1_rowsThatGet := goodIn_r _ [15, 16, 17, 18, 4, 19, 23, 24, 25, 26, 27, 28, 29, 30, 31, 32, 33, 34] (by decide +kernel) (by decide +kernel)
set_option maxRecDepth 20000 in
theorem gX3_rows_X1_rowsThatGet : GoodIn wsX3_rows (wsV RX3 122 RX1 yX1_rowsThatGet wsX1_rowsThatGet) := goodIn_app (goodIn_of _ (by decide +kernel)) ggX3_rows_X1_rowsThatGet
theorem dX3_rows_0 : decode cX3_rows 0 = .ok (.iload_n 1, 1) := by decide +kernel
theorem dX3_rows_1 : decode cX3_rows 1 = .ok (.invokestatic 34, 3) := by decide +kernel
theorem dX3_rows_4 : decode cX3_rows 4 = .ok (.aload_n 0, 1) := by decide +kernel
theorem dX3_rows_5 : decode cX3_rows 5 = .ok (.getfield 12, 3) := by decide +kernel
theorem dX3_rows_8 : decode cX3_rows 8 = .ok (.iload_n 1, 1) := by decide +kernel
theorem dX3_rows_9 : decode cX3_rows 9 = .ok (.invokevirtual 122, 3) := by decide +kernel
theorem dX3_rows_12 : decode cX3_rows 12 = .ok (.ireturn, 1) := by decide +kernel
set_option maxRecDepth 20000 in
theorem ggX3_wanted_X3_checkConcert : GoodIn wsX3_wanted wsX3_checkConcert := goodIn_ca (goodIn_r _ [5, 6, 7, 8, 9, 4, 10] (by decide +kernel) (by decide +kernel)) (goodIn_sub (fun _ h => List.mem_cons_of_mem _ (List.mem_append_right _ h)) (by decide +kernel))
set_option maxRecDepth 20000 in
theorem gX3_wanted_X3_checkConcert : GoodIn wsX3_wanted (va_wsS RX3 34 yX3_checkConcert wsX3_checkConcert) := goodIn_app (goodIn_of _ (by decide +kernel)) ggX3_wanted_X3_checkConcert
set_option maxRecDepth 20000 in
theorem ggX3_wanted_X1_rowsThatWant : GoodIn wsX3_wanted wsX1_rowsThatWant := goodIn_r _ [15, 16, 4, 17, 18, 19, 20, 14, 21, 22, 26, 27, 28, 29, 30, 31, 32, 33, 34, 35, 36, 37] (by decide +kernel) (by decide +kernel)
set_option maxRecDepth 20000 in
theorem gX3_wanted_X1_rowsThatWant : GoodIn wsX3_wanted (wsV RX3 126 RX1 yX1_rowsThatWant wsX1_rowsThatWant) := goodIn_app (goodIn_of _ (by decide +kernel)) ggX3_wanted_X1_rowsThatWant
theorem dX3_wanted_0 : decode cX3_wanted 0 = .ok (.iload_n 1, 1) := by decide +kernel
theorem dX3_wanted_1 : decode cX3_wanted 1 = .ok (.invokestatic 34, 3) := by decide +kernel
theorem dX3_wanted_4 : decode cX3_wanted 4 = .ok (.aload_n 0, 1) := by decide +kernel
theorem dX3_wanted_5 : decode cX3_wanted 5 = .ok (.getfield 12, 3) := by decide +kernel
theorem dX3_wanted_8 : decode cX3_wanted 8 = .ok (.iload_n 1, 1) := by decide +kernel
theorem dX3_wanted_9 : decode cX3_wanted 9 = .ok (.invokevirtual 126, 3) := by decide +kernel
theorem dX3_wanted_12 : decode cX3_wanted 12 = .ok (.ireturn, 1) := by decide +kernel
set_option maxRecDepth 20000 in
theorem ggX3_pass_X3_checkMinutes : GoodIn wsX3_pass wsX3_checkMinutes := goodIn_ca (goodIn_r _ [6, 7, 8] (by decide +kernel) (by decide +kernel)) (goodIn_sub (fun _ h => List.mem_cons_of_mem _ (List.mem_append_right _ h)) (by decide +kernel))
set_option maxRecDepth 20000 in
theorem gX3_pass_X3_checkMinutes : GoodIn wsX3_pass (va_wsS RX3 129 yX3_checkMinutes wsX3_checkMinutes) := goodIn_app (goodIn_of _ (by decide +kernel)) ggX3_pass_X3_checkMinutes
set_option maxRecDepth 20000 in
theorem ggX3_pass_X2_keep : GoodIn wsX3_pass wsX2_keep := goodIn_r _ [13, 14, 15, 16, 17, 18, 19, 20, 21, 22, 23, 24, 25, 26, 27, 28, 29, 30, 31, 32, 33, 34, 35, 36, 37, 65, 66, 67, 68, 69, 70, 71, 72, 73, 74, 75, 76, 77, 78, 79] (by decide +kernel) (by decide +kernel)
set_option maxRecDepth 20000 in
theorem gX3_pass_X2_keep : GoodIn wsX3_pass (wsV RX3 52 RX2 yX2_keep wsX2_keep) := goodIn_app (goodIn_of _ (by decide +kernel)) ggX3_pass_X2_keep
set_option maxRecDepth 20000 in
theorem ggX3_pass_X1_letPass : GoodIn wsX3_pass wsX1_letPass := goodIn_r _ [41, 36, 37, 42, 43, 44, 20, 45, 27, 46, 47, 48, 49, 35, 50, 51, 52, 53, 32, 31, 54, 55, 56, 57, 28, 58, 59, 60, 61, 22, 33, 68, 69, 70, 71, 72, 73, 74, 75, 76, 77, 78, 79] (by decide +kernel) (by decide +kernel)
set_option maxRecDepth 20000 in
theorem gX3_pass_X1_letPass : GoodIn wsX3_pass (wsV RX3 132 RX1 yX1_letPass wsX1_letPass) := goodIn_app (goodIn_of _ (by decide +kernel)) ggX3_pass_X1_letPass
theorem dX3_pass_0 : decode cX3_pass 0 = .ok (.iload_n 1, 1) := by decide +kernel
theorem dX3_pass_1 : decode cX3_pass 1 = .ok (.invokestatic 129, 3) := by decide +kernel
theorem dX3_pass_4 : decode cX3_pass 4 = .ok (.aload_n 0, 1) := by decide +kernel
theorem dX3_pass_5 : decode cX3_pass 5 = .ok (.getfield 19, 3) := by decide +kernel
theorem dX3_pass_8 : decode cX3_pass 8 = .ok (.aload_n 0, 1) := by decide +kernel
theorem dX3_pass_9 : decode cX3_pass 9 = .ok (.getfield 12, 3) := by decide +kernel
theorem dX3_pass_12 : decode cX3_pass 12 = .ok (.invokevirtual 52, 3) := by decide +kernel
theorem dX3_pass_15 : decode cX3_pass 15 = .ok (.aload_n 0, 1) := by decide +kernel
theorem dX3_pass_16 : decode cX3_pass 16 = .ok (.getfield 12, 3) := by decide +kernel
theorem dX3_pass_19 : decode cX3_pass 19 = .ok (.iload_n 1, 1) := by decide +kernel
theorem dX3_pass_20 : decode cX3_pass 20 = .ok (.invokevirtual 132, 3) := by decide +kernel
theorem dX3_pass_23 : decode cX3_pass 23 = .ok (.ireturn, 1) := by decide +kernel
set_option maxRecDepth 20000 in
theorem ggX3_play_X3_checkConcert : GoodIn wsX3_play wsX3_checkConcert := goodIn_ca (goodIn_r _ [6, 7, 8, 9, 10, 5, 11] (by decide +kernel) (by decide +kernel)) (goodIn_sub (fun _ h => List.mem_cons_of_mem _ (List.mem_append_right _ h)) (by decide +kernel))
set_option maxRecDepth 20000 in
theorem gX3_play_X3_checkConcert : GoodIn wsX3_play (va_wsS RX3 34 yX3_checkConcert wsX3_checkConcert) := goodIn_app (goodIn_of _ (by decide +kernel)) ggX3_play_X3_checkConcert
set_option maxRecDepth 20000 in
theorem ggX3_play_X2_keep : GoodIn wsX3_play wsX2_keep := goodIn_r _ [16, 17, 18, 19, 20, 21, 22, 23, 24, 25, 26, 27, 28, 29, 30, 31, 32, 33, 34, 35, 36, 37, 38, 39, 40, 69, 70, 71, 72, 73, 74, 75, 76, 77, 78, 79, 80, 81, 82, 83] (by decide +kernel) (by decide +kernel)
set_option maxRecDepth 20000 in
theorem gX3_play_X2_keep : GoodIn wsX3_play (wsV RX3 52 RX2 yX2_keep wsX2_keep) := goodIn_app (goodIn_of _ (by decide +kernel)) ggX3_play_X2_keep
set_option maxRecDepth 20000 in
theorem ggX3_play_X1_perform : GoodIn wsX3_play wsX1_perform := goodIn_r _ [44, 31, 45, 46, 47, 23, 48, 32, 30, 49, 5, 50, 51, 52, 53, 54, 55, 56, 57, 58, 25, 59, 60, 61, 62, 63, 64, 65, 72, 73, 74, 75, 76, 77, 78, 79, 80, 81, 82, 83] (by decide +kernel) (by decide +kernel)
set_option maxRecDepth 20000 in
theorem gX3_play_X1_perform : GoodIn wsX3_play (wsV RX3 135 RX1 yX1_perform wsX1_perform) := goodIn_app (goodIn_of _ (by decide +kernel)) ggX3_play_X1_perform
theorem dX3_play_0 : decode cX3_play 0 = .ok (.iload_n 1, 1) := by decide +kernel
theorem dX3_play_1 : decode cX3_play 1 = .ok (.invokestatic 34, 3) := by decide +kernel
theorem dX3_play_4 : decode cX3_play 4 = .ok (.aload_n 0, 1) := by decide +kernel
theorem dX3_play_5 : decode cX3_play 5 = .ok (.getfield 19, 3) := by decide +kernel
theorem dX3_play_8 : decode cX3_play 8 = .ok (.aload_n 0, 1) := by decide +kernel
theorem dX3_play_9 : decode cX3_play 9 = .ok (.getfield 12, 3) := by decide +kernel
theorem dX3_play_12 : decode cX3_play 12 = .ok (.invokevirtual 52, 3) := by decide +kernel
theorem dX3_play_15 : decode cX3_play 15 = .ok (.aload_n 0, 1) := by decide +kernel
theorem dX3_play_16 : decode cX3_play 16 = .ok (.getfield 12, 3) := by decide +kernel
theorem dX3_play_19 : decode cX3_play 19 = .ok (.iload_n 1, 1) := by decide +kernel
theorem dX3_play_20 : decode cX3_play 20 = .ok (.invokevirtual 135, 3) := by decide +kernel
theorem dX3_play_23 : decode cX3_play 23 = .ok (.ireturn, 1) := by decide +kernel
theorem dX3_minutes_0 : decode cX3_minutes 0 = .ok (.aload_n 0, 1) := by decide +kernel
theorem dX3_minutes_1 : decode cX3_minutes 1 = .ok (.getfield 12, 3) := by decide +kernel
theorem dX3_minutes_4 : decode cX3_minutes 4 = .ok (.getfield 138, 3) := by decide +kernel
theorem dX3_minutes_7 : decode cX3_minutes 7 = .ok (.ireturn, 1) := by decide +kernel
theorem dX3_sinceQuestion_0 : decode cX3_sinceQuestion 0 = .ok (.aload_n 0, 1) := by decide +kernel
theorem dX3_sinceQuestion_1 : decode cX3_sinceQuestion 1 = .ok (.getfield 12, 3) := by decide +kernel
theorem dX3_sinceQuestion_4 : decode cX3_sinceQuestion 4 = .ok (.getfield 141, 3) := by decide +kernel
theorem dX3_sinceQuestion_7 : decode cX3_sinceQuestion 7 = .ok (.ireturn, 1) := by decide +kernel
theorem dX3_count_0 : decode cX3_count 0 = .ok (.iload_n 1, 1) := by decide +kernel
theorem dX3_count_1 : decode cX3_count 1 = .ok (.ifCond .lt 9, 3) := by decide +kernel
theorem dX3_count_4 : decode cX3_count 4 = .ok (.iload_n 1, 1) := by decide +kernel
theorem dX3_count_5 : decode cX3_count 5 = .ok (.bipush 6, 2) := by decide +kernel
theorem dX3_count_7 : decode cX3_count 7 = .ok (.if_icmp .lt 13, 3) := by decide +kernel
theorem dX3_count_10 : decode cX3_count 10 = .ok (.new 101, 3) := by decide +kernel
theorem dX3_count_13 : decode cX3_count 13 = .ok (.dup, 1) := by decide +kernel
theorem dX3_count_14 : decode cX3_count 14 = .ok (.ldc 144, 2) := by decide +kernel
theorem dX3_count_16 : decode cX3_count 16 = .ok (.invokespecial 105, 3) := by decide +kernel
theorem dX3_count_19 : decode cX3_count 19 = .ok (.athrow, 1) := by decide +kernel
theorem dX3_count_20 : decode cX3_count 20 = .ok (.aload_n 0, 1) := by decide +kernel
theorem dX3_count_21 : decode cX3_count 21 = .ok (.getfield 12, 3) := by decide +kernel
theorem dX3_count_24 : decode cX3_count 24 = .ok (.getfield 146, 3) := by decide +kernel
theorem dX3_count_27 : decode cX3_count 27 = .ok (.iload_n 1, 1) := by decide +kernel
theorem dX3_count_28 : decode cX3_count 28 = .ok (.iaload, 1) := by decide +kernel
theorem dX3_count_29 : decode cX3_count 29 = .ok (.ireturn, 1) := by decide +kernel
theorem dX3_usefulShare_0 : decode cX3_usefulShare 0 = .ok (.aload_n 0, 1) := by decide +kernel
theorem dX3_usefulShare_1 : decode cX3_usefulShare 1 = .ok (.getfield 12, 3) := by decide +kernel
theorem dX3_usefulShare_4 : decode cX3_usefulShare 4 = .ok (.getfield 146, 3) := by decide +kernel
theorem dX3_usefulShare_7 : decode cX3_usefulShare 7 = .ok (.iconst 0, 1) := by decide +kernel
theorem dX3_usefulShare_8 : decode cX3_usefulShare 8 = .ok (.iaload, 1) := by decide +kernel
theorem dX3_usefulShare_9 : decode cX3_usefulShare 9 = .ok (.istore_n 1, 1) := by decide +kernel
theorem dX3_usefulShare_10 : decode cX3_usefulShare 10 = .ok (.iload_n 1, 1) := by decide +kernel
theorem dX3_usefulShare_11 : decode cX3_usefulShare 11 = .ok (.aload_n 0, 1) := by decide +kernel
theorem dX3_usefulShare_12 : decode cX3_usefulShare 12 = .ok (.getfield 12, 3) := by decide +kernel
theorem dX3_usefulShare_15 : decode cX3_usefulShare 15 = .ok (.getfield 146, 3) := by decide +kernel
theorem dX3_usefulShare_18 : decode cX3_usefulShare 18 = .ok (.iconst 1, 1) := by decide +kernel
theorem dX3_usefulShare_19 : decode cX3_usefulShare 19 = .ok (.iaload, 1) := by decide +kernel
theorem dX3_usefulShare_20 : decode cX3_usefulShare 20 = .ok (.iadd, 1) := by decide +kernel
theorem dX3_usefulShare_21 : decode cX3_usefulShare 21 = .ok (.istore_n 2, 1) := by decide +kernel
theorem dX3_usefulShare_22 : decode cX3_usefulShare 22 = .ok (.iload_n 2, 1) := by decide +kernel
theorem dX3_usefulShare_23 : decode cX3_usefulShare 23 = .ok (.ifCond .ne 5, 3) := by decide +kernel
theorem dX3_usefulShare_26 : decode cX3_usefulShare 26 = .ok (.dconst 1, 1) := by decide +kernel
theorem dX3_usefulShare_27 : decode cX3_usefulShare 27 = .ok (.dreturn, 1) := by decide +kernel
theorem dX3_usefulShare_28 : decode cX3_usefulShare 28 = .ok (.iload_n 1, 1) := by decide +kernel
theorem dX3_usefulShare_29 : decode cX3_usefulShare 29 = .ok (.i2d, 1) := by decide +kernel
theorem dX3_usefulShare_30 : decode cX3_usefulShare 30 = .ok (.iload_n 2, 1) := by decide +kernel
theorem dX3_usefulShare_31 : decode cX3_usefulShare 31 = .ok (.i2d, 1) := by decide +kernel
theorem dX3_usefulShare_32 : decode cX3_usefulShare 32 = .ok (.ddiv, 1) := by decide +kernel
theorem dX3_usefulShare_33 : decode cX3_usefulShare 33 = .ok (.dreturn, 1) := by decide +kernel
set_option maxRecDepth 20000 in
theorem ggX3_minutesToFade_X3_checkRow : GoodIn wsX3_minutesToFade wsX3_checkRow := goodIn_ca (goodIn_r _ [5, 6, 7, 8, 9, 4, 10] (by decide +kernel) (by decide +kernel)) (goodIn_sub (fun _ h => List.mem_cons_of_mem _ (List.mem_append_right _ h)) (by decide +kernel))
set_option maxRecDepth 20000 in
theorem gX3_minutesToFade_X3_checkRow : GoodIn wsX3_minutesToFade (va_wsS RX3 30 yX3_checkRow wsX3_checkRow) := goodIn_app (goodIn_of _ (by decide +kernel)) ggX3_minutesToFade_X3_checkRow
set_option maxRecDepth 20000 in
theorem ggX3_minutesToFade_X3_checkConcert : GoodIn wsX3_minutesToFade wsX3_checkConcert := goodIn_ca (goodIn_r _ [13, 6, 7, 14, 15, 4, 16] (by decide +kernel) (by decide +kernel)) (goodIn_sub (fun _ h => List.mem_cons_of_mem _ (List.mem_append_right _ h)) (by decide +kernel))
set_option maxRecDepth 20000 in
theorem gX3_minutesToFade_X3_checkConcert : GoodIn wsX3_minutesToFade (va_wsS RX3 34 yX3_checkConcert wsX3_checkConcert) := goodIn_app (goodIn_of _ (by decide +kernel)) ggX3_minutesToFade_X3_checkConcert
set_option maxRecDepth 20000 in
theorem ggX3_minutesToFade_X3_placeOf : GoodIn wsX3_minutesToFade wsX3_placeOf := goodIn_r _ [19] (by decide +kernel) (by decide +kernel)
set_option maxRecDepth 20000 in
theorem gX3_minutesToFade_X3_placeOf : GoodIn wsX3_minutesToFade (va_wsS RX3 37 yX3_placeOf wsX3_placeOf) := goodIn_app (goodIn_of _ (by decide +kernel)) ggX3_minutesToFade_X3_placeOf
set_option maxRecDepth 20000 in
theorem ggX3_minutesToFade_X1_fadesIn : GoodIn wsX3_minutesToFade wsX1_fadesIn := goodIn_r _ [24, 25, 26, 27, 28, 29, 23, 30, 31, 32, 33, 34, 35, 36, 37, 38, 39, 40, 41, 42, 43, 44, 45, 46, 47, 48, 49, 50, 51, 55, 56, 57, 58, 59, 60, 61, 62, 63, 64, 65, 66] (by decide +kernel) (by decide +kernel)
set_option maxRecDepth 20000 in
theorem gX3_minutesToFade_X1_fadesIn : GoodIn wsX3_minutesToFade (wsV RX3 149 RX1 yX1_fadesIn wsX1_fadesIn) := goodIn_app (goodIn_of _ (by decide +kernel)) ggX3_minutesToFade_X1_fadesIn
theorem dX3_minutesToFade_0 : decode cX3_minutesToFade 0 = .ok (.iload_n 1, 1) := by decide +kernel
theorem dX3_minutesToFade_1 : decode cX3_minutesToFade 1 = .ok (.invokestatic 30, 3) := by decide +kernel
theorem dX3_minutesToFade_4 : decode cX3_minutesToFade 4 = .ok (.iload_n 2, 1) := by decide +kernel
theorem dX3_minutesToFade_5 : decode cX3_minutesToFade 5 = .ok (.invokestatic 34, 3) := by decide +kernel
theorem dX3_minutesToFade_8 : decode cX3_minutesToFade 8 = .ok (.aload_n 0, 1) := by decide +kernel
theorem dX3_minutesToFade_9 : decode cX3_minutesToFade 9 = .ok (.getfield 12, 3) := by decide +kernel
theorem dX3_minutesToFade_12 : decode cX3_minutesToFade 12 = .ok (.iload_n 1, 1) := by decide +kernel
theorem dX3_minutesToFade_13 : decode cX3_minutesToFade 13 = .ok (.iload_n 2, 1) := by decide +kernel
theorem dX3_minutesToFade_14 : decode cX3_minutesToFade 14 = .ok (.invokestatic 37, 3) := by decide +kernel
theorem dX3_minutesToFade_17 : decode cX3_minutesToFade 17 = .ok (.invokevirtual 149, 3) := by decide +kernel
theorem dX3_minutesToFade_20 : decode cX3_minutesToFade 20 = .ok (.ireturn, 1) := by decide +kernel
set_option maxRecDepth 20000 in
theorem ggX3_minutesToQuestion_X1_asksIn : GoodIn wsX3_minutesToQuestion wsX1_asksIn := goodIn_r _ [6, 7, 8, 9, 10, 11, 12, 13, 14, 5, 15, 16, 17, 18, 19, 20, 21, 22, 26, 27, 28, 29, 30, 31, 32, 33, 34, 35, 36, 37] (by decide +kernel) (by decide +kernel)
set_option maxRecDepth 20000 in
theorem gX3_minutesToQuestion_X1_asksIn : GoodIn wsX3_minutesToQuestion (wsV RX3 152 RX1 yX1_asksIn wsX1_asksIn) := goodIn_app (goodIn_of _ (by decide +kernel)) ggX3_minutesToQuestion_X1_asksIn
theorem dX3_minutesToQuestion_0 : decode cX3_minutesToQuestion 0 = .ok (.aload_n 0, 1) := by decide +kernel
theorem dX3_minutesToQuestion_1 : decode cX3_minutesToQuestion 1 = .ok (.getfield 12, 3) := by decide +kernel
theorem dX3_minutesToQuestion_4 : decode cX3_minutesToQuestion 4 = .ok (.invokevirtual 152, 3) := by decide +kernel
theorem dX3_minutesToQuestion_7 : decode cX3_minutesToQuestion 7 = .ok (.ireturn, 1) := by decide +kernel
set_option maxRecDepth 20000 in
theorem ggX3_undo_X2_takeBack : GoodIn wsX3_undo wsX2_takeBack := goodIn_r _ [10, 11, 12, 13, 14, 15, 16, 17, 18, 19, 20, 21, 22, 23, 24, 25, 26, 27, 28, 29, 30, 31, 32, 33, 34, 38, 39, 40, 41, 42, 43, 44, 45, 46, 47, 48, 49, 50, 51, 52] (by decide +kernel) (by decide +kernel)
set_option maxRecDepth 20000 in
theorem gX3_undo_X2_takeBack : GoodIn wsX3_undo (wsV RX3 186 RX2 yX2_takeBack wsX2_takeBack) := goodIn_app (goodIn_of _ (by decide +kernel)) ggX3_undo_X2_takeBack
theorem dX3_undo_0 : decode cX3_undo 0 = .ok (.aload_n 0, 1) := by decide +kernel
theorem dX3_undo_1 : decode cX3_undo 1 = .ok (.getfield 19, 3) := by decide +kernel
theorem dX3_undo_4 : decode cX3_undo 4 = .ok (.getfield 181, 3) := by decide +kernel
theorem dX3_undo_7 : decode cX3_undo 7 = .ok (.ifCond .ne 13, 3) := by decide +kernel
theorem dX3_undo_10 : decode cX3_undo 10 = .ok (.new 45, 3) := by decide +kernel
theorem dX3_undo_13 : decode cX3_undo 13 = .ok (.dup, 1) := by decide +kernel
theorem dX3_undo_14 : decode cX3_undo 14 = .ok (.ldc 184, 2) := by decide +kernel
theorem dX3_undo_16 : decode cX3_undo 16 = .ok (.invokespecial 49, 3) := by decide +kernel
theorem dX3_undo_19 : decode cX3_undo 19 = .ok (.athrow, 1) := by decide +kernel
theorem dX3_undo_20 : decode cX3_undo 20 = .ok (.aload_n 0, 1) := by decide +kernel
theorem dX3_undo_21 : decode cX3_undo 21 = .ok (.getfield 19, 3) := by decide +kernel
theorem dX3_undo_24 : decode cX3_undo 24 = .ok (.aload_n 0, 1) := by decide +kernel
theorem dX3_undo_25 : decode cX3_undo 25 = .ok (.getfield 12, 3) := by decide +kernel
theorem dX3_undo_28 : decode cX3_undo 28 = .ok (.invokevirtual 186, 3) := by decide +kernel
theorem dX3_undo_31 : decode cX3_undo 31 = .ok (.aload_n 0, 1) := by decide +kernel
theorem dX3_undo_32 : decode cX3_undo 32 = .ok (.getfield 19, 3) := by decide +kernel
theorem dX3_undo_35 : decode cX3_undo 35 = .ok (.getfield 181, 3) := by decide +kernel
theorem dX3_undo_38 : decode cX3_undo 38 = .ok (.ireturn, 1) := by decide +kernel
theorem dX3_savedStates_0 : decode cX3_savedStates 0 = .ok (.aload_n 0, 1) := by decide +kernel
theorem dX3_savedStates_1 : decode cX3_savedStates 1 = .ok (.getfield 19, 3) := by decide +kernel
theorem dX3_savedStates_4 : decode cX3_savedStates 4 = .ok (.getfield 181, 3) := by decide +kernel
theorem dX3_savedStates_7 : decode cX3_savedStates 7 = .ok (.ireturn, 1) := by decide +kernel
set_option maxRecDepth 20000 in
theorem ggX3_checkRow_X3_isRow : GoodIn wsX3_checkRow wsX3_isRow := goodIn_r _ [6] (by decide +kernel) (by decide +kernel)
set_option maxRecDepth 20000 in
theorem gX3_checkRow_X3_isRow : GoodIn wsX3_checkRow (va_wsS RX3 200 yX3_isRow wsX3_isRow) := goodIn_app (goodIn_of _ (by decide +kernel)) ggX3_checkRow_X3_isRow
theorem dX3_checkRow_0 : decode cX3_checkRow 0 = .ok (.iload_n 0, 1) := by decide +kernel
theorem dX3_checkRow_1 : decode cX3_checkRow 1 = .ok (.invokestatic 200, 3) := by decide +kernel
theorem dX3_checkRow_4 : decode cX3_checkRow 4 = .ok (.ifCond .ne 13, 3) := by decide +kernel
theorem dX3_checkRow_7 : decode cX3_checkRow 7 = .ok (.new 101, 3) := by decide +kernel
theorem dX3_checkRow_10 : decode cX3_checkRow 10 = .ok (.dup, 1) := by decide +kernel
theorem dX3_checkRow_11 : decode cX3_checkRow 11 = .ok (.ldc 203, 2) := by decide +kernel
theorem dX3_checkRow_13 : decode cX3_checkRow 13 = .ok (.invokespecial 105, 3) := by decide +kernel
theorem dX3_checkRow_16 : decode cX3_checkRow 16 = .ok (.athrow, 1) := by decide +kernel
theorem dX3_checkRow_17 : decode cX3_checkRow 17 = .ok (.return_, 1) := by decide +kernel
set_option maxRecDepth 20000 in
theorem ggX3_checkConcert_X3_isConcert : GoodIn wsX3_checkConcert wsX3_isConcert := goodIn_r _ [6] (by decide +kernel) (by decide +kernel)
set_option maxRecDepth 20000 in
theorem gX3_checkConcert_X3_isConcert : GoodIn wsX3_checkConcert (va_wsS RX3 205 yX3_isConcert wsX3_isConcert) := goodIn_app (goodIn_of _ (by decide +kernel)) ggX3_checkConcert_X3_isConcert
theorem dX3_checkConcert_0 : decode cX3_checkConcert 0 = .ok (.iload_n 0, 1) := by decide +kernel
theorem dX3_checkConcert_1 : decode cX3_checkConcert 1 = .ok (.invokestatic 205, 3) := by decide +kernel
theorem dX3_checkConcert_4 : decode cX3_checkConcert 4 = .ok (.ifCond .ne 13, 3) := by decide +kernel
theorem dX3_checkConcert_7 : decode cX3_checkConcert 7 = .ok (.new 101, 3) := by decide +kernel
theorem dX3_checkConcert_10 : decode cX3_checkConcert 10 = .ok (.dup, 1) := by decide +kernel
theorem dX3_checkConcert_11 : decode cX3_checkConcert 11 = .ok (.ldc 208, 2) := by decide +kernel
theorem dX3_checkConcert_13 : decode cX3_checkConcert 13 = .ok (.invokespecial 105, 3) := by decide +kernel
theorem dX3_checkConcert_16 : decode cX3_checkConcert 16 = .ok (.athrow, 1) := by decide +kernel
theorem dX3_checkConcert_17 : decode cX3_checkConcert 17 = .ok (.return_, 1) := by decide +kernel
theorem dX3_checkMinutes_0 : decode cX3_checkMinutes 0 = .ok (.iload_n 0, 1) := by decide +kernel
theorem dX3_checkMinutes_1 : decode cX3_checkMinutes 1 = .ok (.iconst 1, 1) := by decide +kernel
theorem dX3_checkMinutes_2 : decode cX3_checkMinutes 2 = .ok (.if_icmp .lt 9, 3) := by decide +kernel
theorem dX3_checkMinutes_5 : decode cX3_checkMinutes 5 = .ok (.iload_n 0, 1) := by decide +kernel
theorem dX3_checkMinutes_6 : decode cX3_checkMinutes 6 = .ok (.bipush 60, 2) := by decide +kernel
theorem dX3_checkMinutes_8 : decode cX3_checkMinutes 8 = .ok (.if_icmp .le 13, 3) := by decide +kernel
theorem dX3_checkMinutes_11 : decode cX3_checkMinutes 11 = .ok (.new 82, 3) := by decide +kernel
theorem dX3_checkMinutes_14 : decode cX3_checkMinutes 14 = .ok (.dup, 1) := by decide +kernel
theorem dX3_checkMinutes_15 : decode cX3_checkMinutes 15 = .ok (.ldc 210, 2) := by decide +kernel
theorem dX3_checkMinutes_17 : decode cX3_checkMinutes 17 = .ok (.invokespecial 86, 3) := by decide +kernel
theorem dX3_checkMinutes_20 : decode cX3_checkMinutes 20 = .ok (.athrow, 1) := by decide +kernel
theorem dX3_checkMinutes_21 : decode cX3_checkMinutes 21 = .ok (.return_, 1) := by decide +kernel
theorem dX3_isRow_0 : decode cX3_isRow 0 = .ok (.iload_n 0, 1) := by decide +kernel
theorem dX3_isRow_1 : decode cX3_isRow 1 = .ok (.ifCond .lt 13, 3) := by decide +kernel
theorem dX3_isRow_4 : decode cX3_isRow 4 = .ok (.iload_n 0, 1) := by decide +kernel
theorem dX3_isRow_5 : decode cX3_isRow 5 = .ok (.bipush 8, 2) := by decide +kernel
theorem dX3_isRow_7 : decode cX3_isRow 7 = .ok (.if_icmp .ge 7, 3) := by decide +kernel
theorem dX3_isRow_10 : decode cX3_isRow 10 = .ok (.iconst 1, 1) := by decide +kernel
theorem dX3_isRow_11 : decode cX3_isRow 11 = .ok (.goto 4, 3) := by decide +kernel
theorem dX3_isRow_14 : decode cX3_isRow 14 = .ok (.iconst 0, 1) := by decide +kernel
theorem dX3_isRow_15 : decode cX3_isRow 15 = .ok (.ireturn, 1) := by decide +kernel
theorem dX3_isConcert_0 : decode cX3_isConcert 0 = .ok (.iload_n 0, 1) := by decide +kernel
theorem dX3_isConcert_1 : decode cX3_isConcert 1 = .ok (.ifCond .lt 13, 3) := by decide +kernel
theorem dX3_isConcert_4 : decode cX3_isConcert 4 = .ok (.iload_n 0, 1) := by decide +kernel
theorem dX3_isConcert_5 : decode cX3_isConcert 5 = .ok (.bipush 6, 2) := by decide +kernel
theorem dX3_isConcert_7 : decode cX3_isConcert 7 = .ok (.if_icmp .ge 7, 3) := by decide +kernel
theorem dX3_isConcert_10 : decode cX3_isConcert 10 = .ok (.iconst 1, 1) := by decide +kernel
theorem dX3_isConcert_11 : decode cX3_isConcert 11 = .ok (.goto 4, 3) := by decide +kernel
theorem dX3_isConcert_14 : decode cX3_isConcert 14 = .ok (.iconst 0, 1) := by decide +kernel
theorem dX3_isConcert_15 : decode cX3_isConcert 15 = .ok (.ireturn, 1) := by decide +kernel
theorem dX3_placeOf_0 : decode cX3_placeOf 0 = .ok (.iload_n 0, 1) := by decide +kernel
theorem dX3_placeOf_1 : decode cX3_placeOf 1 = .ok (.bipush 6, 2) := by decide +kernel
theorem dX3_placeOf_3 : decode cX3_placeOf 3 = .ok (.imul, 1) := by decide +kernel
theorem dX3_placeOf_4 : decode cX3_placeOf 4 = .ok (.iload_n 1, 1) := by decide +kernel
theorem dX3_placeOf_5 : decode cX3_placeOf 5 = .ok (.iadd, 1) := by decide +kernel
theorem dX3_placeOf_6 : decode cX3_placeOf 6 = .ok (.ireturn, 1) := by decide +kernel
theorem dJ6_bitCount_0f7a4_0 : decode cJ6_bitCount_0f7a4 0 = .ok (.iload_n 0, 1) := by decide +kernel
theorem dJ6_bitCount_0f7a4_1 : decode cJ6_bitCount_0f7a4 1 = .ok (.iload_n 0, 1) := by decide +kernel
theorem dJ6_bitCount_0f7a4_2 : decode cJ6_bitCount_0f7a4 2 = .ok (.iconst 1, 1) := by decide +kernel
theorem dJ6_bitCount_0f7a4_3 : decode cJ6_bitCount_0f7a4 3 = .ok (.iushr, 1) := by decide +kernel
theorem dJ6_bitCount_0f7a4_4 : decode cJ6_bitCount_0f7a4 4 = .ok (.ldc_w 265, 3) := by decide +kernel
theorem dJ6_bitCount_0f7a4_7 : decode cJ6_bitCount_0f7a4 7 = .ok (.iand, 1) := by decide +kernel
theorem dJ6_bitCount_0f7a4_8 : decode cJ6_bitCount_0f7a4 8 = .ok (.isub, 1) := by decide +kernel
theorem dJ6_bitCount_0f7a4_9 : decode cJ6_bitCount_0f7a4 9 = .ok (.istore_n 0, 1) := by decide +kernel
theorem dJ6_bitCount_0f7a4_10 : decode cJ6_bitCount_0f7a4 10 = .ok (.iload_n 0, 1) := by decide +kernel
theorem dJ6_bitCount_0f7a4_11 : decode cJ6_bitCount_0f7a4 11 = .ok (.ldc_w 266, 3) := by decide +kernel
theorem dJ6_bitCount_0f7a4_14 : decode cJ6_bitCount_0f7a4 14 = .ok (.iand, 1) := by decide +kernel
theorem dJ6_bitCount_0f7a4_15 : decode cJ6_bitCount_0f7a4 15 = .ok (.iload_n 0, 1) := by decide +kernel
theorem dJ6_bitCount_0f7a4_16 : decode cJ6_bitCount_0f7a4 16 = .ok (.iconst 2, 1) := by decide +kernel
theorem dJ6_bitCount_0f7a4_17 : decode cJ6_bitCount_0f7a4 17 = .ok (.iushr, 1) := by decide +kernel
theorem dJ6_bitCount_0f7a4_18 : decode cJ6_bitCount_0f7a4 18 = .ok (.ldc_w 266, 3) := by decide +kernel
theorem dJ6_bitCount_0f7a4_21 : decode cJ6_bitCount_0f7a4 21 = .ok (.iand, 1) := by decide +kernel
theorem dJ6_bitCount_0f7a4_22 : decode cJ6_bitCount_0f7a4 22 = .ok (.iadd, 1) := by decide +kernel
theorem dJ6_bitCount_0f7a4_23 : decode cJ6_bitCount_0f7a4 23 = .ok (.istore_n 0, 1) := by decide +kernel
theorem dJ6_bitCount_0f7a4_24 : decode cJ6_bitCount_0f7a4 24 = .ok (.iload_n 0, 1) := by decide +kernel
theorem dJ6_bitCount_0f7a4_25 : decode cJ6_bitCount_0f7a4 25 = .ok (.iload_n 0, 1) := by decide +kernel
theorem dJ6_bitCount_0f7a4_26 : decode cJ6_bitCount_0f7a4 26 = .ok (.iconst 4, 1) := by decide +kernel
theorem dJ6_bitCount_0f7a4_27 : decode cJ6_bitCount_0f7a4 27 = .ok (.iushr, 1) := by decide +kernel
theorem dJ6_bitCount_0f7a4_28 : decode cJ6_bitCount_0f7a4 28 = .ok (.iadd, 1) := by decide +kernel
theorem dJ6_bitCount_0f7a4_29 : decode cJ6_bitCount_0f7a4 29 = .ok (.ldc_w 267, 3) := by decide +kernel
theorem dJ6_bitCount_0f7a4_32 : decode cJ6_bitCount_0f7a4 32 = .ok (.iand, 1) := by decide +kernel
theorem dJ6_bitCount_0f7a4_33 : decode cJ6_bitCount_0f7a4 33 = .ok (.istore_n 0, 1) := by decide +kernel
theorem dJ6_bitCount_0f7a4_34 : decode cJ6_bitCount_0f7a4 34 = .ok (.iload_n 0, 1) := by decide +kernel
theorem dJ6_bitCount_0f7a4_35 : decode cJ6_bitCount_0f7a4 35 = .ok (.iload_n 0, 1) := by decide +kernel
theorem dJ6_bitCount_0f7a4_36 : decode cJ6_bitCount_0f7a4 36 = .ok (.bipush 8, 2) := by decide +kernel
theorem dJ6_bitCount_0f7a4_38 : decode cJ6_bitCount_0f7a4 38 = .ok (.iushr, 1) := by decide +kernel
theorem dJ6_bitCount_0f7a4_39 : decode cJ6_bitCount_0f7a4 39 = .ok (.iadd, 1) := by decide +kernel
theorem dJ6_bitCount_0f7a4_40 : decode cJ6_bitCount_0f7a4 40 = .ok (.istore_n 0, 1) := by decide +kernel
theorem dJ6_bitCount_0f7a4_41 : decode cJ6_bitCount_0f7a4 41 = .ok (.iload_n 0, 1) := by decide +kernel
theorem dJ6_bitCount_0f7a4_42 : decode cJ6_bitCount_0f7a4 42 = .ok (.iload_n 0, 1) := by decide +kernel
theorem dJ6_bitCount_0f7a4_43 : decode cJ6_bitCount_0f7a4 43 = .ok (.bipush 16, 2) := by decide +kernel
theorem dJ6_bitCount_0f7a4_45 : decode cJ6_bitCount_0f7a4 45 = .ok (.iushr, 1) := by decide +kernel
theorem dJ6_bitCount_0f7a4_46 : decode cJ6_bitCount_0f7a4 46 = .ok (.iadd, 1) := by decide +kernel
theorem dJ6_bitCount_0f7a4_47 : decode cJ6_bitCount_0f7a4 47 = .ok (.istore_n 0, 1) := by decide +kernel
theorem dJ6_bitCount_0f7a4_48 : decode cJ6_bitCount_0f7a4 48 = .ok (.iload_n 0, 1) := by decide +kernel
theorem dJ6_bitCount_0f7a4_49 : decode cJ6_bitCount_0f7a4 49 = .ok (.bipush 63, 2) := by decide +kernel
theorem dJ6_bitCount_0f7a4_51 : decode cJ6_bitCount_0f7a4 51 = .ok (.iand, 1) := by decide +kernel
theorem dJ6_bitCount_0f7a4_52 : decode cJ6_bitCount_0f7a4 52 = .ok (.ireturn, 1) := by decide +kernel
theorem dJ9_max_7cf53_0 : decode cJ9_max_7cf53 0 = .ok (.iload_n 0, 1) := by decide +kernel
theorem dJ9_max_7cf53_1 : decode cJ9_max_7cf53 1 = .ok (.iload_n 1, 1) := by decide +kernel
theorem dJ9_max_7cf53_2 : decode cJ9_max_7cf53 2 = .ok (.if_icmp .lt 7, 3) := by decide +kernel
theorem dJ9_max_7cf53_5 : decode cJ9_max_7cf53 5 = .ok (.iload_n 0, 1) := by decide +kernel
theorem dJ9_max_7cf53_6 : decode cJ9_max_7cf53 6 = .ok (.goto 4, 3) := by decide +kernel
theorem dJ9_max_7cf53_9 : decode cJ9_max_7cf53 9 = .ok (.iload_n 1, 1) := by decide +kernel
theorem dJ9_max_7cf53_10 : decode cJ9_max_7cf53 10 = .ok (.ireturn, 1) := by decide +kernel
